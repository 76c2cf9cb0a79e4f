theorem dX10_term_0 : decode cX10_term 0 = .ok (.aload_n 0, 1) := by decide +kernel
theorem dX10_term_1 : decode cX10_term 1 = .ok (.invokevirtual 325, 3) := by decide +kernel
theorem dX10_term_4 : decode cX10_term 4 = .ok (.aload_n 0, 1) := by decide +kernel
theorem dX10_term_5 : decode cX10_term 5 = .ok (.invokevirtual 287, 3) := by decide +kernel
theorem dX10_term_8 : decode cX10_term 8 = .ok (.aload_n 0, 1) := by decide +kernel
theorem dX10_term_9 : decode cX10_term 9 = .ok (.getfield 264, 3) := by decide +kernel
theorem dX10_term_12 : decode cX10_term 12 = .ok (.ifCond .ne 65, 3) := by decide +kernel
theorem dX10_term_15 : decode cX10_term 15 = .ok (.aload_n 0, 1) := by decide +kernel
theorem dX10_term_16 : decode cX10_term 16 = .ok (.invokevirtual 270, 3) := by decide +kernel
theorem dX10_term_19 : decode cX10_term 19 = .ok (.bipush 42, 2) := by decide +kernel
theorem dX10_term_21 : decode cX10_term 21 = .ok (.if_icmp .eq 12, 3) := by decide +kernel
theorem dX10_term_24 : decode cX10_term 24 = .ok (.aload_n 0, 1) := by decide +kernel
theorem dX10_term_25 : decode cX10_term 25 = .ok (.invokevirtual 270, 3) := by decide +kernel
theorem dX10_term_28 : decode cX10_term 28 = .ok (.bipush 47, 2) := by decide +kernel
theorem dX10_term_30 : decode cX10_term 30 = .ok (.if_icmp .ne 47, 3) := by decide +kernel
theorem dX10_term_33 : decode cX10_term 33 = .ok (.aload_n 0, 1) := by decide +kernel
theorem dX10_term_34 : decode cX10_term 34 = .ok (.invokevirtual 270, 3) := by decide +kernel
theorem dX10_term_37 : decode cX10_term 37 = .ok (.bipush 42, 2) := by decide +kernel
theorem dX10_term_39 : decode cX10_term 39 = .ok (.if_icmp .ne 8, 3) := by decide +kernel
theorem dX10_term_42 : decode cX10_term 42 = .ok (.bipush 13, 2) := by decide +kernel
theorem dX10_term_44 : decode cX10_term 44 = .ok (.goto 5, 3) := by decide +kernel
theorem dX10_term_47 : decode cX10_term 47 = .ok (.bipush 14, 2) := by decide +kernel
theorem dX10_term_49 : decode cX10_term 49 = .ok (.istore_n 1, 1) := by decide +kernel
theorem dX10_term_50 : decode cX10_term 50 = .ok (.aload_n 0, 1) := by decide +kernel
theorem dX10_term_51 : decode cX10_term 51 = .ok (.dup, 1) := by decide +kernel
theorem dX10_term_52 : decode cX10_term 52 = .ok (.getfield 267, 3) := by decide +kernel
theorem dX10_term_55 : decode cX10_term 55 = .ok (.iconst 1, 1) := by decide +kernel
theorem dX10_term_56 : decode cX10_term 56 = .ok (.iadd, 1) := by decide +kernel
theorem dX10_term_57 : decode cX10_term 57 = .ok (.putfield 267, 3) := by decide +kernel
theorem dX10_term_60 : decode cX10_term 60 = .ok (.aload_n 0, 1) := by decide +kernel
theorem dX10_term_61 : decode cX10_term 61 = .ok (.invokevirtual 325, 3) := by decide +kernel
theorem dX10_term_64 : decode cX10_term 64 = .ok (.aload_n 0, 1) := by decide +kernel
theorem dX10_term_65 : decode cX10_term 65 = .ok (.iload_n 1, 1) := by decide +kernel
theorem dX10_term_66 : decode cX10_term 66 = .ok (.iconst 0, 1) := by decide +kernel
theorem dX10_term_67 : decode cX10_term 67 = .ok (.invokevirtual 318, 3) := by decide +kernel
theorem dX10_term_70 : decode cX10_term 70 = .ok (.aload_n 0, 1) := by decide +kernel
theorem dX10_term_71 : decode cX10_term 71 = .ok (.invokevirtual 287, 3) := by decide +kernel
theorem dX10_term_74 : decode cX10_term 74 = .ok (.goto (-66), 3) := by decide +kernel
theorem dX10_term_77 : decode cX10_term 77 = .ok (.return_, 1) := by decide +kernel
theorem ce_X10_term : CeV RX10 yX10_term cX10_term 2 none 0 := ⟨tb_1541, tp_69, tb_11, tb_1542, rfl, by decide, by decide, by decide +kernel⟩
set_option maxHeartbeats 4000000 in
set_option maxRecDepth 20000 in
theorem V_X10_term (l : Launch) (D : va_G) (A : Nat → Prop) (ad : Nat → Nat) (ns : List Nat) (I : MI) (L : ML) (G : MG) (hJ : SGM ns G) (hI : INV I) (hp : (I 1000 25).toInt ≤ 400) (hPI : Imp ((I 1000 26).toInt = 0) (0 ≤ (I 1000 31).toInt ∧ (I 1000 31).toInt ≤ 60 ∧ 3 * (I 1000 29).toInt ≤ 6 * (I 1000 31).toInt + (I 1000 25).toInt)) : Met l yX10_term (wd yX10_term cX10_term 2 none) ({ frames := 6, cells := 0, slots := 0, locals := 131 }) (va_Pc [.ref (ad (1000))] (PM D A ad ns I L G)) (va_Qv (fun u => ∃ I2 L2, u = (ad, ns, I2, L2, G) ∧ INV I2 ∧ Kp [(1035, 1037)] [(1000, 25), (1000, 26), (1000, 29), (1000, 31)] I I2 ∧ ((I 1000 25).toInt ≤ (I2 1000 25).toInt ∧ (I2 1000 25).toInt ≤ 400 ∧ (I 1000 29).toInt ≤ (I2 1000 29).toInt ∧ Imp ((I2 1000 26).toInt = 0) ((I 1000 26).toInt = 0 ∧ (I 1000 31).toInt + 1 ≤ (I2 1000 31).toInt ∧ (I2 1000 31).toInt ≤ 60 ∧ (I2 1000 29).toInt + 1 ≤ (I 1000 29).toInt + 2 * ((I2 1000 31).toInt - (I 1000 31).toInt)) ∧ CT I I2 0 1)) (BM D A) A) 0 0 A := by
  refine m_ofW (by decide) (Nat.le_of_ble_eq_true rfl) ?_
  intro p e s m below meth c ls args hC hE hM hA hS hl
  obtain ⟨hx, hb, hml, hown, hts, hr, hlocks, hin⟩ := hC
  have k0 : (0 : Int32).toInt = 0 := by decide
  have k1 : (1 : Int32).toInt = 1 := by decide
  have k13 : (13 : Int32).toInt = 13 := by decide
  have k14 : (14 : Int32).toInt = 14 := by decide
  have k42 : (42 : Int32).toInt = 42 := by decide
  have k47 : (47 : Int32).toInt = 47 := by decide
  have hC := CT.rf I 0
  have hI0 := hI
  have hK : Kp [(1035, 1037)] [(1000, 25), (1000, 26), (1000, 29), (1000, 31)] I I := Kp.rf
  have hl : lv_has ls 2 [(0, .ref (ad (1000)))] := hl
  refine lv_aload_n hx hb dX10_term_0 rfl (lv_at hl 0 rfl) ?_
  refine m_callv (m_runV (1000) (As := []) (rest := []) hx hb hml hown hts hE hM hS hA ce_X10_value tb_1543 (V_X10_value l D A ad ns I L G hJ hI (by omega) (fun hz => by have w0 := hPI (by omega); omega)) rfl rfl ⟨Nat.le_of_ble_eq_true rfl, Nat.le_of_ble_eq_true rfl⟩ hJ.1 rfl rfl (by decide) rfl hl.1 rfl (Nat.le_of_ble_eq_true rfl) dX10_term_1 ⟨Nat.le_of_ble_eq_true rfl, Nat.le_of_ble_eq_true rfl⟩) hS (fun u H locs hw hM hS => ?_)
  obtain ⟨I1, L2, rfl, hI, hkI1, xI1⟩ := hw
  have hM : Mem D A ad ns I1 L2 G H := hM
  have hK := hK.trans hkI1 rfl
  have pw3 : (I1 (1000) 24).toInt = (I (1000) 24 : Int32).toInt := congrArg Int32.toInt ((hkI1.get (1000) 24 rfl))
  have pw4 : (I1 (1000) 27).toInt = (I (1000) 27 : Int32).toInt := congrArg Int32.toInt ((hkI1.get (1000) 27 rfl))
  have pw5 : (I1 (1000) 32).toInt = (I (1000) 32 : Int32).toInt := congrArg Int32.toInt ((hkI1.get (1000) 32 rfl))
  have g6 := hI0.get 1000 27 (lo := 0) (hi := 5) rfl
  have g7 := hI0.get 1000 29 (lo := 0) (hi := 300) rfl
  replace hC := hC.comp ((xI1.2.2.2.2).mono0 (0)) (by omega) (by omega) (by omega) (by omega) (fun hz => (xI1.2.2.2.1 hz).1)
  refine lv_aload_n hx hb dX10_term_4 rfl (lv_at hl 0 rfl) ?_
  refine m_callv (m_runV (1000) (As := []) (rest := []) hx hb hml hown hts hE hM hS hA ce_X10_blanks tb_1506 (V_X10_blanks l D A ad ns I1 L2 G hJ hI (by omega)) rfl rfl ⟨Nat.le_of_ble_eq_true rfl, Nat.le_of_ble_eq_true rfl⟩ hJ.1 rfl rfl (by decide) rfl hl.1 rfl (Nat.le_of_ble_eq_true rfl) dX10_term_5 ⟨Nat.le_of_ble_eq_true rfl, Nat.le_of_ble_eq_true rfl⟩) hS (fun u H locs hw hM hS => ?_)
  obtain ⟨I8, L9, rfl, hI, hkI8, xI8⟩ := hw
  have hM : Mem D A ad ns I8 L9 G H := hM
  have hK := hK.trans hkI8 rfl
  have pw10 : (I8 (1000) 24).toInt = (I (1000) 24 : Int32).toInt := congrArg Int32.toInt (((hkI8.get (1000) 24 rfl)).trans (hkI1.get (1000) 24 rfl))
  have pw11 : (I8 (1000) 26).toInt = (I1 (1000) 26 : Int32).toInt := congrArg Int32.toInt ((hkI8.get (1000) 26 rfl))
  have pw12 : (I8 (1000) 27).toInt = (I (1000) 27 : Int32).toInt := congrArg Int32.toInt (((hkI8.get (1000) 27 rfl)).trans (hkI1.get (1000) 27 rfl))
  have pw13 : (I8 (1000) 29).toInt = (I1 (1000) 29 : Int32).toInt := congrArg Int32.toInt ((hkI8.get (1000) 29 rfl))
  have pw14 : (I8 (1000) 31).toInt = (I1 (1000) 31 : Int32).toInt := congrArg Int32.toInt ((hkI8.get (1000) 31 rfl))
  have pw15 : (I8 (1000) 32).toInt = (I (1000) 32 : Int32).toInt := congrArg Int32.toInt (((hkI8.get (1000) 32 rfl)).trans (hkI1.get (1000) 32 rfl))
  replace hC := CT.link (I2 := I8) hC ((hkI8.getA 1035 rfl)) ((hkI8.getA 1036 rfl)) (by omega) (fun hz => by have w0 := xI1.2.2.2.1 (by omega); have w1 := hPI (by omega); omega)
  have loop8 : ∀ (n : Nat)  (Ia8 : MI) (La8 : ML) (H : Heap) (locs : List Loc) (ls : Array Slot), INV Ia8 → Kp [(1035, 1037)] [(1000, 25), (1000, 26), (1000, 29), (1000, 31)] I Ia8 → ((I 1000 25).toInt ≤ (Ia8 1000 25).toInt ∧ (Ia8 1000 25).toInt ≤ 400 ∧ (I 1000 29).toInt ≤ (Ia8 1000 29).toInt) → (Imp ((Ia8 1000 26).toInt = 0) ((I 1000 26).toInt = 0 ∧ (I 1000 31).toInt + 1 ≤ (Ia8 1000 31).toInt ∧ (Ia8 1000 31).toInt ≤ 60 ∧ (Ia8 1000 29).toInt + 1 ≤ (I 1000 29).toInt + 2 * ((Ia8 1000 31).toInt - (I 1000 31).toInt))) → (CT I Ia8 0 1) → (400 - (Ia8 1000 25).toInt).toNat < n → Mem D A ad ns Ia8 La8 G H → va_S A s.heap H locs → lv_has ls 2 [(0, .ref (ad (1000)))] → W p l e ({ frames := 6, cells := 0, slots := 0, locals := 131 } : Room) s m args below meth c H locs 0 0 (MQ below (va_Qv (fun u => ∃ I2 L2, u = (ad, ns, I2, L2, G) ∧ INV I2 ∧ Kp [(1035, 1037)] [(1000, 25), (1000, 26), (1000, 29), (1000, 31)] I I2 ∧ ((I 1000 25).toInt ≤ (I2 1000 25).toInt ∧ (I2 1000 25).toInt ≤ 400 ∧ (I 1000 29).toInt ≤ (I2 1000 29).toInt ∧ Imp ((I2 1000 26).toInt = 0) ((I 1000 26).toInt = 0 ∧ (I 1000 31).toInt + 1 ≤ (I2 1000 31).toInt ∧ (I2 1000 31).toInt ≤ 60 ∧ (I2 1000 29).toInt + 1 ≤ (I 1000 29).toInt + 2 * ((I2 1000 31).toInt - (I 1000 31).toInt)) ∧ CT I I2 0 1)) (BM D A) A) args s 0 0 A) (F0 m 8 ls []) := by
    intro n
    induction n with
    | zero =>
      intro  Ia8 La8 H locs ls hI hK hlin hcn hC hmu
      exact absurd hmu (Nat.not_lt_zero _)
    | succ n ih8 =>
      intro  Ia8 La8 H locs ls hI hK hlin hcn hC hmu8 hM hS hl
      have pk27 := congrArg Int32.toInt (hK.get 1000 27 rfl)
      have pk24 := congrArg Int32.toInt (hK.get 1000 24 rfl)
      have gx27 := hI0.get 1000 27 (lo := 0) (hi := 5) rfl
      have gx29 := hI0.get 1000 29 (lo := 0) (hi := 300) rfl
      refine lv_aload_n hx hb dX10_term_8 rfl (lv_at hl 0 rfl) ?_
      refine m_geti (1000) 26 hx hb hts hown hE oc10 hM hJ.1 rfl (by decide) rfl tb_1203 dX10_term_9 ?_
      refine lv_if_ne (tgt := 77) hx hb dX10_term_12 (by decide) (fun c16 => ?_) (fun c16 => ?_)
      · have hc16 := c16
        have q16 := q_ne hc16
        exact m_vret hx hb hr hlocks hM hS (Nat.le_of_ble_eq_true rfl) (Nat.le_of_ble_eq_true rfl) ⟨_, _, rfl, hI, hK, ⟨by omega, by omega, by omega, (fun hz => by have w0 := hcn (by omega); have w1 := hPI (by omega); omega), hC⟩⟩ dX10_term_77
      · have hc16 := c16
        have q16 := q_eq hc16
        have w17 := hcn (by omega)
        have w18 := hPI (by omega)
        refine lv_aload_n hx hb dX10_term_15 rfl (lv_at hl 0 rfl) ?_
        refine m_calli (m_runV (1000) (As := []) (rest := []) hx hb hml hown hts hE hM hS hA ce_X10_sign tb_1510 (V_X10_sign l D A ad ns Ia8 La8 G hJ hI) rfl rfl ⟨Nat.le_of_ble_eq_true rfl, Nat.le_of_ble_eq_true rfl⟩ hJ.1 rfl rfl (by decide) rfl hl.1 rfl (Nat.le_of_ble_eq_true rfl) dX10_term_16 ⟨Nat.le_of_ble_eq_true rfl, Nat.le_of_ble_eq_true rfl⟩) hS (fun r19 u H locs hw hM hS => ?_)
        obtain ⟨rfl, xr19⟩ := hw
        have hM : Mem D A ad ns Ia8 La8 G H := hM
        have g20 := hI.get 1000 24 (lo := 0) (hi := 400) rfl
        have g21 := hI.get 1000 25 (lo := 0) (hi := 100000) rfl
        refine lv_bipush (v := (42)) hx hb dX10_term_19 (by decide) ?_
        refine lv_icmp_eq (tgt := 33) hx hb dX10_term_21 (by decide) (fun c22 => ?_) (fun c22 => ?_)
        · have hc22 := c22
          have q22 := q_eq hc22
          have sg23 := xr19.2.2 (by omega)
          refine lv_aload_n hx hb dX10_term_33 rfl (lv_at hl 0 rfl) ?_
          refine m_calli (m_runV (1000) (As := []) (rest := []) hx hb hml hown hts hE hM hS hA ce_X10_sign tb_1510 (V_X10_sign l D A ad ns Ia8 La8 G hJ hI) rfl rfl ⟨Nat.le_of_ble_eq_true rfl, Nat.le_of_ble_eq_true rfl⟩ hJ.1 rfl rfl (by decide) rfl hl.1 rfl (Nat.le_of_ble_eq_true rfl) dX10_term_34 ⟨Nat.le_of_ble_eq_true rfl, Nat.le_of_ble_eq_true rfl⟩) hS (fun r24 u H locs hw hM hS => ?_)
          obtain ⟨rfl, xr24⟩ := hw
          have hM : Mem D A ad ns Ia8 La8 G H := hM
          have g25 := hI.get 1000 24 (lo := 0) (hi := 400) rfl
          have g26 := hI.get 1000 25 (lo := 0) (hi := 100000) rfl
          refine lv_bipush (v := (42)) hx hb dX10_term_37 (by decide) ?_
          refine lv_icmp_ne (tgt := 47) hx hb dX10_term_39 (by decide) (fun c27 => ?_) (fun c27 => ?_)
          · have hc27 := c27
            have q27 := q_ne hc27
            refine lv_bipush (v := (14)) hx hb dX10_term_47 (by decide) ?_
            refine lv_istore_n (lv' := [(1, .int (14)), (0, .ref (ad (1000)))]) hx hb dX10_term_49 rfl hl (by decide) rfl (fun ls hl => ?_)
            refine lv_aload_n hx hb dX10_term_50 rfl (lv_at hl 1 rfl) ?_
            refine lv_dup hx hb dX10_term_51 rfl ?_
            refine m_geti (1000) 25 hx hb hts hown hE oc10 hM hJ.1 rfl (by decide) rfl tb_1202 dX10_term_52 ?_
            have g28 := hI.get (1000) 25 (lo := 0) (hi := 100000) rfl
            refine lv_iconst (v := (1)) hx hb dX10_term_55 (by decide) ?_
            refine lv_iadd hx hb dX10_term_56 ?_
            refine lv_topi (fun v29 ev29 => ?_)
            have tv29 := a_add ev29 (by omega) (by omega)
            refine m_puti (1000) 25 hx hb hts hown hE oc10 hM hS hJ.1 rfl (by decide) rfl rfl rfl rfl tb_1202 dX10_term_57 (fun H locs I30 eI30 hM hS => ?_)
            subst eI30
            have hI := hI.put (n := 1000) (k := 25) (v := v29) (lo := 0) (hi := 100000) rfl (by first | omega | decide)
            have hK := hK.put (n := 1000) (k := 25) (v := v29) (by first | rfl | simp [inR])
            refine lv_aload_n hx hb dX10_term_60 rfl (lv_at hl 1 rfl) ?_
            have pw31 : ((u2 Ia8 (1000) 25 (v29)) (1000) 24).toInt = (Ia8 (1000) 24 : Int32).toInt := congrArg Int32.toInt ((show (u2 Ia8 (1000) 25 (v29)) (1000) 24 = Ia8 (1000) 24 from by simp [u2_v]))
            have pw32 : ((u2 Ia8 (1000) 25 (v29)) (1000) 25).toInt = (v29 : Int32).toInt := congrArg Int32.toInt ((show (u2 Ia8 (1000) 25 (v29)) (1000) 25 = v29 from by simp [u2_v]))
            have pw33 : ((u2 Ia8 (1000) 25 (v29)) (1000) 26).toInt = (Ia8 (1000) 26 : Int32).toInt := congrArg Int32.toInt ((show (u2 Ia8 (1000) 25 (v29)) (1000) 26 = Ia8 (1000) 26 from by simp [u2_v]))
            have pw34 : ((u2 Ia8 (1000) 25 (v29)) (1000) 27).toInt = (Ia8 (1000) 27 : Int32).toInt := congrArg Int32.toInt ((show (u2 Ia8 (1000) 25 (v29)) (1000) 27 = Ia8 (1000) 27 from by simp [u2_v]))
            have pw35 : ((u2 Ia8 (1000) 25 (v29)) (1000) 29).toInt = (Ia8 (1000) 29 : Int32).toInt := congrArg Int32.toInt ((show (u2 Ia8 (1000) 25 (v29)) (1000) 29 = Ia8 (1000) 29 from by simp [u2_v]))
            have pw36 : ((u2 Ia8 (1000) 25 (v29)) (1000) 31).toInt = (Ia8 (1000) 31 : Int32).toInt := congrArg Int32.toInt ((show (u2 Ia8 (1000) 25 (v29)) (1000) 31 = Ia8 (1000) 31 from by simp [u2_v]))
            have pw37 : ((u2 Ia8 (1000) 25 (v29)) (1000) 32).toInt = (Ia8 (1000) 32 : Int32).toInt := congrArg Int32.toInt ((show (u2 Ia8 (1000) 25 (v29)) (1000) 32 = Ia8 (1000) 32 from by simp [u2_v]))
            refine m_callv (m_runV (1000) (As := []) (rest := []) hx hb hml hown hts hE hM hS hA ce_X10_value tb_1543 (V_X10_value l D A ad ns (u2 Ia8 (1000) 25 (v29)) La8 G hJ hI (by omega) (fun hz => by omega)) rfl rfl ⟨Nat.le_of_ble_eq_true rfl, Nat.le_of_ble_eq_true rfl⟩ hJ.1 rfl rfl (by decide) rfl hl.1 rfl (Nat.le_of_ble_eq_true rfl) dX10_term_61 ⟨Nat.le_of_ble_eq_true rfl, Nat.le_of_ble_eq_true rfl⟩) hS (fun u H locs hw hM hS => ?_)
            obtain ⟨I38, L39, rfl, hI, hkI38, xI38⟩ := hw
            have hM : Mem D A ad ns I38 L39 G H := hM
            have hK := hK.trans hkI38 rfl
            replace hC := CT.link (I2 := (u2 Ia8 (1000) 25 (v29))) hC ((show (u2 Ia8 (1000) 25 (v29)) 1035 = Ia8 1035 from by funext zz; simp [u2_v])) ((show (u2 Ia8 (1000) 25 (v29)) 1036 = Ia8 1036 from by funext zz; simp [u2_v])) (by omega) (fun hz => by omega)
            have pw40 : (I38 (1000) 24).toInt = (Ia8 (1000) 24 : Int32).toInt := congrArg Int32.toInt (((hkI38.get (1000) 24 rfl)).trans (show (u2 Ia8 (1000) 25 (v29)) (1000) 24 = Ia8 (1000) 24 from by simp [u2_v]))
            have pw41 : (I38 (1000) 27).toInt = (Ia8 (1000) 27 : Int32).toInt := congrArg Int32.toInt (((hkI38.get (1000) 27 rfl)).trans (show (u2 Ia8 (1000) 25 (v29)) (1000) 27 = Ia8 (1000) 27 from by simp [u2_v]))
            have pw42 : (I38 (1000) 32).toInt = (Ia8 (1000) 32 : Int32).toInt := congrArg Int32.toInt (((hkI38.get (1000) 32 rfl)).trans (show (u2 Ia8 (1000) 25 (v29)) (1000) 32 = Ia8 (1000) 32 from by simp [u2_v]))
            replace hC := hC.comp ((xI38.2.2.2.2).mono0 (1)) (by omega) (by omega) (by omega) (by omega) (fun hz => (xI38.2.2.2.1 hz).1)
            refine lv_aload_n hx hb dX10_term_64 rfl (lv_at hl 1 rfl) ?_
            refine lv_iload_n hx hb dX10_term_65 rfl (lv_at hl 0 rfl) ?_
            refine lv_iconst (v := (0)) hx hb dX10_term_66 (by decide) ?_
            refine m_callv (m_runV (1000) (As := [.int (14), .int (0)]) (rest := []) hx hb hml hown hts hE hM hS hA ce_X10_entry tb_1552 (V_X10_entry l D A ad ns I38 L39 G (14) (0) hJ hI (fun hz => by have w0 := xI38.2.2.2.1 (by omega); omega)) rfl rfl ⟨Nat.le_of_ble_eq_true rfl, Nat.le_of_ble_eq_true rfl⟩ hJ.1 rfl rfl (by decide) rfl hl.1 rfl (Nat.le_of_ble_eq_true rfl) dX10_term_67 ⟨Nat.le_of_ble_eq_true rfl, Nat.le_of_ble_eq_true rfl⟩) hS (fun u H locs hw hM hS => ?_)
            obtain ⟨I43, L44, rfl, hI, hkI43, xI43⟩ := hw
            have hM : Mem D A ad ns I43 L44 G H := hM
            have hK := hK.trans hkI43 rfl
            have pw45 : (I43 (1000) 24).toInt = (Ia8 (1000) 24 : Int32).toInt := congrArg Int32.toInt ((((hkI43.get (1000) 24 rfl)).trans (hkI38.get (1000) 24 rfl)).trans (show (u2 Ia8 (1000) 25 (v29)) (1000) 24 = Ia8 (1000) 24 from by simp [u2_v]))
            have pw46 : (I43 (1000) 25).toInt = (I38 (1000) 25 : Int32).toInt := congrArg Int32.toInt ((hkI43.get (1000) 25 rfl))
            have pw47 : (I43 (1000) 26).toInt = (I38 (1000) 26 : Int32).toInt := congrArg Int32.toInt ((hkI43.get (1000) 26 rfl))
            have pw48 : (I43 (1000) 27).toInt = (Ia8 (1000) 27 : Int32).toInt := congrArg Int32.toInt ((((hkI43.get (1000) 27 rfl)).trans (hkI38.get (1000) 27 rfl)).trans (show (u2 Ia8 (1000) 25 (v29)) (1000) 27 = Ia8 (1000) 27 from by simp [u2_v]))
            have pw49 : (I43 (1000) 31).toInt = (I38 (1000) 31 : Int32).toInt := congrArg Int32.toInt ((hkI43.get (1000) 31 rfl))
            have pw50 : (I43 (1000) 32).toInt = (Ia8 (1000) 32 : Int32).toInt := congrArg Int32.toInt ((((hkI43.get (1000) 32 rfl)).trans (hkI38.get (1000) 32 rfl)).trans (show (u2 Ia8 (1000) 25 (v29)) (1000) 32 = Ia8 (1000) 32 from by simp [u2_v]))
            replace hC := hC.comp (n2 := 1) (xI43.2.2.2.2.ct (by omega) (by omega) xI43.2.2.1 (by omega)) (by omega) (by omega) (by omega) (by omega) (fun hz => by omega)
            have xeI43 : Imp ((I43 1000 26).toInt = 0) ((I43 1000 29).toInt = (I38 1000 29).toInt + 1) := fun hz => xI43.2.2.1 (by omega)
            refine lv_aload_n hx hb dX10_term_70 rfl (lv_at hl 1 rfl) ?_
            refine m_callv (m_runV (1000) (As := []) (rest := []) hx hb hml hown hts hE hM hS hA ce_X10_blanks tb_1506 (V_X10_blanks l D A ad ns I43 L44 G hJ hI (by omega)) rfl rfl ⟨Nat.le_of_ble_eq_true rfl, Nat.le_of_ble_eq_true rfl⟩ hJ.1 rfl rfl (by decide) rfl hl.1 rfl (Nat.le_of_ble_eq_true rfl) dX10_term_71 ⟨Nat.le_of_ble_eq_true rfl, Nat.le_of_ble_eq_true rfl⟩) hS (fun u H locs hw hM hS => ?_)
            obtain ⟨I51, L52, rfl, hI, hkI51, xI51⟩ := hw
            have hM : Mem D A ad ns I51 L52 G H := hM
            have hK := hK.trans hkI51 rfl
            have pw53 : (I51 (1000) 24).toInt = (Ia8 (1000) 24 : Int32).toInt := congrArg Int32.toInt (((((hkI51.get (1000) 24 rfl)).trans (hkI43.get (1000) 24 rfl)).trans (hkI38.get (1000) 24 rfl)).trans (show (u2 Ia8 (1000) 25 (v29)) (1000) 24 = Ia8 (1000) 24 from by simp [u2_v]))
            have pw54 : (I51 (1000) 26).toInt = (I38 (1000) 26 : Int32).toInt := congrArg Int32.toInt (((hkI51.get (1000) 26 rfl)).trans (hkI43.get (1000) 26 rfl))
            have pw55 : (I51 (1000) 27).toInt = (Ia8 (1000) 27 : Int32).toInt := congrArg Int32.toInt (((((hkI51.get (1000) 27 rfl)).trans (hkI43.get (1000) 27 rfl)).trans (hkI38.get (1000) 27 rfl)).trans (show (u2 Ia8 (1000) 25 (v29)) (1000) 27 = Ia8 (1000) 27 from by simp [u2_v]))
            have pw56 : (I51 (1000) 29).toInt = (I43 (1000) 29 : Int32).toInt := congrArg Int32.toInt ((hkI51.get (1000) 29 rfl))
            have pw57 : (I51 (1000) 31).toInt = (I38 (1000) 31 : Int32).toInt := congrArg Int32.toInt (((hkI51.get (1000) 31 rfl)).trans (hkI43.get (1000) 31 rfl))
            have pw58 : (I51 (1000) 32).toInt = (Ia8 (1000) 32 : Int32).toInt := congrArg Int32.toInt (((((hkI51.get (1000) 32 rfl)).trans (hkI43.get (1000) 32 rfl)).trans (hkI38.get (1000) 32 rfl)).trans (show (u2 Ia8 (1000) 25 (v29)) (1000) 32 = Ia8 (1000) 32 from by simp [u2_v]))
            refine lv_goto (tgt := 8) hx hb dX10_term_74 (by decide) ?_
            replace hC := CT.link (I2 := I51) hC ((hkI51.getA 1035 rfl)) ((hkI51.getA 1036 rfl)) (by omega) (fun hz => by have w0 := xeI43 (by omega); have w1 := xI38.2.2.2.1 (by omega); omega)
            exact ih8  I51 L52 _ _ ls hI hK (by omega) (fun hz => by have w0 := xeI43 (by omega); have w1 := xI38.2.2.2.1 (by omega); omega) hC (by omega) hM hS (lv_sub hl [1] rfl)
          · have hc27 := c27
            have q27 := q_eq hc27
            have sg59 := xr24.2.2 (by omega)
            refine lv_bipush (v := (13)) hx hb dX10_term_42 (by decide) ?_
            refine lv_goto (tgt := 49) hx hb dX10_term_44 (by decide) ?_
            refine lv_istore_n (lv' := [(1, .int (13)), (0, .ref (ad (1000)))]) hx hb dX10_term_49 rfl hl (by decide) rfl (fun ls hl => ?_)
            refine lv_aload_n hx hb dX10_term_50 rfl (lv_at hl 1 rfl) ?_
            refine lv_dup hx hb dX10_term_51 rfl ?_
            refine m_geti (1000) 25 hx hb hts hown hE oc10 hM hJ.1 rfl (by decide) rfl tb_1202 dX10_term_52 ?_
            have g60 := hI.get (1000) 25 (lo := 0) (hi := 100000) rfl
            refine lv_iconst (v := (1)) hx hb dX10_term_55 (by decide) ?_
            refine lv_iadd hx hb dX10_term_56 ?_
            refine lv_topi (fun v61 ev61 => ?_)
            have tv61 := a_add ev61 (by omega) (by omega)
            refine m_puti (1000) 25 hx hb hts hown hE oc10 hM hS hJ.1 rfl (by decide) rfl rfl rfl rfl tb_1202 dX10_term_57 (fun H locs I62 eI62 hM hS => ?_)
            subst eI62
            have hI := hI.put (n := 1000) (k := 25) (v := v61) (lo := 0) (hi := 100000) rfl (by first | omega | decide)
            have hK := hK.put (n := 1000) (k := 25) (v := v61) (by first | rfl | simp [inR])
            refine lv_aload_n hx hb dX10_term_60 rfl (lv_at hl 1 rfl) ?_
            have pw63 : ((u2 Ia8 (1000) 25 (v61)) (1000) 24).toInt = (Ia8 (1000) 24 : Int32).toInt := congrArg Int32.toInt ((show (u2 Ia8 (1000) 25 (v61)) (1000) 24 = Ia8 (1000) 24 from by simp [u2_v]))
            have pw64 : ((u2 Ia8 (1000) 25 (v61)) (1000) 25).toInt = (v61 : Int32).toInt := congrArg Int32.toInt ((show (u2 Ia8 (1000) 25 (v61)) (1000) 25 = v61 from by simp [u2_v]))
            have pw65 : ((u2 Ia8 (1000) 25 (v61)) (1000) 26).toInt = (Ia8 (1000) 26 : Int32).toInt := congrArg Int32.toInt ((show (u2 Ia8 (1000) 25 (v61)) (1000) 26 = Ia8 (1000) 26 from by simp [u2_v]))
            have pw66 : ((u2 Ia8 (1000) 25 (v61)) (1000) 27).toInt = (Ia8 (1000) 27 : Int32).toInt := congrArg Int32.toInt ((show (u2 Ia8 (1000) 25 (v61)) (1000) 27 = Ia8 (1000) 27 from by simp [u2_v]))
            have pw67 : ((u2 Ia8 (1000) 25 (v61)) (1000) 29).toInt = (Ia8 (1000) 29 : Int32).toInt := congrArg Int32.toInt ((show (u2 Ia8 (1000) 25 (v61)) (1000) 29 = Ia8 (1000) 29 from by simp [u2_v]))
            have pw68 : ((u2 Ia8 (1000) 25 (v61)) (1000) 31).toInt = (Ia8 (1000) 31 : Int32).toInt := congrArg Int32.toInt ((show (u2 Ia8 (1000) 25 (v61)) (1000) 31 = Ia8 (1000) 31 from by simp [u2_v]))
            have pw69 : ((u2 Ia8 (1000) 25 (v61)) (1000) 32).toInt = (Ia8 (1000) 32 : Int32).toInt := congrArg Int32.toInt ((show (u2 Ia8 (1000) 25 (v61)) (1000) 32 = Ia8 (1000) 32 from by simp [u2_v]))
            refine m_callv (m_runV (1000) (As := []) (rest := []) hx hb hml hown hts hE hM hS hA ce_X10_value tb_1543 (V_X10_value l D A ad ns (u2 Ia8 (1000) 25 (v61)) La8 G hJ hI (by omega) (fun hz => by omega)) rfl rfl ⟨Nat.le_of_ble_eq_true rfl, Nat.le_of_ble_eq_true rfl⟩ hJ.1 rfl rfl (by decide) rfl hl.1 rfl (Nat.le_of_ble_eq_true rfl) dX10_term_61 ⟨Nat.le_of_ble_eq_true rfl, Nat.le_of_ble_eq_true rfl⟩) hS (fun u H locs hw hM hS => ?_)
            obtain ⟨I70, L71, rfl, hI, hkI70, xI70⟩ := hw
            have hM : Mem D A ad ns I70 L71 G H := hM
            have hK := hK.trans hkI70 rfl
            replace hC := CT.link (I2 := (u2 Ia8 (1000) 25 (v61))) hC ((show (u2 Ia8 (1000) 25 (v61)) 1035 = Ia8 1035 from by funext zz; simp [u2_v])) ((show (u2 Ia8 (1000) 25 (v61)) 1036 = Ia8 1036 from by funext zz; simp [u2_v])) (by omega) (fun hz => by omega)
            have pw72 : (I70 (1000) 24).toInt = (Ia8 (1000) 24 : Int32).toInt := congrArg Int32.toInt (((hkI70.get (1000) 24 rfl)).trans (show (u2 Ia8 (1000) 25 (v61)) (1000) 24 = Ia8 (1000) 24 from by simp [u2_v]))
            have pw73 : (I70 (1000) 27).toInt = (Ia8 (1000) 27 : Int32).toInt := congrArg Int32.toInt (((hkI70.get (1000) 27 rfl)).trans (show (u2 Ia8 (1000) 25 (v61)) (1000) 27 = Ia8 (1000) 27 from by simp [u2_v]))
            have pw74 : (I70 (1000) 32).toInt = (Ia8 (1000) 32 : Int32).toInt := congrArg Int32.toInt (((hkI70.get (1000) 32 rfl)).trans (show (u2 Ia8 (1000) 25 (v61)) (1000) 32 = Ia8 (1000) 32 from by simp [u2_v]))
            replace hC := hC.comp ((xI70.2.2.2.2).mono0 (1)) (by omega) (by omega) (by omega) (by omega) (fun hz => (xI70.2.2.2.1 hz).1)
            refine lv_aload_n hx hb dX10_term_64 rfl (lv_at hl 1 rfl) ?_
            refine lv_iload_n hx hb dX10_term_65 rfl (lv_at hl 0 rfl) ?_
            refine lv_iconst (v := (0)) hx hb dX10_term_66 (by decide) ?_
            refine m_callv (m_runV (1000) (As := [.int (13), .int (0)]) (rest := []) hx hb hml hown hts hE hM hS hA ce_X10_entry tb_1552 (V_X10_entry l D A ad ns I70 L71 G (13) (0) hJ hI (fun hz => by have w0 := xI70.2.2.2.1 (by omega); omega)) rfl rfl ⟨Nat.le_of_ble_eq_true rfl, Nat.le_of_ble_eq_true rfl⟩ hJ.1 rfl rfl (by decide) rfl hl.1 rfl (Nat.le_of_ble_eq_true rfl) dX10_term_67 ⟨Nat.le_of_ble_eq_true rfl, Nat.le_of_ble_eq_true rfl⟩) hS (fun u H locs hw hM hS => ?_)
            obtain ⟨I75, L76, rfl, hI, hkI75, xI75⟩ := hw
            have hM : Mem D A ad ns I75 L76 G H := hM
            have hK := hK.trans hkI75 rfl
            have pw77 : (I75 (1000) 24).toInt = (Ia8 (1000) 24 : Int32).toInt := congrArg Int32.toInt ((((hkI75.get (1000) 24 rfl)).trans (hkI70.get (1000) 24 rfl)).trans (show (u2 Ia8 (1000) 25 (v61)) (1000) 24 = Ia8 (1000) 24 from by simp [u2_v]))
            have pw78 : (I75 (1000) 25).toInt = (I70 (1000) 25 : Int32).toInt := congrArg Int32.toInt ((hkI75.get (1000) 25 rfl))
            have pw79 : (I75 (1000) 26).toInt = (I70 (1000) 26 : Int32).toInt := congrArg Int32.toInt ((hkI75.get (1000) 26 rfl))
            have pw80 : (I75 (1000) 27).toInt = (Ia8 (1000) 27 : Int32).toInt := congrArg Int32.toInt ((((hkI75.get (1000) 27 rfl)).trans (hkI70.get (1000) 27 rfl)).trans (show (u2 Ia8 (1000) 25 (v61)) (1000) 27 = Ia8 (1000) 27 from by simp [u2_v]))
            have pw81 : (I75 (1000) 31).toInt = (I70 (1000) 31 : Int32).toInt := congrArg Int32.toInt ((hkI75.get (1000) 31 rfl))
            have pw82 : (I75 (1000) 32).toInt = (Ia8 (1000) 32 : Int32).toInt := congrArg Int32.toInt ((((hkI75.get (1000) 32 rfl)).trans (hkI70.get (1000) 32 rfl)).trans (show (u2 Ia8 (1000) 25 (v61)) (1000) 32 = Ia8 (1000) 32 from by simp [u2_v]))
            replace hC := hC.comp (n2 := 1) (xI75.2.2.2.2.ct (by omega) (by omega) xI75.2.2.1 (by omega)) (by omega) (by omega) (by omega) (by omega) (fun hz => by omega)
            have xeI75 : Imp ((I75 1000 26).toInt = 0) ((I75 1000 29).toInt = (I70 1000 29).toInt + 1) := fun hz => xI75.2.2.1 (by omega)
            refine lv_aload_n hx hb dX10_term_70 rfl (lv_at hl 1 rfl) ?_
            refine m_callv (m_runV (1000) (As := []) (rest := []) hx hb hml hown hts hE hM hS hA ce_X10_blanks tb_1506 (V_X10_blanks l D A ad ns I75 L76 G hJ hI (by omega)) rfl rfl ⟨Nat.le_of_ble_eq_true rfl, Nat.le_of_ble_eq_true rfl⟩ hJ.1 rfl rfl (by decide) rfl hl.1 rfl (Nat.le_of_ble_eq_true rfl) dX10_term_71 ⟨Nat.le_of_ble_eq_true rfl, Nat.le_of_ble_eq_true rfl⟩) hS (fun u H locs hw hM hS => ?_)
            obtain ⟨I83, L84, rfl, hI, hkI83, xI83⟩ := hw
            have hM : Mem D A ad ns I83 L84 G H := hM
            have hK := hK.trans hkI83 rfl
            have pw85 : (I83 (1000) 24).toInt = (Ia8 (1000) 24 : Int32).toInt := congrArg Int32.toInt (((((hkI83.get (1000) 24 rfl)).trans (hkI75.get (1000) 24 rfl)).trans (hkI70.get (1000) 24 rfl)).trans (show (u2 Ia8 (1000) 25 (v61)) (1000) 24 = Ia8 (1000) 24 from by simp [u2_v]))
            have pw86 : (I83 (1000) 26).toInt = (I70 (1000) 26 : Int32).toInt := congrArg Int32.toInt (((hkI83.get (1000) 26 rfl)).trans (hkI75.get (1000) 26 rfl))
            have pw87 : (I83 (1000) 27).toInt = (Ia8 (1000) 27 : Int32).toInt := congrArg Int32.toInt (((((hkI83.get (1000) 27 rfl)).trans (hkI75.get (1000) 27 rfl)).trans (hkI70.get (1000) 27 rfl)).trans (show (u2 Ia8 (1000) 25 (v61)) (1000) 27 = Ia8 (1000) 27 from by simp [u2_v]))
            have pw88 : (I83 (1000) 29).toInt = (I75 (1000) 29 : Int32).toInt := congrArg Int32.toInt ((hkI83.get (1000) 29 rfl))
            have pw89 : (I83 (1000) 31).toInt = (I70 (1000) 31 : Int32).toInt := congrArg Int32.toInt (((hkI83.get (1000) 31 rfl)).trans (hkI75.get (1000) 31 rfl))
            have pw90 : (I83 (1000) 32).toInt = (Ia8 (1000) 32 : Int32).toInt := congrArg Int32.toInt (((((hkI83.get (1000) 32 rfl)).trans (hkI75.get (1000) 32 rfl)).trans (hkI70.get (1000) 32 rfl)).trans (show (u2 Ia8 (1000) 25 (v61)) (1000) 32 = Ia8 (1000) 32 from by simp [u2_v]))
            refine lv_goto (tgt := 8) hx hb dX10_term_74 (by decide) ?_
            replace hC := CT.link (I2 := I83) hC ((hkI83.getA 1035 rfl)) ((hkI83.getA 1036 rfl)) (by omega) (fun hz => by have w0 := xeI75 (by omega); have w1 := xI70.2.2.2.1 (by omega); omega)
            exact ih8  I83 L84 _ _ ls hI hK (by omega) (fun hz => by have w0 := xeI75 (by omega); have w1 := xI70.2.2.2.1 (by omega); omega) hC (by omega) hM hS (lv_sub hl [1] rfl)
        · have hc22 := c22
          have q22 := q_ne hc22
          refine lv_aload_n hx hb dX10_term_24 rfl (lv_at hl 0 rfl) ?_
          refine m_calli (m_runV (1000) (As := []) (rest := []) hx hb hml hown hts hE hM hS hA ce_X10_sign tb_1510 (V_X10_sign l D A ad ns Ia8 La8 G hJ hI) rfl rfl ⟨Nat.le_of_ble_eq_true rfl, Nat.le_of_ble_eq_true rfl⟩ hJ.1 rfl rfl (by decide) rfl hl.1 rfl (Nat.le_of_ble_eq_true rfl) dX10_term_25 ⟨Nat.le_of_ble_eq_true rfl, Nat.le_of_ble_eq_true rfl⟩) hS (fun r91 u H locs hw hM hS => ?_)
          obtain ⟨rfl, xr91⟩ := hw
          have hM : Mem D A ad ns Ia8 La8 G H := hM
          have g92 := hI.get 1000 24 (lo := 0) (hi := 400) rfl
          have g93 := hI.get 1000 25 (lo := 0) (hi := 100000) rfl
          refine lv_bipush (v := (47)) hx hb dX10_term_28 (by decide) ?_
          refine lv_icmp_ne (tgt := 77) hx hb dX10_term_30 (by decide) (fun c94 => ?_) (fun c94 => ?_)
          · have hc94 := c94
            have q94 := q_ne hc94
            exact m_vret hx hb hr hlocks hM hS (Nat.le_of_ble_eq_true rfl) (Nat.le_of_ble_eq_true rfl) ⟨_, _, rfl, hI, hK, ⟨by omega, by omega, by omega, (fun hz => by omega), hC⟩⟩ dX10_term_77
          · have hc94 := c94
            have q94 := q_eq hc94
            have sg95 := xr91.2.2 (by omega)
            refine lv_aload_n hx hb dX10_term_33 rfl (lv_at hl 0 rfl) ?_
            refine m_calli (m_runV (1000) (As := []) (rest := []) hx hb hml hown hts hE hM hS hA ce_X10_sign tb_1510 (V_X10_sign l D A ad ns Ia8 La8 G hJ hI) rfl rfl ⟨Nat.le_of_ble_eq_true rfl, Nat.le_of_ble_eq_true rfl⟩ hJ.1 rfl rfl (by decide) rfl hl.1 rfl (Nat.le_of_ble_eq_true rfl) dX10_term_34 ⟨Nat.le_of_ble_eq_true rfl, Nat.le_of_ble_eq_true rfl⟩) hS (fun r96 u H locs hw hM hS => ?_)
            obtain ⟨rfl, xr96⟩ := hw
            have hM : Mem D A ad ns Ia8 La8 G H := hM
            have g97 := hI.get 1000 24 (lo := 0) (hi := 400) rfl
            have g98 := hI.get 1000 25 (lo := 0) (hi := 100000) rfl
            refine lv_bipush (v := (42)) hx hb dX10_term_37 (by decide) ?_
            refine lv_icmp_ne (tgt := 47) hx hb dX10_term_39 (by decide) (fun c99 => ?_) (fun c99 => ?_)
            · have hc99 := c99
              have q99 := q_ne hc99
              refine lv_bipush (v := (14)) hx hb dX10_term_47 (by decide) ?_
              refine lv_istore_n (lv' := [(1, .int (14)), (0, .ref (ad (1000)))]) hx hb dX10_term_49 rfl hl (by decide) rfl (fun ls hl => ?_)
              refine lv_aload_n hx hb dX10_term_50 rfl (lv_at hl 1 rfl) ?_
              refine lv_dup hx hb dX10_term_51 rfl ?_
              refine m_geti (1000) 25 hx hb hts hown hE oc10 hM hJ.1 rfl (by decide) rfl tb_1202 dX10_term_52 ?_
              have g100 := hI.get (1000) 25 (lo := 0) (hi := 100000) rfl
              refine lv_iconst (v := (1)) hx hb dX10_term_55 (by decide) ?_
              refine lv_iadd hx hb dX10_term_56 ?_
              refine lv_topi (fun v101 ev101 => ?_)
              have tv101 := a_add ev101 (by omega) (by omega)
              refine m_puti (1000) 25 hx hb hts hown hE oc10 hM hS hJ.1 rfl (by decide) rfl rfl rfl rfl tb_1202 dX10_term_57 (fun H locs I102 eI102 hM hS => ?_)
              subst eI102
              have hI := hI.put (n := 1000) (k := 25) (v := v101) (lo := 0) (hi := 100000) rfl (by first | omega | decide)
              have hK := hK.put (n := 1000) (k := 25) (v := v101) (by first | rfl | simp [inR])
              refine lv_aload_n hx hb dX10_term_60 rfl (lv_at hl 1 rfl) ?_
              have pw103 : ((u2 Ia8 (1000) 25 (v101)) (1000) 24).toInt = (Ia8 (1000) 24 : Int32).toInt := congrArg Int32.toInt ((show (u2 Ia8 (1000) 25 (v101)) (1000) 24 = Ia8 (1000) 24 from by simp [u2_v]))
              have pw104 : ((u2 Ia8 (1000) 25 (v101)) (1000) 25).toInt = (v101 : Int32).toInt := congrArg Int32.toInt ((show (u2 Ia8 (1000) 25 (v101)) (1000) 25 = v101 from by simp [u2_v]))
              have pw105 : ((u2 Ia8 (1000) 25 (v101)) (1000) 26).toInt = (Ia8 (1000) 26 : Int32).toInt := congrArg Int32.toInt ((show (u2 Ia8 (1000) 25 (v101)) (1000) 26 = Ia8 (1000) 26 from by simp [u2_v]))
              have pw106 : ((u2 Ia8 (1000) 25 (v101)) (1000) 27).toInt = (Ia8 (1000) 27 : Int32).toInt := congrArg Int32.toInt ((show (u2 Ia8 (1000) 25 (v101)) (1000) 27 = Ia8 (1000) 27 from by simp [u2_v]))
              have pw107 : ((u2 Ia8 (1000) 25 (v101)) (1000) 29).toInt = (Ia8 (1000) 29 : Int32).toInt := congrArg Int32.toInt ((show (u2 Ia8 (1000) 25 (v101)) (1000) 29 = Ia8 (1000) 29 from by simp [u2_v]))
              have pw108 : ((u2 Ia8 (1000) 25 (v101)) (1000) 31).toInt = (Ia8 (1000) 31 : Int32).toInt := congrArg Int32.toInt ((show (u2 Ia8 (1000) 25 (v101)) (1000) 31 = Ia8 (1000) 31 from by simp [u2_v]))
              have pw109 : ((u2 Ia8 (1000) 25 (v101)) (1000) 32).toInt = (Ia8 (1000) 32 : Int32).toInt := congrArg Int32.toInt ((show (u2 Ia8 (1000) 25 (v101)) (1000) 32 = Ia8 (1000) 32 from by simp [u2_v]))
              refine m_callv (m_runV (1000) (As := []) (rest := []) hx hb hml hown hts hE hM hS hA ce_X10_value tb_1543 (V_X10_value l D A ad ns (u2 Ia8 (1000) 25 (v101)) La8 G hJ hI (by omega) (fun hz => by omega)) rfl rfl ⟨Nat.le_of_ble_eq_true rfl, Nat.le_of_ble_eq_true rfl⟩ hJ.1 rfl rfl (by decide) rfl hl.1 rfl (Nat.le_of_ble_eq_true rfl) dX10_term_61 ⟨Nat.le_of_ble_eq_true rfl, Nat.le_of_ble_eq_true rfl⟩) hS (fun u H locs hw hM hS => ?_)
              obtain ⟨I110, L111, rfl, hI, hkI110, xI110⟩ := hw
              have hM : Mem D A ad ns I110 L111 G H := hM
              have hK := hK.trans hkI110 rfl
              replace hC := CT.link (I2 := (u2 Ia8 (1000) 25 (v101))) hC ((show (u2 Ia8 (1000) 25 (v101)) 1035 = Ia8 1035 from by funext zz; simp [u2_v])) ((show (u2 Ia8 (1000) 25 (v101)) 1036 = Ia8 1036 from by funext zz; simp [u2_v])) (by omega) (fun hz => by omega)
              have pw112 : (I110 (1000) 24).toInt = (Ia8 (1000) 24 : Int32).toInt := congrArg Int32.toInt (((hkI110.get (1000) 24 rfl)).trans (show (u2 Ia8 (1000) 25 (v101)) (1000) 24 = Ia8 (1000) 24 from by simp [u2_v]))
              have pw113 : (I110 (1000) 27).toInt = (Ia8 (1000) 27 : Int32).toInt := congrArg Int32.toInt (((hkI110.get (1000) 27 rfl)).trans (show (u2 Ia8 (1000) 25 (v101)) (1000) 27 = Ia8 (1000) 27 from by simp [u2_v]))
              have pw114 : (I110 (1000) 32).toInt = (Ia8 (1000) 32 : Int32).toInt := congrArg Int32.toInt (((hkI110.get (1000) 32 rfl)).trans (show (u2 Ia8 (1000) 25 (v101)) (1000) 32 = Ia8 (1000) 32 from by simp [u2_v]))
              replace hC := hC.comp ((xI110.2.2.2.2).mono0 (1)) (by omega) (by omega) (by omega) (by omega) (fun hz => (xI110.2.2.2.1 hz).1)
              refine lv_aload_n hx hb dX10_term_64 rfl (lv_at hl 1 rfl) ?_
              refine lv_iload_n hx hb dX10_term_65 rfl (lv_at hl 0 rfl) ?_
              refine lv_iconst (v := (0)) hx hb dX10_term_66 (by decide) ?_
              refine m_callv (m_runV (1000) (As := [.int (14), .int (0)]) (rest := []) hx hb hml hown hts hE hM hS hA ce_X10_entry tb_1552 (V_X10_entry l D A ad ns I110 L111 G (14) (0) hJ hI (fun hz => by have w0 := xI110.2.2.2.1 (by omega); omega)) rfl rfl ⟨Nat.le_of_ble_eq_true rfl, Nat.le_of_ble_eq_true rfl⟩ hJ.1 rfl rfl (by decide) rfl hl.1 rfl (Nat.le_of_ble_eq_true rfl) dX10_term_67 ⟨Nat.le_of_ble_eq_true rfl, Nat.le_of_ble_eq_true rfl⟩) hS (fun u H locs hw hM hS => ?_)
              obtain ⟨I115, L116, rfl, hI, hkI115, xI115⟩ := hw
              have hM : Mem D A ad ns I115 L116 G H := hM
              have hK := hK.trans hkI115 rfl
              have pw117 : (I115 (1000) 24).toInt = (Ia8 (1000) 24 : Int32).toInt := congrArg Int32.toInt ((((hkI115.get (1000) 24 rfl)).trans (hkI110.get (1000) 24 rfl)).trans (show (u2 Ia8 (1000) 25 (v101)) (1000) 24 = Ia8 (1000) 24 from by simp [u2_v]))
              have pw118 : (I115 (1000) 25).toInt = (I110 (1000) 25 : Int32).toInt := congrArg Int32.toInt ((hkI115.get (1000) 25 rfl))
              have pw119 : (I115 (1000) 26).toInt = (I110 (1000) 26 : Int32).toInt := congrArg Int32.toInt ((hkI115.get (1000) 26 rfl))
              have pw120 : (I115 (1000) 27).toInt = (Ia8 (1000) 27 : Int32).toInt := congrArg Int32.toInt ((((hkI115.get (1000) 27 rfl)).trans (hkI110.get (1000) 27 rfl)).trans (show (u2 Ia8 (1000) 25 (v101)) (1000) 27 = Ia8 (1000) 27 from by simp [u2_v]))
              have pw121 : (I115 (1000) 31).toInt = (I110 (1000) 31 : Int32).toInt := congrArg Int32.toInt ((hkI115.get (1000) 31 rfl))
              have pw122 : (I115 (1000) 32).toInt = (Ia8 (1000) 32 : Int32).toInt := congrArg Int32.toInt ((((hkI115.get (1000) 32 rfl)).trans (hkI110.get (1000) 32 rfl)).trans (show (u2 Ia8 (1000) 25 (v101)) (1000) 32 = Ia8 (1000) 32 from by simp [u2_v]))
              replace hC := hC.comp (n2 := 1) (xI115.2.2.2.2.ct (by omega) (by omega) xI115.2.2.1 (by omega)) (by omega) (by omega) (by omega) (by omega) (fun hz => by omega)
              have xeI115 : Imp ((I115 1000 26).toInt = 0) ((I115 1000 29).toInt = (I110 1000 29).toInt + 1) := fun hz => xI115.2.2.1 (by omega)
              refine lv_aload_n hx hb dX10_term_70 rfl (lv_at hl 1 rfl) ?_
              refine m_callv (m_runV (1000) (As := []) (rest := []) hx hb hml hown hts hE hM hS hA ce_X10_blanks tb_1506 (V_X10_blanks l D A ad ns I115 L116 G hJ hI (by omega)) rfl rfl ⟨Nat.le_of_ble_eq_true rfl, Nat.le_of_ble_eq_true rfl⟩ hJ.1 rfl rfl (by decide) rfl hl.1 rfl (Nat.le_of_ble_eq_true rfl) dX10_term_71 ⟨Nat.le_of_ble_eq_true rfl, Nat.le_of_ble_eq_true rfl⟩) hS (fun u H locs hw hM hS => ?_)
              obtain ⟨I123, L124, rfl, hI, hkI123, xI123⟩ := hw
              have hM : Mem D A ad ns I123 L124 G H := hM
              have hK := hK.trans hkI123 rfl
              have pw125 : (I123 (1000) 24).toInt = (Ia8 (1000) 24 : Int32).toInt := congrArg Int32.toInt (((((hkI123.get (1000) 24 rfl)).trans (hkI115.get (1000) 24 rfl)).trans (hkI110.get (1000) 24 rfl)).trans (show (u2 Ia8 (1000) 25 (v101)) (1000) 24 = Ia8 (1000) 24 from by simp [u2_v]))
              have pw126 : (I123 (1000) 26).toInt = (I110 (1000) 26 : Int32).toInt := congrArg Int32.toInt (((hkI123.get (1000) 26 rfl)).trans (hkI115.get (1000) 26 rfl))
              have pw127 : (I123 (1000) 27).toInt = (Ia8 (1000) 27 : Int32).toInt := congrArg Int32.toInt (((((hkI123.get (1000) 27 rfl)).trans (hkI115.get (1000) 27 rfl)).trans (hkI110.get (1000) 27 rfl)).trans (show (u2 Ia8 (1000) 25 (v101)) (1000) 27 = Ia8 (1000) 27 from by simp [u2_v]))
              have pw128 : (I123 (1000) 29).toInt = (I115 (1000) 29 : Int32).toInt := congrArg Int32.toInt ((hkI123.get (1000) 29 rfl))
              have pw129 : (I123 (1000) 31).toInt = (I110 (1000) 31 : Int32).toInt := congrArg Int32.toInt (((hkI123.get (1000) 31 rfl)).trans (hkI115.get (1000) 31 rfl))
              have pw130 : (I123 (1000) 32).toInt = (Ia8 (1000) 32 : Int32).toInt := congrArg Int32.toInt (((((hkI123.get (1000) 32 rfl)).trans (hkI115.get (1000) 32 rfl)).trans (hkI110.get (1000) 32 rfl)).trans (show (u2 Ia8 (1000) 25 (v101)) (1000) 32 = Ia8 (1000) 32 from by simp [u2_v]))
              refine lv_goto (tgt := 8) hx hb dX10_term_74 (by decide) ?_
              replace hC := CT.link (I2 := I123) hC ((hkI123.getA 1035 rfl)) ((hkI123.getA 1036 rfl)) (by omega) (fun hz => by have w0 := xeI115 (by omega); have w1 := xI110.2.2.2.1 (by omega); omega)
              exact ih8  I123 L124 _ _ ls hI hK (by omega) (fun hz => by have w0 := xeI115 (by omega); have w1 := xI110.2.2.2.1 (by omega); omega) hC (by omega) hM hS (lv_sub hl [1] rfl)
            · have hc99 := c99
              have q99 := q_eq hc99
              have sg131 := xr96.2.2 (by omega)
              refine lv_bipush (v := (13)) hx hb dX10_term_42 (by decide) ?_
              refine lv_goto (tgt := 49) hx hb dX10_term_44 (by decide) ?_
              refine lv_istore_n (lv' := [(1, .int (13)), (0, .ref (ad (1000)))]) hx hb dX10_term_49 rfl hl (by decide) rfl (fun ls hl => ?_)
              refine lv_aload_n hx hb dX10_term_50 rfl (lv_at hl 1 rfl) ?_
              refine lv_dup hx hb dX10_term_51 rfl ?_
              refine m_geti (1000) 25 hx hb hts hown hE oc10 hM hJ.1 rfl (by decide) rfl tb_1202 dX10_term_52 ?_
              have g132 := hI.get (1000) 25 (lo := 0) (hi := 100000) rfl
              refine lv_iconst (v := (1)) hx hb dX10_term_55 (by decide) ?_
              refine lv_iadd hx hb dX10_term_56 ?_
              refine lv_topi (fun v133 ev133 => ?_)
              have tv133 := a_add ev133 (by omega) (by omega)
              refine m_puti (1000) 25 hx hb hts hown hE oc10 hM hS hJ.1 rfl (by decide) rfl rfl rfl rfl tb_1202 dX10_term_57 (fun H locs I134 eI134 hM hS => ?_)
              subst eI134
              have hI := hI.put (n := 1000) (k := 25) (v := v133) (lo := 0) (hi := 100000) rfl (by first | omega | decide)
              have hK := hK.put (n := 1000) (k := 25) (v := v133) (by first | rfl | simp [inR])
              refine lv_aload_n hx hb dX10_term_60 rfl (lv_at hl 1 rfl) ?_
              have pw135 : ((u2 Ia8 (1000) 25 (v133)) (1000) 24).toInt = (Ia8 (1000) 24 : Int32).toInt := congrArg Int32.toInt ((show (u2 Ia8 (1000) 25 (v133)) (1000) 24 = Ia8 (1000) 24 from by simp [u2_v]))
              have pw136 : ((u2 Ia8 (1000) 25 (v133)) (1000) 25).toInt = (v133 : Int32).toInt := congrArg Int32.toInt ((show (u2 Ia8 (1000) 25 (v133)) (1000) 25 = v133 from by simp [u2_v]))
              have pw137 : ((u2 Ia8 (1000) 25 (v133)) (1000) 26).toInt = (Ia8 (1000) 26 : Int32).toInt := congrArg Int32.toInt ((show (u2 Ia8 (1000) 25 (v133)) (1000) 26 = Ia8 (1000) 26 from by simp [u2_v]))
              have pw138 : ((u2 Ia8 (1000) 25 (v133)) (1000) 27).toInt = (Ia8 (1000) 27 : Int32).toInt := congrArg Int32.toInt ((show (u2 Ia8 (1000) 25 (v133)) (1000) 27 = Ia8 (1000) 27 from by simp [u2_v]))
              have pw139 : ((u2 Ia8 (1000) 25 (v133)) (1000) 29).toInt = (Ia8 (1000) 29 : Int32).toInt := congrArg Int32.toInt ((show (u2 Ia8 (1000) 25 (v133)) (1000) 29 = Ia8 (1000) 29 from by simp [u2_v]))
              have pw140 : ((u2 Ia8 (1000) 25 (v133)) (1000) 31).toInt = (Ia8 (1000) 31 : Int32).toInt := congrArg Int32.toInt ((show (u2 Ia8 (1000) 25 (v133)) (1000) 31 = Ia8 (1000) 31 from by simp [u2_v]))
              have pw141 : ((u2 Ia8 (1000) 25 (v133)) (1000) 32).toInt = (Ia8 (1000) 32 : Int32).toInt := congrArg Int32.toInt ((show (u2 Ia8 (1000) 25 (v133)) (1000) 32 = Ia8 (1000) 32 from by simp [u2_v]))
              refine m_callv (m_runV (1000) (As := []) (rest := []) hx hb hml hown hts hE hM hS hA ce_X10_value tb_1543 (V_X10_value l D A ad ns (u2 Ia8 (1000) 25 (v133)) La8 G hJ hI (by omega) (fun hz => by omega)) rfl rfl ⟨Nat.le_of_ble_eq_true rfl, Nat.le_of_ble_eq_true rfl⟩ hJ.1 rfl rfl (by decide) rfl hl.1 rfl (Nat.le_of_ble_eq_true rfl) dX10_term_61 ⟨Nat.le_of_ble_eq_true rfl, Nat.le_of_ble_eq_true rfl⟩) hS (fun u H locs hw hM hS => ?_)
              obtain ⟨I142, L143, rfl, hI, hkI142, xI142⟩ := hw
              have hM : Mem D A ad ns I142 L143 G H := hM
              have hK := hK.trans hkI142 rfl
              replace hC := CT.link (I2 := (u2 Ia8 (1000) 25 (v133))) hC ((show (u2 Ia8 (1000) 25 (v133)) 1035 = Ia8 1035 from by funext zz; simp [u2_v])) ((show (u2 Ia8 (1000) 25 (v133)) 1036 = Ia8 1036 from by funext zz; simp [u2_v])) (by omega) (fun hz => by omega)
              have pw144 : (I142 (1000) 24).toInt = (Ia8 (1000) 24 : Int32).toInt := congrArg Int32.toInt (((hkI142.get (1000) 24 rfl)).trans (show (u2 Ia8 (1000) 25 (v133)) (1000) 24 = Ia8 (1000) 24 from by simp [u2_v]))
              have pw145 : (I142 (1000) 27).toInt = (Ia8 (1000) 27 : Int32).toInt := congrArg Int32.toInt (((hkI142.get (1000) 27 rfl)).trans (show (u2 Ia8 (1000) 25 (v133)) (1000) 27 = Ia8 (1000) 27 from by simp [u2_v]))
              have pw146 : (I142 (1000) 32).toInt = (Ia8 (1000) 32 : Int32).toInt := congrArg Int32.toInt (((hkI142.get (1000) 32 rfl)).trans (show (u2 Ia8 (1000) 25 (v133)) (1000) 32 = Ia8 (1000) 32 from by simp [u2_v]))
              replace hC := hC.comp ((xI142.2.2.2.2).mono0 (1)) (by omega) (by omega) (by omega) (by omega) (fun hz => (xI142.2.2.2.1 hz).1)
              refine lv_aload_n hx hb dX10_term_64 rfl (lv_at hl 1 rfl) ?_
              refine lv_iload_n hx hb dX10_term_65 rfl (lv_at hl 0 rfl) ?_
              refine lv_iconst (v := (0)) hx hb dX10_term_66 (by decide) ?_
              refine m_callv (m_runV (1000) (As := [.int (13), .int (0)]) (rest := []) hx hb hml hown hts hE hM hS hA ce_X10_entry tb_1552 (V_X10_entry l D A ad ns I142 L143 G (13) (0) hJ hI (fun hz => by have w0 := xI142.2.2.2.1 (by omega); omega)) rfl rfl ⟨Nat.le_of_ble_eq_true rfl, Nat.le_of_ble_eq_true rfl⟩ hJ.1 rfl rfl (by decide) rfl hl.1 rfl (Nat.le_of_ble_eq_true rfl) dX10_term_67 ⟨Nat.le_of_ble_eq_true rfl, Nat.le_of_ble_eq_true rfl⟩) hS (fun u H locs hw hM hS => ?_)
              obtain ⟨I147, L148, rfl, hI, hkI147, xI147⟩ := hw
              have hM : Mem D A ad ns I147 L148 G H := hM
              have hK := hK.trans hkI147 rfl
              have pw149 : (I147 (1000) 24).toInt = (Ia8 (1000) 24 : Int32).toInt := congrArg Int32.toInt ((((hkI147.get (1000) 24 rfl)).trans (hkI142.get (1000) 24 rfl)).trans (show (u2 Ia8 (1000) 25 (v133)) (1000) 24 = Ia8 (1000) 24 from by simp [u2_v]))
              have pw150 : (I147 (1000) 25).toInt = (I142 (1000) 25 : Int32).toInt := congrArg Int32.toInt ((hkI147.get (1000) 25 rfl))
              have pw151 : (I147 (1000) 26).toInt = (I142 (1000) 26 : Int32).toInt := congrArg Int32.toInt ((hkI147.get (1000) 26 rfl))
              have pw152 : (I147 (1000) 27).toInt = (Ia8 (1000) 27 : Int32).toInt := congrArg Int32.toInt ((((hkI147.get (1000) 27 rfl)).trans (hkI142.get (1000) 27 rfl)).trans (show (u2 Ia8 (1000) 25 (v133)) (1000) 27 = Ia8 (1000) 27 from by simp [u2_v]))
              have pw153 : (I147 (1000) 31).toInt = (I142 (1000) 31 : Int32).toInt := congrArg Int32.toInt ((hkI147.get (1000) 31 rfl))
              have pw154 : (I147 (1000) 32).toInt = (Ia8 (1000) 32 : Int32).toInt := congrArg Int32.toInt ((((hkI147.get (1000) 32 rfl)).trans (hkI142.get (1000) 32 rfl)).trans (show (u2 Ia8 (1000) 25 (v133)) (1000) 32 = Ia8 (1000) 32 from by simp [u2_v]))
              replace hC := hC.comp (n2 := 1) (xI147.2.2.2.2.ct (by omega) (by omega) xI147.2.2.1 (by omega)) (by omega) (by omega) (by omega) (by omega) (fun hz => by omega)
              have xeI147 : Imp ((I147 1000 26).toInt = 0) ((I147 1000 29).toInt = (I142 1000 29).toInt + 1) := fun hz => xI147.2.2.1 (by omega)
              refine lv_aload_n hx hb dX10_term_70 rfl (lv_at hl 1 rfl) ?_
              refine m_callv (m_runV (1000) (As := []) (rest := []) hx hb hml hown hts hE hM hS hA ce_X10_blanks tb_1506 (V_X10_blanks l D A ad ns I147 L148 G hJ hI (by omega)) rfl rfl ⟨Nat.le_of_ble_eq_true rfl, Nat.le_of_ble_eq_true rfl⟩ hJ.1 rfl rfl (by decide) rfl hl.1 rfl (Nat.le_of_ble_eq_true rfl) dX10_term_71 ⟨Nat.le_of_ble_eq_true rfl, Nat.le_of_ble_eq_true rfl⟩) hS (fun u H locs hw hM hS => ?_)
              obtain ⟨I155, L156, rfl, hI, hkI155, xI155⟩ := hw
              have hM : Mem D A ad ns I155 L156 G H := hM
              have hK := hK.trans hkI155 rfl
              have pw157 : (I155 (1000) 24).toInt = (Ia8 (1000) 24 : Int32).toInt := congrArg Int32.toInt (((((hkI155.get (1000) 24 rfl)).trans (hkI147.get (1000) 24 rfl)).trans (hkI142.get (1000) 24 rfl)).trans (show (u2 Ia8 (1000) 25 (v133)) (1000) 24 = Ia8 (1000) 24 from by simp [u2_v]))
              have pw158 : (I155 (1000) 26).toInt = (I142 (1000) 26 : Int32).toInt := congrArg Int32.toInt (((hkI155.get (1000) 26 rfl)).trans (hkI147.get (1000) 26 rfl))
              have pw159 : (I155 (1000) 27).toInt = (Ia8 (1000) 27 : Int32).toInt := congrArg Int32.toInt (((((hkI155.get (1000) 27 rfl)).trans (hkI147.get (1000) 27 rfl)).trans (hkI142.get (1000) 27 rfl)).trans (show (u2 Ia8 (1000) 25 (v133)) (1000) 27 = Ia8 (1000) 27 from by simp [u2_v]))
              have pw160 : (I155 (1000) 29).toInt = (I147 (1000) 29 : Int32).toInt := congrArg Int32.toInt ((hkI155.get (1000) 29 rfl))
              have pw161 : (I155 (1000) 31).toInt = (I142 (1000) 31 : Int32).toInt := congrArg Int32.toInt (((hkI155.get (1000) 31 rfl)).trans (hkI147.get (1000) 31 rfl))
              have pw162 : (I155 (1000) 32).toInt = (Ia8 (1000) 32 : Int32).toInt := congrArg Int32.toInt (((((hkI155.get (1000) 32 rfl)).trans (hkI147.get (1000) 32 rfl)).trans (hkI142.get (1000) 32 rfl)).trans (show (u2 Ia8 (1000) 25 (v133)) (1000) 32 = Ia8 (1000) 32 from by simp [u2_v]))
              refine lv_goto (tgt := 8) hx hb dX10_term_74 (by decide) ?_
              replace hC := CT.link (I2 := I155) hC ((hkI155.getA 1035 rfl)) ((hkI155.getA 1036 rfl)) (by omega) (fun hz => by have w0 := xeI147 (by omega); have w1 := xI142.2.2.2.1 (by omega); omega)
              exact ih8  I155 L156 _ _ ls hI hK (by omega) (fun hz => by have w0 := xeI147 (by omega); have w1 := xI142.2.2.2.1 (by omega); omega) hC (by omega) hM hS (lv_sub hl [1] rfl)
  exact loop8 (_ + 1)  I8 L9 _ _ ls hI hK (by omega) (fun hz => by have w0 := xI1.2.2.2.1 (by omega); have w1 := hPI (by omega); omega) hC (Nat.lt_succ_self _) hM hS (lv_sub hl [0] rfl)
theorem dX10_sum_0 : decode cX10_sum 0 = .ok (.aload_n 0, 1) := by decide +kernel
theorem dX10_sum_1 : decode cX10_sum 1 = .ok (.invokevirtual 328, 3) := by decide +kernel
theorem dX10_sum_4 : decode cX10_sum 4 = .ok (.aload_n 0, 1) := by decide +kernel
theorem dX10_sum_5 : decode cX10_sum 5 = .ok (.getfield 264, 3) := by decide +kernel
theorem dX10_sum_8 : decode cX10_sum 8 = .ok (.ifCond .ne 59, 3) := by decide +kernel
theorem dX10_sum_11 : decode cX10_sum 11 = .ok (.aload_n 0, 1) := by decide +kernel
theorem dX10_sum_12 : decode cX10_sum 12 = .ok (.invokevirtual 270, 3) := by decide +kernel
theorem dX10_sum_15 : decode cX10_sum 15 = .ok (.bipush 43, 2) := by decide +kernel
theorem dX10_sum_17 : decode cX10_sum 17 = .ok (.if_icmp .eq 12, 3) := by decide +kernel
theorem dX10_sum_20 : decode cX10_sum 20 = .ok (.aload_n 0, 1) := by decide +kernel
theorem dX10_sum_21 : decode cX10_sum 21 = .ok (.invokevirtual 270, 3) := by decide +kernel
theorem dX10_sum_24 : decode cX10_sum 24 = .ok (.bipush 45, 2) := by decide +kernel
theorem dX10_sum_26 : decode cX10_sum 26 = .ok (.if_icmp .ne 41, 3) := by decide +kernel
theorem dX10_sum_29 : decode cX10_sum 29 = .ok (.aload_n 0, 1) := by decide +kernel
theorem dX10_sum_30 : decode cX10_sum 30 = .ok (.invokevirtual 270, 3) := by decide +kernel
theorem dX10_sum_33 : decode cX10_sum 33 = .ok (.bipush 43, 2) := by decide +kernel
theorem dX10_sum_35 : decode cX10_sum 35 = .ok (.if_icmp .ne 7, 3) := by decide +kernel
theorem dX10_sum_38 : decode cX10_sum 38 = .ok (.iconst 2, 1) := by decide +kernel
theorem dX10_sum_39 : decode cX10_sum 39 = .ok (.goto 4, 3) := by decide +kernel
theorem dX10_sum_42 : decode cX10_sum 42 = .ok (.iconst 3, 1) := by decide +kernel
theorem dX10_sum_43 : decode cX10_sum 43 = .ok (.istore_n 1, 1) := by decide +kernel
theorem dX10_sum_44 : decode cX10_sum 44 = .ok (.aload_n 0, 1) := by decide +kernel
theorem dX10_sum_45 : decode cX10_sum 45 = .ok (.dup, 1) := by decide +kernel
theorem dX10_sum_46 : decode cX10_sum 46 = .ok (.getfield 267, 3) := by decide +kernel
theorem dX10_sum_49 : decode cX10_sum 49 = .ok (.iconst 1, 1) := by decide +kernel
theorem dX10_sum_50 : decode cX10_sum 50 = .ok (.iadd, 1) := by decide +kernel
theorem dX10_sum_51 : decode cX10_sum 51 = .ok (.putfield 267, 3) := by decide +kernel
theorem dX10_sum_54 : decode cX10_sum 54 = .ok (.aload_n 0, 1) := by decide +kernel
theorem dX10_sum_55 : decode cX10_sum 55 = .ok (.invokevirtual 328, 3) := by decide +kernel
theorem dX10_sum_58 : decode cX10_sum 58 = .ok (.aload_n 0, 1) := by decide +kernel
theorem dX10_sum_59 : decode cX10_sum 59 = .ok (.iload_n 1, 1) := by decide +kernel
theorem dX10_sum_60 : decode cX10_sum 60 = .ok (.iconst 0, 1) := by decide +kernel
theorem dX10_sum_61 : decode cX10_sum 61 = .ok (.invokevirtual 318, 3) := by decide +kernel
theorem dX10_sum_64 : decode cX10_sum 64 = .ok (.goto (-60), 3) := by decide +kernel
theorem dX10_sum_67 : decode cX10_sum 67 = .ok (.return_, 1) := by decide +kernel
theorem ce_X10_sum : CeV RX10 yX10_sum cX10_sum 2 none 0 := ⟨tb_1537, tp_68, tb_11, tb_1538, rfl, by decide, by decide, by decide +kernel⟩
set_option maxHeartbeats 4000000 in
set_option maxRecDepth 20000 in
theorem V_X10_sum (l : Launch) (D : va_G) (A : Nat → Prop) (ad : Nat → Nat) (ns : List Nat) (I : MI) (L : ML) (G : MG) (hJ : SGM ns G) (hI : INV I) (hp : (I 1000 25).toInt ≤ 400) (hPI : Imp ((I 1000 26).toInt = 0) (0 ≤ (I 1000 31).toInt ∧ (I 1000 31).toInt ≤ 60 ∧ 3 * (I 1000 29).toInt ≤ 6 * (I 1000 31).toInt + (I 1000 25).toInt)) : Met l yX10_sum (wd yX10_sum cX10_sum 2 none) ({ frames := 7, cells := 0, slots := 0, locals := 152 }) (va_Pc [.ref (ad (1000))] (PM D A ad ns I L G)) (va_Qv (fun u => ∃ I2 L2, u = (ad, ns, I2, L2, G) ∧ INV I2 ∧ Kp [(1035, 1037)] [(1000, 25), (1000, 26), (1000, 29), (1000, 31)] I I2 ∧ ((I 1000 25).toInt ≤ (I2 1000 25).toInt ∧ (I2 1000 25).toInt ≤ 400 ∧ (I 1000 29).toInt ≤ (I2 1000 29).toInt ∧ Imp ((I2 1000 26).toInt = 0) ((I 1000 26).toInt = 0 ∧ (I 1000 31).toInt + 1 ≤ (I2 1000 31).toInt ∧ (I2 1000 31).toInt ≤ 60 ∧ (I2 1000 29).toInt + 1 ≤ (I 1000 29).toInt + 2 * ((I2 1000 31).toInt - (I 1000 31).toInt)) ∧ CT I I2 0 1)) (BM D A) A) 0 0 A := by
  refine m_ofW (by decide) (Nat.le_of_ble_eq_true rfl) ?_
  intro p e s m below meth c ls args hC hE hM hA hS hl
  obtain ⟨hx, hb, hml, hown, hts, hr, hlocks, hin⟩ := hC
  have k0 : (0 : Int32).toInt = 0 := by decide
  have k1 : (1 : Int32).toInt = 1 := by decide
  have k2 : (2 : Int32).toInt = 2 := by decide
  have k3 : (3 : Int32).toInt = 3 := by decide
  have k43 : (43 : Int32).toInt = 43 := by decide
  have k45 : (45 : Int32).toInt = 45 := by decide
  have hC := CT.rf I 0
  have hI0 := hI
  have hK : Kp [(1035, 1037)] [(1000, 25), (1000, 26), (1000, 29), (1000, 31)] I I := Kp.rf
  have hl : lv_has ls 2 [(0, .ref (ad (1000)))] := hl
  refine lv_aload_n hx hb dX10_sum_0 rfl (lv_at hl 0 rfl) ?_
  refine m_callv (m_runV (1000) (As := []) (rest := []) hx hb hml hown hts hE hM hS hA ce_X10_term tb_1539 (V_X10_term l D A ad ns I L G hJ hI (by omega) (fun hz => by have w0 := hPI (by omega); omega)) rfl rfl ⟨Nat.le_of_ble_eq_true rfl, Nat.le_of_ble_eq_true rfl⟩ hJ.1 rfl rfl (by decide) rfl hl.1 rfl (Nat.le_of_ble_eq_true rfl) dX10_sum_1 ⟨Nat.le_of_ble_eq_true rfl, Nat.le_of_ble_eq_true rfl⟩) hS (fun u H locs hw hM hS => ?_)
  obtain ⟨I1, L2, rfl, hI, hkI1, xI1⟩ := hw
  have hM : Mem D A ad ns I1 L2 G H := hM
  have hK := hK.trans hkI1 rfl
  have pw3 : (I1 (1000) 24).toInt = (I (1000) 24 : Int32).toInt := congrArg Int32.toInt ((hkI1.get (1000) 24 rfl))
  have pw4 : (I1 (1000) 27).toInt = (I (1000) 27 : Int32).toInt := congrArg Int32.toInt ((hkI1.get (1000) 27 rfl))
  have pw5 : (I1 (1000) 32).toInt = (I (1000) 32 : Int32).toInt := congrArg Int32.toInt ((hkI1.get (1000) 32 rfl))
  have g6 := hI0.get 1000 27 (lo := 0) (hi := 5) rfl
  have g7 := hI0.get 1000 29 (lo := 0) (hi := 300) rfl
  replace hC := hC.comp ((xI1.2.2.2.2).mono0 (0)) (by omega) (by omega) (by omega) (by omega) (fun hz => (xI1.2.2.2.1 hz).1)
  have loop4 : ∀ (n : Nat)  (Ia4 : MI) (La4 : ML) (H : Heap) (locs : List Loc) (ls : Array Slot), INV Ia4 → Kp [(1035, 1037)] [(1000, 25), (1000, 26), (1000, 29), (1000, 31)] I Ia4 → ((I 1000 25).toInt ≤ (Ia4 1000 25).toInt ∧ (Ia4 1000 25).toInt ≤ 400 ∧ (I 1000 29).toInt ≤ (Ia4 1000 29).toInt) → (Imp ((Ia4 1000 26).toInt = 0) ((I 1000 26).toInt = 0 ∧ (I 1000 31).toInt + 1 ≤ (Ia4 1000 31).toInt ∧ (Ia4 1000 31).toInt ≤ 60 ∧ (Ia4 1000 29).toInt + 1 ≤ (I 1000 29).toInt + 2 * ((Ia4 1000 31).toInt - (I 1000 31).toInt))) → (CT I Ia4 0 1) → (400 - (Ia4 1000 25).toInt).toNat < n → Mem D A ad ns Ia4 La4 G H → va_S A s.heap H locs → lv_has ls 2 [(0, .ref (ad (1000)))] → W p l e ({ frames := 7, cells := 0, slots := 0, locals := 152 } : Room) s m args below meth c H locs 0 0 (MQ below (va_Qv (fun u => ∃ I2 L2, u = (ad, ns, I2, L2, G) ∧ INV I2 ∧ Kp [(1035, 1037)] [(1000, 25), (1000, 26), (1000, 29), (1000, 31)] I I2 ∧ ((I 1000 25).toInt ≤ (I2 1000 25).toInt ∧ (I2 1000 25).toInt ≤ 400 ∧ (I 1000 29).toInt ≤ (I2 1000 29).toInt ∧ Imp ((I2 1000 26).toInt = 0) ((I 1000 26).toInt = 0 ∧ (I 1000 31).toInt + 1 ≤ (I2 1000 31).toInt ∧ (I2 1000 31).toInt ≤ 60 ∧ (I2 1000 29).toInt + 1 ≤ (I 1000 29).toInt + 2 * ((I2 1000 31).toInt - (I 1000 31).toInt)) ∧ CT I I2 0 1)) (BM D A) A) args s 0 0 A) (F0 m 4 ls []) := by
    intro n
    induction n with
    | zero =>
      intro  Ia4 La4 H locs ls hI hK hlin hcn hC hmu
      exact absurd hmu (Nat.not_lt_zero _)
    | succ n ih4 =>
      intro  Ia4 La4 H locs ls hI hK hlin hcn hC hmu4 hM hS hl
      have pk27 := congrArg Int32.toInt (hK.get 1000 27 rfl)
      have pk24 := congrArg Int32.toInt (hK.get 1000 24 rfl)
      have gx27 := hI0.get 1000 27 (lo := 0) (hi := 5) rfl
      have gx29 := hI0.get 1000 29 (lo := 0) (hi := 300) rfl
      refine lv_aload_n hx hb dX10_sum_4 rfl (lv_at hl 0 rfl) ?_
      refine m_geti (1000) 26 hx hb hts hown hE oc10 hM hJ.1 rfl (by decide) rfl tb_1203 dX10_sum_5 ?_
      refine lv_if_ne (tgt := 67) hx hb dX10_sum_8 (by decide) (fun c8 => ?_) (fun c8 => ?_)
      · have hc8 := c8
        have q8 := q_ne hc8
        exact m_vret hx hb hr hlocks hM hS (Nat.le_of_ble_eq_true rfl) (Nat.le_of_ble_eq_true rfl) ⟨_, _, rfl, hI, hK, ⟨by omega, by omega, by omega, (fun hz => by have w0 := hcn (by omega); have w1 := hPI (by omega); omega), hC⟩⟩ dX10_sum_67
      · have hc8 := c8
        have q8 := q_eq hc8
        have w9 := hcn (by omega)
        have w10 := hPI (by omega)
        refine lv_aload_n hx hb dX10_sum_11 rfl (lv_at hl 0 rfl) ?_
        refine m_calli (m_runV (1000) (As := []) (rest := []) hx hb hml hown hts hE hM hS hA ce_X10_sign tb_1510 (V_X10_sign l D A ad ns Ia4 La4 G hJ hI) rfl rfl ⟨Nat.le_of_ble_eq_true rfl, Nat.le_of_ble_eq_true rfl⟩ hJ.1 rfl rfl (by decide) rfl hl.1 rfl (Nat.le_of_ble_eq_true rfl) dX10_sum_12 ⟨Nat.le_of_ble_eq_true rfl, Nat.le_of_ble_eq_true rfl⟩) hS (fun r11 u H locs hw hM hS => ?_)
        obtain ⟨rfl, xr11⟩ := hw
        have hM : Mem D A ad ns Ia4 La4 G H := hM
        have g12 := hI.get 1000 24 (lo := 0) (hi := 400) rfl
        have g13 := hI.get 1000 25 (lo := 0) (hi := 100000) rfl
        refine lv_bipush (v := (43)) hx hb dX10_sum_15 (by decide) ?_
        refine lv_icmp_eq (tgt := 29) hx hb dX10_sum_17 (by decide) (fun c14 => ?_) (fun c14 => ?_)
        · have hc14 := c14
          have q14 := q_eq hc14
          have sg15 := xr11.2.2 (by omega)
          refine lv_aload_n hx hb dX10_sum_29 rfl (lv_at hl 0 rfl) ?_
          refine m_calli (m_runV (1000) (As := []) (rest := []) hx hb hml hown hts hE hM hS hA ce_X10_sign tb_1510 (V_X10_sign l D A ad ns Ia4 La4 G hJ hI) rfl rfl ⟨Nat.le_of_ble_eq_true rfl, Nat.le_of_ble_eq_true rfl⟩ hJ.1 rfl rfl (by decide) rfl hl.1 rfl (Nat.le_of_ble_eq_true rfl) dX10_sum_30 ⟨Nat.le_of_ble_eq_true rfl, Nat.le_of_ble_eq_true rfl⟩) hS (fun r16 u H locs hw hM hS => ?_)
          obtain ⟨rfl, xr16⟩ := hw
          have hM : Mem D A ad ns Ia4 La4 G H := hM
          have g17 := hI.get 1000 24 (lo := 0) (hi := 400) rfl
          have g18 := hI.get 1000 25 (lo := 0) (hi := 100000) rfl
          refine lv_bipush (v := (43)) hx hb dX10_sum_33 (by decide) ?_
          refine lv_icmp_ne (tgt := 42) hx hb dX10_sum_35 (by decide) (fun c19 => ?_) (fun c19 => ?_)
          · have hc19 := c19
            have q19 := q_ne hc19
            refine lv_iconst (v := (3)) hx hb dX10_sum_42 (by decide) ?_
            refine lv_istore_n (lv' := [(1, .int (3)), (0, .ref (ad (1000)))]) hx hb dX10_sum_43 rfl hl (by decide) rfl (fun ls hl => ?_)
            refine lv_aload_n hx hb dX10_sum_44 rfl (lv_at hl 1 rfl) ?_
            refine lv_dup hx hb dX10_sum_45 rfl ?_
            refine m_geti (1000) 25 hx hb hts hown hE oc10 hM hJ.1 rfl (by decide) rfl tb_1202 dX10_sum_46 ?_
            have g20 := hI.get (1000) 25 (lo := 0) (hi := 100000) rfl
            refine lv_iconst (v := (1)) hx hb dX10_sum_49 (by decide) ?_
            refine lv_iadd hx hb dX10_sum_50 ?_
            refine lv_topi (fun v21 ev21 => ?_)
            have tv21 := a_add ev21 (by omega) (by omega)
            refine m_puti (1000) 25 hx hb hts hown hE oc10 hM hS hJ.1 rfl (by decide) rfl rfl rfl rfl tb_1202 dX10_sum_51 (fun H locs I22 eI22 hM hS => ?_)
            subst eI22
            have hI := hI.put (n := 1000) (k := 25) (v := v21) (lo := 0) (hi := 100000) rfl (by first | omega | decide)
            have hK := hK.put (n := 1000) (k := 25) (v := v21) (by first | rfl | simp [inR])
            refine lv_aload_n hx hb dX10_sum_54 rfl (lv_at hl 1 rfl) ?_
            have pw23 : ((u2 Ia4 (1000) 25 (v21)) (1000) 24).toInt = (Ia4 (1000) 24 : Int32).toInt := congrArg Int32.toInt ((show (u2 Ia4 (1000) 25 (v21)) (1000) 24 = Ia4 (1000) 24 from by simp [u2_v]))
            have pw24 : ((u2 Ia4 (1000) 25 (v21)) (1000) 25).toInt = (v21 : Int32).toInt := congrArg Int32.toInt ((show (u2 Ia4 (1000) 25 (v21)) (1000) 25 = v21 from by simp [u2_v]))
            have pw25 : ((u2 Ia4 (1000) 25 (v21)) (1000) 26).toInt = (Ia4 (1000) 26 : Int32).toInt := congrArg Int32.toInt ((show (u2 Ia4 (1000) 25 (v21)) (1000) 26 = Ia4 (1000) 26 from by simp [u2_v]))
            have pw26 : ((u2 Ia4 (1000) 25 (v21)) (1000) 27).toInt = (Ia4 (1000) 27 : Int32).toInt := congrArg Int32.toInt ((show (u2 Ia4 (1000) 25 (v21)) (1000) 27 = Ia4 (1000) 27 from by simp [u2_v]))
            have pw27 : ((u2 Ia4 (1000) 25 (v21)) (1000) 29).toInt = (Ia4 (1000) 29 : Int32).toInt := congrArg Int32.toInt ((show (u2 Ia4 (1000) 25 (v21)) (1000) 29 = Ia4 (1000) 29 from by simp [u2_v]))
            have pw28 : ((u2 Ia4 (1000) 25 (v21)) (1000) 31).toInt = (Ia4 (1000) 31 : Int32).toInt := congrArg Int32.toInt ((show (u2 Ia4 (1000) 25 (v21)) (1000) 31 = Ia4 (1000) 31 from by simp [u2_v]))
            have pw29 : ((u2 Ia4 (1000) 25 (v21)) (1000) 32).toInt = (Ia4 (1000) 32 : Int32).toInt := congrArg Int32.toInt ((show (u2 Ia4 (1000) 25 (v21)) (1000) 32 = Ia4 (1000) 32 from by simp [u2_v]))
            refine m_callv (m_runV (1000) (As := []) (rest := []) hx hb hml hown hts hE hM hS hA ce_X10_term tb_1539 (V_X10_term l D A ad ns (u2 Ia4 (1000) 25 (v21)) La4 G hJ hI (by omega) (fun hz => by omega)) rfl rfl ⟨Nat.le_of_ble_eq_true rfl, Nat.le_of_ble_eq_true rfl⟩ hJ.1 rfl rfl (by decide) rfl hl.1 rfl (Nat.le_of_ble_eq_true rfl) dX10_sum_55 ⟨Nat.le_of_ble_eq_true rfl, Nat.le_of_ble_eq_true rfl⟩) hS (fun u H locs hw hM hS => ?_)
            obtain ⟨I30, L31, rfl, hI, hkI30, xI30⟩ := hw
            have hM : Mem D A ad ns I30 L31 G H := hM
            have hK := hK.trans hkI30 rfl
            replace hC := CT.link (I2 := (u2 Ia4 (1000) 25 (v21))) hC ((show (u2 Ia4 (1000) 25 (v21)) 1035 = Ia4 1035 from by funext zz; simp [u2_v])) ((show (u2 Ia4 (1000) 25 (v21)) 1036 = Ia4 1036 from by funext zz; simp [u2_v])) (by omega) (fun hz => by omega)
            have pw32 : (I30 (1000) 24).toInt = (Ia4 (1000) 24 : Int32).toInt := congrArg Int32.toInt (((hkI30.get (1000) 24 rfl)).trans (show (u2 Ia4 (1000) 25 (v21)) (1000) 24 = Ia4 (1000) 24 from by simp [u2_v]))
            have pw33 : (I30 (1000) 27).toInt = (Ia4 (1000) 27 : Int32).toInt := congrArg Int32.toInt (((hkI30.get (1000) 27 rfl)).trans (show (u2 Ia4 (1000) 25 (v21)) (1000) 27 = Ia4 (1000) 27 from by simp [u2_v]))
            have pw34 : (I30 (1000) 32).toInt = (Ia4 (1000) 32 : Int32).toInt := congrArg Int32.toInt (((hkI30.get (1000) 32 rfl)).trans (show (u2 Ia4 (1000) 25 (v21)) (1000) 32 = Ia4 (1000) 32 from by simp [u2_v]))
            replace hC := hC.comp ((xI30.2.2.2.2).mono0 (1)) (by omega) (by omega) (by omega) (by omega) (fun hz => (xI30.2.2.2.1 hz).1)
            refine lv_aload_n hx hb dX10_sum_58 rfl (lv_at hl 1 rfl) ?_
            refine lv_iload_n hx hb dX10_sum_59 rfl (lv_at hl 0 rfl) ?_
            refine lv_iconst (v := (0)) hx hb dX10_sum_60 (by decide) ?_
            refine m_callv (m_runV (1000) (As := [.int (3), .int (0)]) (rest := []) hx hb hml hown hts hE hM hS hA ce_X10_entry tb_1552 (V_X10_entry l D A ad ns I30 L31 G (3) (0) hJ hI (fun hz => by have w0 := xI30.2.2.2.1 (by omega); omega)) rfl rfl ⟨Nat.le_of_ble_eq_true rfl, Nat.le_of_ble_eq_true rfl⟩ hJ.1 rfl rfl (by decide) rfl hl.1 rfl (Nat.le_of_ble_eq_true rfl) dX10_sum_61 ⟨Nat.le_of_ble_eq_true rfl, Nat.le_of_ble_eq_true rfl⟩) hS (fun u H locs hw hM hS => ?_)
            obtain ⟨I35, L36, rfl, hI, hkI35, xI35⟩ := hw
            have hM : Mem D A ad ns I35 L36 G H := hM
            have hK := hK.trans hkI35 rfl
            have pw37 : (I35 (1000) 24).toInt = (Ia4 (1000) 24 : Int32).toInt := congrArg Int32.toInt ((((hkI35.get (1000) 24 rfl)).trans (hkI30.get (1000) 24 rfl)).trans (show (u2 Ia4 (1000) 25 (v21)) (1000) 24 = Ia4 (1000) 24 from by simp [u2_v]))
            have pw38 : (I35 (1000) 25).toInt = (I30 (1000) 25 : Int32).toInt := congrArg Int32.toInt ((hkI35.get (1000) 25 rfl))
            have pw39 : (I35 (1000) 26).toInt = (I30 (1000) 26 : Int32).toInt := congrArg Int32.toInt ((hkI35.get (1000) 26 rfl))
            have pw40 : (I35 (1000) 27).toInt = (Ia4 (1000) 27 : Int32).toInt := congrArg Int32.toInt ((((hkI35.get (1000) 27 rfl)).trans (hkI30.get (1000) 27 rfl)).trans (show (u2 Ia4 (1000) 25 (v21)) (1000) 27 = Ia4 (1000) 27 from by simp [u2_v]))
            have pw41 : (I35 (1000) 31).toInt = (I30 (1000) 31 : Int32).toInt := congrArg Int32.toInt ((hkI35.get (1000) 31 rfl))
            have pw42 : (I35 (1000) 32).toInt = (Ia4 (1000) 32 : Int32).toInt := congrArg Int32.toInt ((((hkI35.get (1000) 32 rfl)).trans (hkI30.get (1000) 32 rfl)).trans (show (u2 Ia4 (1000) 25 (v21)) (1000) 32 = Ia4 (1000) 32 from by simp [u2_v]))
            replace hC := hC.comp (n2 := 1) (xI35.2.2.2.2.ct (by omega) (by omega) xI35.2.2.1 (by omega)) (by omega) (by omega) (by omega) (by omega) (fun hz => by omega)
            have xeI35 : Imp ((I35 1000 26).toInt = 0) ((I35 1000 29).toInt = (I30 1000 29).toInt + 1) := fun hz => xI35.2.2.1 (by omega)
            refine lv_goto (tgt := 4) hx hb dX10_sum_64 (by decide) ?_
            exact ih4  I35 L36 _ _ ls hI hK (by omega) (fun hz => by have w0 := xeI35 (by omega); have w1 := xI30.2.2.2.1 (by omega); omega) hC (by omega) hM hS (lv_sub hl [1] rfl)
          · have hc19 := c19
            have q19 := q_eq hc19
            have sg43 := xr16.2.2 (by omega)
            refine lv_iconst (v := (2)) hx hb dX10_sum_38 (by decide) ?_
            refine lv_goto (tgt := 43) hx hb dX10_sum_39 (by decide) ?_
            refine lv_istore_n (lv' := [(1, .int (2)), (0, .ref (ad (1000)))]) hx hb dX10_sum_43 rfl hl (by decide) rfl (fun ls hl => ?_)
            refine lv_aload_n hx hb dX10_sum_44 rfl (lv_at hl 1 rfl) ?_
            refine lv_dup hx hb dX10_sum_45 rfl ?_
            refine m_geti (1000) 25 hx hb hts hown hE oc10 hM hJ.1 rfl (by decide) rfl tb_1202 dX10_sum_46 ?_
            have g44 := hI.get (1000) 25 (lo := 0) (hi := 100000) rfl
            refine lv_iconst (v := (1)) hx hb dX10_sum_49 (by decide) ?_
            refine lv_iadd hx hb dX10_sum_50 ?_
            refine lv_topi (fun v45 ev45 => ?_)
            have tv45 := a_add ev45 (by omega) (by omega)
            refine m_puti (1000) 25 hx hb hts hown hE oc10 hM hS hJ.1 rfl (by decide) rfl rfl rfl rfl tb_1202 dX10_sum_51 (fun H locs I46 eI46 hM hS => ?_)
            subst eI46
            have hI := hI.put (n := 1000) (k := 25) (v := v45) (lo := 0) (hi := 100000) rfl (by first | omega | decide)
            have hK := hK.put (n := 1000) (k := 25) (v := v45) (by first | rfl | simp [inR])
            refine lv_aload_n hx hb dX10_sum_54 rfl (lv_at hl 1 rfl) ?_
            have pw47 : ((u2 Ia4 (1000) 25 (v45)) (1000) 24).toInt = (Ia4 (1000) 24 : Int32).toInt := congrArg Int32.toInt ((show (u2 Ia4 (1000) 25 (v45)) (1000) 24 = Ia4 (1000) 24 from by simp [u2_v]))
            have pw48 : ((u2 Ia4 (1000) 25 (v45)) (1000) 25).toInt = (v45 : Int32).toInt := congrArg Int32.toInt ((show (u2 Ia4 (1000) 25 (v45)) (1000) 25 = v45 from by simp [u2_v]))
            have pw49 : ((u2 Ia4 (1000) 25 (v45)) (1000) 26).toInt = (Ia4 (1000) 26 : Int32).toInt := congrArg Int32.toInt ((show (u2 Ia4 (1000) 25 (v45)) (1000) 26 = Ia4 (1000) 26 from by simp [u2_v]))
            have pw50 : ((u2 Ia4 (1000) 25 (v45)) (1000) 27).toInt = (Ia4 (1000) 27 : Int32).toInt := congrArg Int32.toInt ((show (u2 Ia4 (1000) 25 (v45)) (1000) 27 = Ia4 (1000) 27 from by simp [u2_v]))
            have pw51 : ((u2 Ia4 (1000) 25 (v45)) (1000) 29).toInt = (Ia4 (1000) 29 : Int32).toInt := congrArg Int32.toInt ((show (u2 Ia4 (1000) 25 (v45)) (1000) 29 = Ia4 (1000) 29 from by simp [u2_v]))
            have pw52 : ((u2 Ia4 (1000) 25 (v45)) (1000) 31).toInt = (Ia4 (1000) 31 : Int32).toInt := congrArg Int32.toInt ((show (u2 Ia4 (1000) 25 (v45)) (1000) 31 = Ia4 (1000) 31 from by simp [u2_v]))
            have pw53 : ((u2 Ia4 (1000) 25 (v45)) (1000) 32).toInt = (Ia4 (1000) 32 : Int32).toInt := congrArg Int32.toInt ((show (u2 Ia4 (1000) 25 (v45)) (1000) 32 = Ia4 (1000) 32 from by simp [u2_v]))
            refine m_callv (m_runV (1000) (As := []) (rest := []) hx hb hml hown hts hE hM hS hA ce_X10_term tb_1539 (V_X10_term l D A ad ns (u2 Ia4 (1000) 25 (v45)) La4 G hJ hI (by omega) (fun hz => by omega)) rfl rfl ⟨Nat.le_of_ble_eq_true rfl, Nat.le_of_ble_eq_true rfl⟩ hJ.1 rfl rfl (by decide) rfl hl.1 rfl (Nat.le_of_ble_eq_true rfl) dX10_sum_55 ⟨Nat.le_of_ble_eq_true rfl, Nat.le_of_ble_eq_true rfl⟩) hS (fun u H locs hw hM hS => ?_)
            obtain ⟨I54, L55, rfl, hI, hkI54, xI54⟩ := hw
            have hM : Mem D A ad ns I54 L55 G H := hM
            have hK := hK.trans hkI54 rfl
            replace hC := CT.link (I2 := (u2 Ia4 (1000) 25 (v45))) hC ((show (u2 Ia4 (1000) 25 (v45)) 1035 = Ia4 1035 from by funext zz; simp [u2_v])) ((show (u2 Ia4 (1000) 25 (v45)) 1036 = Ia4 1036 from by funext zz; simp [u2_v])) (by omega) (fun hz => by omega)
            have pw56 : (I54 (1000) 24).toInt = (Ia4 (1000) 24 : Int32).toInt := congrArg Int32.toInt (((hkI54.get (1000) 24 rfl)).trans (show (u2 Ia4 (1000) 25 (v45)) (1000) 24 = Ia4 (1000) 24 from by simp [u2_v]))
            have pw57 : (I54 (1000) 27).toInt = (Ia4 (1000) 27 : Int32).toInt := congrArg Int32.toInt (((hkI54.get (1000) 27 rfl)).trans (show (u2 Ia4 (1000) 25 (v45)) (1000) 27 = Ia4 (1000) 27 from by simp [u2_v]))
            have pw58 : (I54 (1000) 32).toInt = (Ia4 (1000) 32 : Int32).toInt := congrArg Int32.toInt (((hkI54.get (1000) 32 rfl)).trans (show (u2 Ia4 (1000) 25 (v45)) (1000) 32 = Ia4 (1000) 32 from by simp [u2_v]))
            replace hC := hC.comp ((xI54.2.2.2.2).mono0 (1)) (by omega) (by omega) (by omega) (by omega) (fun hz => (xI54.2.2.2.1 hz).1)
            refine lv_aload_n hx hb dX10_sum_58 rfl (lv_at hl 1 rfl) ?_
            refine lv_iload_n hx hb dX10_sum_59 rfl (lv_at hl 0 rfl) ?_
            refine lv_iconst (v := (0)) hx hb dX10_sum_60 (by decide) ?_
            refine m_callv (m_runV (1000) (As := [.int (2), .int (0)]) (rest := []) hx hb hml hown hts hE hM hS hA ce_X10_entry tb_1552 (V_X10_entry l D A ad ns I54 L55 G (2) (0) hJ hI (fun hz => by have w0 := xI54.2.2.2.1 (by omega); omega)) rfl rfl ⟨Nat.le_of_ble_eq_true rfl, Nat.le_of_ble_eq_true rfl⟩ hJ.1 rfl rfl (by decide) rfl hl.1 rfl (Nat.le_of_ble_eq_true rfl) dX10_sum_61 ⟨Nat.le_of_ble_eq_true rfl, Nat.le_of_ble_eq_true rfl⟩) hS (fun u H locs hw hM hS => ?_)
            obtain ⟨I59, L60, rfl, hI, hkI59, xI59⟩ := hw
            have hM : Mem D A ad ns I59 L60 G H := hM
            have hK := hK.trans hkI59 rfl
            have pw61 : (I59 (1000) 24).toInt = (Ia4 (1000) 24 : Int32).toInt := congrArg Int32.toInt ((((hkI59.get (1000) 24 rfl)).trans (hkI54.get (1000) 24 rfl)).trans (show (u2 Ia4 (1000) 25 (v45)) (1000) 24 = Ia4 (1000) 24 from by simp [u2_v]))
            have pw62 : (I59 (1000) 25).toInt = (I54 (1000) 25 : Int32).toInt := congrArg Int32.toInt ((hkI59.get (1000) 25 rfl))
            have pw63 : (I59 (1000) 26).toInt = (I54 (1000) 26 : Int32).toInt := congrArg Int32.toInt ((hkI59.get (1000) 26 rfl))
            have pw64 : (I59 (1000) 27).toInt = (Ia4 (1000) 27 : Int32).toInt := congrArg Int32.toInt ((((hkI59.get (1000) 27 rfl)).trans (hkI54.get (1000) 27 rfl)).trans (show (u2 Ia4 (1000) 25 (v45)) (1000) 27 = Ia4 (1000) 27 from by simp [u2_v]))
            have pw65 : (I59 (1000) 31).toInt = (I54 (1000) 31 : Int32).toInt := congrArg Int32.toInt ((hkI59.get (1000) 31 rfl))
            have pw66 : (I59 (1000) 32).toInt = (Ia4 (1000) 32 : Int32).toInt := congrArg Int32.toInt ((((hkI59.get (1000) 32 rfl)).trans (hkI54.get (1000) 32 rfl)).trans (show (u2 Ia4 (1000) 25 (v45)) (1000) 32 = Ia4 (1000) 32 from by simp [u2_v]))
            replace hC := hC.comp (n2 := 1) (xI59.2.2.2.2.ct (by omega) (by omega) xI59.2.2.1 (by omega)) (by omega) (by omega) (by omega) (by omega) (fun hz => by omega)
            have xeI59 : Imp ((I59 1000 26).toInt = 0) ((I59 1000 29).toInt = (I54 1000 29).toInt + 1) := fun hz => xI59.2.2.1 (by omega)
            refine lv_goto (tgt := 4) hx hb dX10_sum_64 (by decide) ?_
            exact ih4  I59 L60 _ _ ls hI hK (by omega) (fun hz => by have w0 := xeI59 (by omega); have w1 := xI54.2.2.2.1 (by omega); omega) hC (by omega) hM hS (lv_sub hl [1] rfl)
        · have hc14 := c14
          have q14 := q_ne hc14
          refine lv_aload_n hx hb dX10_sum_20 rfl (lv_at hl 0 rfl) ?_
          refine m_calli (m_runV (1000) (As := []) (rest := []) hx hb hml hown hts hE hM hS hA ce_X10_sign tb_1510 (V_X10_sign l D A ad ns Ia4 La4 G hJ hI) rfl rfl ⟨Nat.le_of_ble_eq_true rfl, Nat.le_of_ble_eq_true rfl⟩ hJ.1 rfl rfl (by decide) rfl hl.1 rfl (Nat.le_of_ble_eq_true rfl) dX10_sum_21 ⟨Nat.le_of_ble_eq_true rfl, Nat.le_of_ble_eq_true rfl⟩) hS (fun r67 u H locs hw hM hS => ?_)
          obtain ⟨rfl, xr67⟩ := hw
          have hM : Mem D A ad ns Ia4 La4 G H := hM
          have g68 := hI.get 1000 24 (lo := 0) (hi := 400) rfl
          have g69 := hI.get 1000 25 (lo := 0) (hi := 100000) rfl
          refine lv_bipush (v := (45)) hx hb dX10_sum_24 (by decide) ?_
          refine lv_icmp_ne (tgt := 67) hx hb dX10_sum_26 (by decide) (fun c70 => ?_) (fun c70 => ?_)
          · have hc70 := c70
            have q70 := q_ne hc70
            exact m_vret hx hb hr hlocks hM hS (Nat.le_of_ble_eq_true rfl) (Nat.le_of_ble_eq_true rfl) ⟨_, _, rfl, hI, hK, ⟨by omega, by omega, by omega, (fun hz => by omega), hC⟩⟩ dX10_sum_67
          · have hc70 := c70
            have q70 := q_eq hc70
            have sg71 := xr67.2.2 (by omega)
            refine lv_aload_n hx hb dX10_sum_29 rfl (lv_at hl 0 rfl) ?_
            refine m_calli (m_runV (1000) (As := []) (rest := []) hx hb hml hown hts hE hM hS hA ce_X10_sign tb_1510 (V_X10_sign l D A ad ns Ia4 La4 G hJ hI) rfl rfl ⟨Nat.le_of_ble_eq_true rfl, Nat.le_of_ble_eq_true rfl⟩ hJ.1 rfl rfl (by decide) rfl hl.1 rfl (Nat.le_of_ble_eq_true rfl) dX10_sum_30 ⟨Nat.le_of_ble_eq_true rfl, Nat.le_of_ble_eq_true rfl⟩) hS (fun r72 u H locs hw hM hS => ?_)
            obtain ⟨rfl, xr72⟩ := hw
            have hM : Mem D A ad ns Ia4 La4 G H := hM
            have g73 := hI.get 1000 24 (lo := 0) (hi := 400) rfl
            have g74 := hI.get 1000 25 (lo := 0) (hi := 100000) rfl
            refine lv_bipush (v := (43)) hx hb dX10_sum_33 (by decide) ?_
            refine lv_icmp_ne (tgt := 42) hx hb dX10_sum_35 (by decide) (fun c75 => ?_) (fun c75 => ?_)
            · have hc75 := c75
              have q75 := q_ne hc75
              refine lv_iconst (v := (3)) hx hb dX10_sum_42 (by decide) ?_
              refine lv_istore_n (lv' := [(1, .int (3)), (0, .ref (ad (1000)))]) hx hb dX10_sum_43 rfl hl (by decide) rfl (fun ls hl => ?_)
              refine lv_aload_n hx hb dX10_sum_44 rfl (lv_at hl 1 rfl) ?_
              refine lv_dup hx hb dX10_sum_45 rfl ?_
              refine m_geti (1000) 25 hx hb hts hown hE oc10 hM hJ.1 rfl (by decide) rfl tb_1202 dX10_sum_46 ?_
              have g76 := hI.get (1000) 25 (lo := 0) (hi := 100000) rfl
              refine lv_iconst (v := (1)) hx hb dX10_sum_49 (by decide) ?_
              refine lv_iadd hx hb dX10_sum_50 ?_
              refine lv_topi (fun v77 ev77 => ?_)
              have tv77 := a_add ev77 (by omega) (by omega)
              refine m_puti (1000) 25 hx hb hts hown hE oc10 hM hS hJ.1 rfl (by decide) rfl rfl rfl rfl tb_1202 dX10_sum_51 (fun H locs I78 eI78 hM hS => ?_)
              subst eI78
              have hI := hI.put (n := 1000) (k := 25) (v := v77) (lo := 0) (hi := 100000) rfl (by first | omega | decide)
              have hK := hK.put (n := 1000) (k := 25) (v := v77) (by first | rfl | simp [inR])
              refine lv_aload_n hx hb dX10_sum_54 rfl (lv_at hl 1 rfl) ?_
              have pw79 : ((u2 Ia4 (1000) 25 (v77)) (1000) 24).toInt = (Ia4 (1000) 24 : Int32).toInt := congrArg Int32.toInt ((show (u2 Ia4 (1000) 25 (v77)) (1000) 24 = Ia4 (1000) 24 from by simp [u2_v]))
              have pw80 : ((u2 Ia4 (1000) 25 (v77)) (1000) 25).toInt = (v77 : Int32).toInt := congrArg Int32.toInt ((show (u2 Ia4 (1000) 25 (v77)) (1000) 25 = v77 from by simp [u2_v]))
              have pw81 : ((u2 Ia4 (1000) 25 (v77)) (1000) 26).toInt = (Ia4 (1000) 26 : Int32).toInt := congrArg Int32.toInt ((show (u2 Ia4 (1000) 25 (v77)) (1000) 26 = Ia4 (1000) 26 from by simp [u2_v]))
              have pw82 : ((u2 Ia4 (1000) 25 (v77)) (1000) 27).toInt = (Ia4 (1000) 27 : Int32).toInt := congrArg Int32.toInt ((show (u2 Ia4 (1000) 25 (v77)) (1000) 27 = Ia4 (1000) 27 from by simp [u2_v]))
              have pw83 : ((u2 Ia4 (1000) 25 (v77)) (1000) 29).toInt = (Ia4 (1000) 29 : Int32).toInt := congrArg Int32.toInt ((show (u2 Ia4 (1000) 25 (v77)) (1000) 29 = Ia4 (1000) 29 from by simp [u2_v]))
              have pw84 : ((u2 Ia4 (1000) 25 (v77)) (1000) 31).toInt = (Ia4 (1000) 31 : Int32).toInt := congrArg Int32.toInt ((show (u2 Ia4 (1000) 25 (v77)) (1000) 31 = Ia4 (1000) 31 from by simp [u2_v]))
              have pw85 : ((u2 Ia4 (1000) 25 (v77)) (1000) 32).toInt = (Ia4 (1000) 32 : Int32).toInt := congrArg Int32.toInt ((show (u2 Ia4 (1000) 25 (v77)) (1000) 32 = Ia4 (1000) 32 from by simp [u2_v]))
              refine m_callv (m_runV (1000) (As := []) (rest := []) hx hb hml hown hts hE hM hS hA ce_X10_term tb_1539 (V_X10_term l D A ad ns (u2 Ia4 (1000) 25 (v77)) La4 G hJ hI (by omega) (fun hz => by omega)) rfl rfl ⟨Nat.le_of_ble_eq_true rfl, Nat.le_of_ble_eq_true rfl⟩ hJ.1 rfl rfl (by decide) rfl hl.1 rfl (Nat.le_of_ble_eq_true rfl) dX10_sum_55 ⟨Nat.le_of_ble_eq_true rfl, Nat.le_of_ble_eq_true rfl⟩) hS (fun u H locs hw hM hS => ?_)
              obtain ⟨I86, L87, rfl, hI, hkI86, xI86⟩ := hw
              have hM : Mem D A ad ns I86 L87 G H := hM
              have hK := hK.trans hkI86 rfl
              replace hC := CT.link (I2 := (u2 Ia4 (1000) 25 (v77))) hC ((show (u2 Ia4 (1000) 25 (v77)) 1035 = Ia4 1035 from by funext zz; simp [u2_v])) ((show (u2 Ia4 (1000) 25 (v77)) 1036 = Ia4 1036 from by funext zz; simp [u2_v])) (by omega) (fun hz => by omega)
              have pw88 : (I86 (1000) 24).toInt = (Ia4 (1000) 24 : Int32).toInt := congrArg Int32.toInt (((hkI86.get (1000) 24 rfl)).trans (show (u2 Ia4 (1000) 25 (v77)) (1000) 24 = Ia4 (1000) 24 from by simp [u2_v]))
              have pw89 : (I86 (1000) 27).toInt = (Ia4 (1000) 27 : Int32).toInt := congrArg Int32.toInt (((hkI86.get (1000) 27 rfl)).trans (show (u2 Ia4 (1000) 25 (v77)) (1000) 27 = Ia4 (1000) 27 from by simp [u2_v]))
              have pw90 : (I86 (1000) 32).toInt = (Ia4 (1000) 32 : Int32).toInt := congrArg Int32.toInt (((hkI86.get (1000) 32 rfl)).trans (show (u2 Ia4 (1000) 25 (v77)) (1000) 32 = Ia4 (1000) 32 from by simp [u2_v]))
              replace hC := hC.comp ((xI86.2.2.2.2).mono0 (1)) (by omega) (by omega) (by omega) (by omega) (fun hz => (xI86.2.2.2.1 hz).1)
              refine lv_aload_n hx hb dX10_sum_58 rfl (lv_at hl 1 rfl) ?_
              refine lv_iload_n hx hb dX10_sum_59 rfl (lv_at hl 0 rfl) ?_
              refine lv_iconst (v := (0)) hx hb dX10_sum_60 (by decide) ?_
              refine m_callv (m_runV (1000) (As := [.int (3), .int (0)]) (rest := []) hx hb hml hown hts hE hM hS hA ce_X10_entry tb_1552 (V_X10_entry l D A ad ns I86 L87 G (3) (0) hJ hI (fun hz => by have w0 := xI86.2.2.2.1 (by omega); omega)) rfl rfl ⟨Nat.le_of_ble_eq_true rfl, Nat.le_of_ble_eq_true rfl⟩ hJ.1 rfl rfl (by decide) rfl hl.1 rfl (Nat.le_of_ble_eq_true rfl) dX10_sum_61 ⟨Nat.le_of_ble_eq_true rfl, Nat.le_of_ble_eq_true rfl⟩) hS (fun u H locs hw hM hS => ?_)
              obtain ⟨I91, L92, rfl, hI, hkI91, xI91⟩ := hw
              have hM : Mem D A ad ns I91 L92 G H := hM
              have hK := hK.trans hkI91 rfl
              have pw93 : (I91 (1000) 24).toInt = (Ia4 (1000) 24 : Int32).toInt := congrArg Int32.toInt ((((hkI91.get (1000) 24 rfl)).trans (hkI86.get (1000) 24 rfl)).trans (show (u2 Ia4 (1000) 25 (v77)) (1000) 24 = Ia4 (1000) 24 from by simp [u2_v]))
              have pw94 : (I91 (1000) 25).toInt = (I86 (1000) 25 : Int32).toInt := congrArg Int32.toInt ((hkI91.get (1000) 25 rfl))
              have pw95 : (I91 (1000) 26).toInt = (I86 (1000) 26 : Int32).toInt := congrArg Int32.toInt ((hkI91.get (1000) 26 rfl))
              have pw96 : (I91 (1000) 27).toInt = (Ia4 (1000) 27 : Int32).toInt := congrArg Int32.toInt ((((hkI91.get (1000) 27 rfl)).trans (hkI86.get (1000) 27 rfl)).trans (show (u2 Ia4 (1000) 25 (v77)) (1000) 27 = Ia4 (1000) 27 from by simp [u2_v]))
              have pw97 : (I91 (1000) 31).toInt = (I86 (1000) 31 : Int32).toInt := congrArg Int32.toInt ((hkI91.get (1000) 31 rfl))
              have pw98 : (I91 (1000) 32).toInt = (Ia4 (1000) 32 : Int32).toInt := congrArg Int32.toInt ((((hkI91.get (1000) 32 rfl)).trans (hkI86.get (1000) 32 rfl)).trans (show (u2 Ia4 (1000) 25 (v77)) (1000) 32 = Ia4 (1000) 32 from by simp [u2_v]))
              replace hC := hC.comp (n2 := 1) (xI91.2.2.2.2.ct (by omega) (by omega) xI91.2.2.1 (by omega)) (by omega) (by omega) (by omega) (by omega) (fun hz => by omega)
              have xeI91 : Imp ((I91 1000 26).toInt = 0) ((I91 1000 29).toInt = (I86 1000 29).toInt + 1) := fun hz => xI91.2.2.1 (by omega)
              refine lv_goto (tgt := 4) hx hb dX10_sum_64 (by decide) ?_
              exact ih4  I91 L92 _ _ ls hI hK (by omega) (fun hz => by have w0 := xeI91 (by omega); have w1 := xI86.2.2.2.1 (by omega); omega) hC (by omega) hM hS (lv_sub hl [1] rfl)
            · have hc75 := c75
              have q75 := q_eq hc75
              have sg99 := xr72.2.2 (by omega)
              refine lv_iconst (v := (2)) hx hb dX10_sum_38 (by decide) ?_
              refine lv_goto (tgt := 43) hx hb dX10_sum_39 (by decide) ?_
              refine lv_istore_n (lv' := [(1, .int (2)), (0, .ref (ad (1000)))]) hx hb dX10_sum_43 rfl hl (by decide) rfl (fun ls hl => ?_)
              refine lv_aload_n hx hb dX10_sum_44 rfl (lv_at hl 1 rfl) ?_
              refine lv_dup hx hb dX10_sum_45 rfl ?_
              refine m_geti (1000) 25 hx hb hts hown hE oc10 hM hJ.1 rfl (by decide) rfl tb_1202 dX10_sum_46 ?_
              have g100 := hI.get (1000) 25 (lo := 0) (hi := 100000) rfl
              refine lv_iconst (v := (1)) hx hb dX10_sum_49 (by decide) ?_
              refine lv_iadd hx hb dX10_sum_50 ?_
              refine lv_topi (fun v101 ev101 => ?_)
              have tv101 := a_add ev101 (by omega) (by omega)
              refine m_puti (1000) 25 hx hb hts hown hE oc10 hM hS hJ.1 rfl (by decide) rfl rfl rfl rfl tb_1202 dX10_sum_51 (fun H locs I102 eI102 hM hS => ?_)
              subst eI102
              have hI := hI.put (n := 1000) (k := 25) (v := v101) (lo := 0) (hi := 100000) rfl (by first | omega | decide)
              have hK := hK.put (n := 1000) (k := 25) (v := v101) (by first | rfl | simp [inR])
              refine lv_aload_n hx hb dX10_sum_54 rfl (lv_at hl 1 rfl) ?_
              have pw103 : ((u2 Ia4 (1000) 25 (v101)) (1000) 24).toInt = (Ia4 (1000) 24 : Int32).toInt := congrArg Int32.toInt ((show (u2 Ia4 (1000) 25 (v101)) (1000) 24 = Ia4 (1000) 24 from by simp [u2_v]))
              have pw104 : ((u2 Ia4 (1000) 25 (v101)) (1000) 25).toInt = (v101 : Int32).toInt := congrArg Int32.toInt ((show (u2 Ia4 (1000) 25 (v101)) (1000) 25 = v101 from by simp [u2_v]))
              have pw105 : ((u2 Ia4 (1000) 25 (v101)) (1000) 26).toInt = (Ia4 (1000) 26 : Int32).toInt := congrArg Int32.toInt ((show (u2 Ia4 (1000) 25 (v101)) (1000) 26 = Ia4 (1000) 26 from by simp [u2_v]))
              have pw106 : ((u2 Ia4 (1000) 25 (v101)) (1000) 27).toInt = (Ia4 (1000) 27 : Int32).toInt := congrArg Int32.toInt ((show (u2 Ia4 (1000) 25 (v101)) (1000) 27 = Ia4 (1000) 27 from by simp [u2_v]))
              have pw107 : ((u2 Ia4 (1000) 25 (v101)) (1000) 29).toInt = (Ia4 (1000) 29 : Int32).toInt := congrArg Int32.toInt ((show (u2 Ia4 (1000) 25 (v101)) (1000) 29 = Ia4 (1000) 29 from by simp [u2_v]))
              have pw108 : ((u2 Ia4 (1000) 25 (v101)) (1000) 31).toInt = (Ia4 (1000) 31 : Int32).toInt := congrArg Int32.toInt ((show (u2 Ia4 (1000) 25 (v101)) (1000) 31 = Ia4 (1000) 31 from by simp [u2_v]))
              have pw109 : ((u2 Ia4 (1000) 25 (v101)) (1000) 32).toInt = (Ia4 (1000) 32 : Int32).toInt := congrArg Int32.toInt ((show (u2 Ia4 (1000) 25 (v101)) (1000) 32 = Ia4 (1000) 32 from by simp [u2_v]))
              refine m_callv (m_runV (1000) (As := []) (rest := []) hx hb hml hown hts hE hM hS hA ce_X10_term tb_1539 (V_X10_term l D A ad ns (u2 Ia4 (1000) 25 (v101)) La4 G hJ hI (by omega) (fun hz => by omega)) rfl rfl ⟨Nat.le_of_ble_eq_true rfl, Nat.le_of_ble_eq_true rfl⟩ hJ.1 rfl rfl (by decide) rfl hl.1 rfl (Nat.le_of_ble_eq_true rfl) dX10_sum_55 ⟨Nat.le_of_ble_eq_true rfl, Nat.le_of_ble_eq_true rfl⟩) hS (fun u H locs hw hM hS => ?_)
              obtain ⟨I110, L111, rfl, hI, hkI110, xI110⟩ := hw
              have hM : Mem D A ad ns I110 L111 G H := hM
              have hK := hK.trans hkI110 rfl
              replace hC := CT.link (I2 := (u2 Ia4 (1000) 25 (v101))) hC ((show (u2 Ia4 (1000) 25 (v101)) 1035 = Ia4 1035 from by funext zz; simp [u2_v])) ((show (u2 Ia4 (1000) 25 (v101)) 1036 = Ia4 1036 from by funext zz; simp [u2_v])) (by omega) (fun hz => by omega)
              have pw112 : (I110 (1000) 24).toInt = (Ia4 (1000) 24 : Int32).toInt := congrArg Int32.toInt (((hkI110.get (1000) 24 rfl)).trans (show (u2 Ia4 (1000) 25 (v101)) (1000) 24 = Ia4 (1000) 24 from by simp [u2_v]))
              have pw113 : (I110 (1000) 27).toInt = (Ia4 (1000) 27 : Int32).toInt := congrArg Int32.toInt (((hkI110.get (1000) 27 rfl)).trans (show (u2 Ia4 (1000) 25 (v101)) (1000) 27 = Ia4 (1000) 27 from by simp [u2_v]))
              have pw114 : (I110 (1000) 32).toInt = (Ia4 (1000) 32 : Int32).toInt := congrArg Int32.toInt (((hkI110.get (1000) 32 rfl)).trans (show (u2 Ia4 (1000) 25 (v101)) (1000) 32 = Ia4 (1000) 32 from by simp [u2_v]))
              replace hC := hC.comp ((xI110.2.2.2.2).mono0 (1)) (by omega) (by omega) (by omega) (by omega) (fun hz => (xI110.2.2.2.1 hz).1)
              refine lv_aload_n hx hb dX10_sum_58 rfl (lv_at hl 1 rfl) ?_
              refine lv_iload_n hx hb dX10_sum_59 rfl (lv_at hl 0 rfl) ?_
              refine lv_iconst (v := (0)) hx hb dX10_sum_60 (by decide) ?_
              refine m_callv (m_runV (1000) (As := [.int (2), .int (0)]) (rest := []) hx hb hml hown hts hE hM hS hA ce_X10_entry tb_1552 (V_X10_entry l D A ad ns I110 L111 G (2) (0) hJ hI (fun hz => by have w0 := xI110.2.2.2.1 (by omega); omega)) rfl rfl ⟨Nat.le_of_ble_eq_true rfl, Nat.le_of_ble_eq_true rfl⟩ hJ.1 rfl rfl (by decide) rfl hl.1 rfl (Nat.le_of_ble_eq_true rfl) dX10_sum_61 ⟨Nat.le_of_ble_eq_true rfl, Nat.le_of_ble_eq_true rfl⟩) hS (fun u H locs hw hM hS => ?_)
              obtain ⟨I115, L116, rfl, hI, hkI115, xI115⟩ := hw
              have hM : Mem D A ad ns I115 L116 G H := hM
              have hK := hK.trans hkI115 rfl
              have pw117 : (I115 (1000) 24).toInt = (Ia4 (1000) 24 : Int32).toInt := congrArg Int32.toInt ((((hkI115.get (1000) 24 rfl)).trans (hkI110.get (1000) 24 rfl)).trans (show (u2 Ia4 (1000) 25 (v101)) (1000) 24 = Ia4 (1000) 24 from by simp [u2_v]))
              have pw118 : (I115 (1000) 25).toInt = (I110 (1000) 25 : Int32).toInt := congrArg Int32.toInt ((hkI115.get (1000) 25 rfl))
              have pw119 : (I115 (1000) 26).toInt = (I110 (1000) 26 : Int32).toInt := congrArg Int32.toInt ((hkI115.get (1000) 26 rfl))
              have pw120 : (I115 (1000) 27).toInt = (Ia4 (1000) 27 : Int32).toInt := congrArg Int32.toInt ((((hkI115.get (1000) 27 rfl)).trans (hkI110.get (1000) 27 rfl)).trans (show (u2 Ia4 (1000) 25 (v101)) (1000) 27 = Ia4 (1000) 27 from by simp [u2_v]))
              have pw121 : (I115 (1000) 31).toInt = (I110 (1000) 31 : Int32).toInt := congrArg Int32.toInt ((hkI115.get (1000) 31 rfl))
              have pw122 : (I115 (1000) 32).toInt = (Ia4 (1000) 32 : Int32).toInt := congrArg Int32.toInt ((((hkI115.get (1000) 32 rfl)).trans (hkI110.get (1000) 32 rfl)).trans (show (u2 Ia4 (1000) 25 (v101)) (1000) 32 = Ia4 (1000) 32 from by simp [u2_v]))
              replace hC := hC.comp (n2 := 1) (xI115.2.2.2.2.ct (by omega) (by omega) xI115.2.2.1 (by omega)) (by omega) (by omega) (by omega) (by omega) (fun hz => by omega)
              have xeI115 : Imp ((I115 1000 26).toInt = 0) ((I115 1000 29).toInt = (I110 1000 29).toInt + 1) := fun hz => xI115.2.2.1 (by omega)
              refine lv_goto (tgt := 4) hx hb dX10_sum_64 (by decide) ?_
              exact ih4  I115 L116 _ _ ls hI hK (by omega) (fun hz => by have w0 := xeI115 (by omega); have w1 := xI110.2.2.2.1 (by omega); omega) hC (by omega) hM hS (lv_sub hl [1] rfl)
  exact loop4 (_ + 1)  I1 L2 _ _ ls hI hK (by omega) (fun hz => by have w0 := xI1.2.2.2.1 (by omega); have w1 := hPI (by omega); omega) hC (Nat.lt_succ_self _) hM hS (lv_sub hl [0] rfl)
