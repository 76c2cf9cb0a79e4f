theorem dX10_term_0 : decode cX10_term 0 = .ok (.aload_n 0, 1) := by decide +kernel
theorem dX10_term_1 : decode cX10_term 1 = .ok (.invokevirtual 325, 3) := by decide +kernel
theorem dX10_term_4 : decode cX10_term 4 = .ok (.aload_n 0, 1) := by decide +kernel
theorem dX10_term_5 : decode cX10_term 5 = .ok (.invokevirtual 287, 3) := by decide +kernel
theorem dX10_term_8 : decode cX10_term 8 = .ok (.aload_n 0, 1) := by decide +kernel
theorem dX10_term_9 : decode cX10_term 9 = .ok (.getfield 264, 3) := by decide +kernel
theorem dX10_term_12 : decode cX10_term 12 = .ok (.ifCond .ne 65, 3) := by decide +kernel
theorem dX10_term_15 : decode cX10_term 15 = .ok (.aload_n 0, 1) := by decide +kernel
theorem dX10_term_16 : decode cX10_term 16 = .ok (.invokevirtual 270, 3) := by decide +kernel
theorem dX10_term_19 : decode cX10_term 19 = .ok (.bipush 42, 2) := by decide +kernel
theorem dX10_term_21 : decode cX10_term 21 = .ok (.if_icmp .eq 12, 3) := by decide +kernel
theorem dX10_term_24 : decode cX10_term 24 = .ok (.aload_n 0, 1) := by decide +kernel
theorem dX10_term_25 : decode cX10_term 25 = .ok (.invokevirtual 270, 3) := by decide +kernel
theorem dX10_term_28 : decode cX10_term 28 = .ok (.bipush 47, 2) := by decide +kernel
theorem dX10_term_30 : decode cX10_term 30 = .ok (.if_icmp .ne 47, 3) := by decide +kernel
theorem dX10_term_33 : decode cX10_term 33 = .ok (.aload_n 0, 1) := by decide +kernel
theorem dX10_term_34 : decode cX10_term 34 = .ok (.invokevirtual 270, 3) := by decide +kernel
theorem dX10_term_37 : decode cX10_term 37 = .ok (.bipush 42, 2) := by decide +kernel
theorem dX10_term_39 : decode cX10_term 39 = .ok (.if_icmp .ne 8, 3) := by decide +kernel
theorem dX10_term_42 : decode cX10_term 42 = .ok (.bipush 13, 2) := by decide +kernel
theorem dX10_term_44 : decode cX10_term 44 = .ok (.goto 5, 3) := by decide +kernel
theorem dX10_term_47 : decode cX10_term 47 = .ok (.bipush 14, 2) := by decide +kernel
theorem dX10_term_49 : decode cX10_term 49 = .ok (.istore_n 1, 1) := by decide +kernel
theorem dX10_term_50 : decode cX10_term 50 = .ok (.aload_n 0, 1) := by decide +kernel
theorem dX10_term_51 : decode cX10_term 51 = .ok (.dup, 1) := by decide +kernel
theorem dX10_term_52 : decode cX10_term 52 = .ok (.getfield 267, 3) := by decide +kernel
theorem dX10_term_55 : decode cX10_term 55 = .ok (.iconst 1, 1) := by decide +kernel
theorem dX10_term_56 : decode cX10_term 56 = .ok (.iadd, 1) := by decide +kernel
theorem dX10_term_57 : decode cX10_term 57 = .ok (.putfield 267, 3) := by decide +kernel
theorem dX10_term_60 : decode cX10_term 60 = .ok (.aload_n 0, 1) := by decide +kernel
theorem dX10_term_61 : decode cX10_term 61 = .ok (.invokevirtual 325, 3) := by decide +kernel
theorem dX10_term_64 : decode cX10_term 64 = .ok (.aload_n 0, 1) := by decide +kernel
theorem dX10_term_65 : decode cX10_term 65 = .ok (.iload_n 1, 1) := by decide +kernel
theorem dX10_term_66 : decode cX10_term 66 = .ok (.iconst 0, 1) := by decide +kernel
theorem dX10_term_67 : decode cX10_term 67 = .ok (.invokevirtual 318, 3) := by decide +kernel
theorem dX10_term_70 : decode cX10_term 70 = .ok (.aload_n 0, 1) := by decide +kernel
theorem dX10_term_71 : decode cX10_term 71 = .ok (.invokevirtual 287, 3) := by decide +kernel
theorem dX10_term_74 : decode cX10_term 74 = .ok (.goto (-66), 3) := by decide +kernel
theorem dX10_term_77 : decode cX10_term 77 = .ok (.return_, 1) := by decide +kernel
theorem ce_X10_term : CeV RX10 yX10_term cX10_term 2 none 0 := ⟨tb_1541, tp_69, tb_11, tb_1542, rfl, by decide, by decide, by decide +kernel⟩
set_option maxHeartbeats 4000000 in
set_option maxRecDepth 20000 in
theorem V_X10_term (l : Launch) (D : va_G) (A : Nat → Prop) (ad : Nat → Nat) (ns : List Nat) (I : MI) (L : ML) (G : MG) (hJ : SGM ns G) (hI : INV I) (hPI : (I 1000 26).toInt = 0 → 0 ≤ (I 1000 31).toInt ∧ (I 1000 31).toInt ≤ 60 ∧ 3 * (I 1000 29).toInt ≤ 6 * (I 1000 31).toInt + (I 1000 25).toInt ∧ (I 1000 25).toInt ≤ 400) : Met l yX10_term (wd yX10_term cX10_term 2 none) ({ frames := 6, cells := 0, slots := 0, locals := 131 }) (va_Pc [.ref (ad (1000))] (PM D A ad ns I L G)) (va_Qv (fun u => ∃ I2 L2, u = (ad, ns, I2, L2, G) ∧ INV I2 ∧ Kp [(1035, 1037)] [(1000, 25), (1000, 26), (1000, 29), (1000, 31)] I I2 ∧ ((I 1000 25).toInt ≤ (I2 1000 25).toInt ∧ ((I2 1000 25).toInt = (I 1000 25).toInt ∨ (I2 1000 25).toInt ≤ 400) ∧ ((I2 1000 26).toInt = 0 → (I 1000 26).toInt = 0) ∧ (I 1000 29).toInt ≤ (I2 1000 29).toInt ∧ ((I2 1000 26).toInt = 0 → (I 1000 31).toInt + 1 ≤ (I2 1000 31).toInt ∧ (I2 1000 31).toInt ≤ 60 ∧ (I2 1000 29).toInt + 1 ≤ (I 1000 29).toInt + 2 * ((I2 1000 31).toInt - (I 1000 31).toInt)) ∧ CT I I2 0 1)) (BM D A) A) 0 0 A := by
  refine m_ofW (by decide) (Nat.le_of_ble_eq_true rfl) ?_
  intro p e s m below meth c ls args hC hE hM hA hS hl
  obtain ⟨hx, hb, hml, hown, hts, hr, hlocks, hin⟩ := hC
  have k0 : (0 : Int32).toInt = 0 := by decide
  have k1 : (1 : Int32).toInt = 1 := by decide
  have k13 : (13 : Int32).toInt = 13 := by decide
  have k14 : (14 : Int32).toInt = 14 := by decide
  have k42 : (42 : Int32).toInt = 42 := by decide
  have k47 : (47 : Int32).toInt = 47 := by decide
  have hC := CT.rf I 0
  have hI0 := hI
  have hK : Kp [(1035, 1037)] [(1000, 25), (1000, 26), (1000, 29), (1000, 31)] I I := Kp.rf
  have hl : lv_has ls 2 [(0, .ref (ad (1000)))] := hl
  refine lv_aload_n hx hb dX10_term_0 rfl (lv_at hl 0 rfl) ?_
  refine m_callv (m_runV (1000) (As := []) (rest := []) hx hb hml hown hts hE hM hS hA ce_X10_value tb_1543 (V_X10_value l D A ad ns I L G hJ hI (by omega)) rfl rfl ⟨Nat.le_of_ble_eq_true rfl, Nat.le_of_ble_eq_true rfl⟩ hJ.1 rfl rfl (by decide) rfl hl.1 rfl (Nat.le_of_ble_eq_true rfl) dX10_term_1 ⟨Nat.le_of_ble_eq_true rfl, Nat.le_of_ble_eq_true rfl⟩) hS (fun u H locs hw hM hS => ?_)
  obtain ⟨I1, L2, rfl, hI, hkI1, xI1⟩ := hw
  have hM : Mem D A ad ns I1 L2 G H := hM
  have hK := hK.trans hkI1 rfl
  have pw3 : (I1 (1000) 24).toInt = (I (1000) 24 : Int32).toInt := congrArg Int32.toInt ((hkI1.get (1000) 24 rfl))
  have pw4 : (I1 (1000) 27).toInt = (I (1000) 27 : Int32).toInt := congrArg Int32.toInt ((hkI1.get (1000) 27 rfl))
  have pw5 : (I1 (1000) 32).toInt = (I (1000) 32 : Int32).toInt := congrArg Int32.toInt ((hkI1.get (1000) 32 rfl))
  have g6 := hI0.get 1000 27 (lo := 0) (hi := 5) rfl
  have g7 := hI0.get 1000 29 (lo := 0) (hi := 300) rfl
  have hC := hC.comp ((xI1.2.2.2.2.2).mono0 (0)) (by omega) (by omega) (by omega) (by omega) (by omega)
  refine lv_aload_n hx hb dX10_term_4 rfl (lv_at hl 0 rfl) ?_
  refine m_callv (m_runV (1000) (As := []) (rest := []) hx hb hml hown hts hE hM hS hA ce_X10_blanks tb_1506 (V_X10_blanks l D A ad ns I1 L2 G hJ hI) rfl rfl ⟨Nat.le_of_ble_eq_true rfl, Nat.le_of_ble_eq_true rfl⟩ hJ.1 rfl rfl (by decide) rfl hl.1 rfl (Nat.le_of_ble_eq_true rfl) dX10_term_5 ⟨Nat.le_of_ble_eq_true rfl, Nat.le_of_ble_eq_true rfl⟩) hS (fun u H locs hw hM hS => ?_)
  obtain ⟨I8, L9, rfl, hI, hkI8, xI8⟩ := hw
  have hM : Mem D A ad ns I8 L9 G H := hM
  have hK := hK.trans hkI8 rfl
  have pw10 : (I8 (1000) 24).toInt = (I (1000) 24 : Int32).toInt := congrArg Int32.toInt (((hkI8.get (1000) 24 rfl)).trans (hkI1.get (1000) 24 rfl))
  have pw11 : (I8 (1000) 26).toInt = (I1 (1000) 26 : Int32).toInt := congrArg Int32.toInt ((hkI8.get (1000) 26 rfl))
  have pw12 : (I8 (1000) 27).toInt = (I (1000) 27 : Int32).toInt := congrArg Int32.toInt (((hkI8.get (1000) 27 rfl)).trans (hkI1.get (1000) 27 rfl))
  have pw13 : (I8 (1000) 29).toInt = (I1 (1000) 29 : Int32).toInt := congrArg Int32.toInt ((hkI8.get (1000) 29 rfl))
  have pw14 : (I8 (1000) 31).toInt = (I1 (1000) 31 : Int32).toInt := congrArg Int32.toInt ((hkI8.get (1000) 31 rfl))
  have pw15 : (I8 (1000) 32).toInt = (I (1000) 32 : Int32).toInt := congrArg Int32.toInt (((hkI8.get (1000) 32 rfl)).trans (hkI1.get (1000) 32 rfl))
  have hC := CT.link (I2 := I8) hC ((hkI8.getA 1035 rfl)) ((hkI8.getA 1036 rfl)) (by omega) (by omega)
  have loop8 : ∀ (n : Nat)  (Ia8 : MI) (La8 : ML) (H : Heap) (locs : List Loc) (ls : Array Slot), INV Ia8 → Kp [(1035, 1037)] [(1000, 25), (1000, 26), (1000, 29), (1000, 31)] I Ia8 → ((I 1000 25).toInt ≤ (Ia8 1000 25).toInt ∧ ((Ia8 1000 25).toInt = (I 1000 25).toInt ∨ (Ia8 1000 25).toInt ≤ 400) ∧ ((Ia8 1000 26).toInt = 0 → (I 1000 26).toInt = 0) ∧ (I 1000 29).toInt ≤ (Ia8 1000 29).toInt ∧ ((Ia8 1000 26).toInt = 0 → (I 1000 31).toInt + 1 ≤ (Ia8 1000 31).toInt ∧ (Ia8 1000 31).toInt ≤ 60 ∧ (Ia8 1000 29).toInt + 1 ≤ (I 1000 29).toInt + 2 * ((Ia8 1000 31).toInt - (I 1000 31).toInt))) → (CT I Ia8 0 1) → (400 - (Ia8 1000 25).toInt).toNat < n → Mem D A ad ns Ia8 La8 G H → va_S A s.heap H locs → lv_has ls 2 [(0, .ref (ad (1000)))] → W p l e ({ frames := 6, cells := 0, slots := 0, locals := 131 } : Room) s m args below meth c H locs 0 0 (MQ below (va_Qv (fun u => ∃ I2 L2, u = (ad, ns, I2, L2, G) ∧ INV I2 ∧ Kp [(1035, 1037)] [(1000, 25), (1000, 26), (1000, 29), (1000, 31)] I I2 ∧ ((I 1000 25).toInt ≤ (I2 1000 25).toInt ∧ ((I2 1000 25).toInt = (I 1000 25).toInt ∨ (I2 1000 25).toInt ≤ 400) ∧ ((I2 1000 26).toInt = 0 → (I 1000 26).toInt = 0) ∧ (I 1000 29).toInt ≤ (I2 1000 29).toInt ∧ ((I2 1000 26).toInt = 0 → (I 1000 31).toInt + 1 ≤ (I2 1000 31).toInt ∧ (I2 1000 31).toInt ≤ 60 ∧ (I2 1000 29).toInt + 1 ≤ (I 1000 29).toInt + 2 * ((I2 1000 31).toInt - (I 1000 31).toInt)) ∧ CT I I2 0 1)) (BM D A) A) args s 0 0 A) (F0 m 8 ls []) := by
    intro n
    induction n with
    | zero =>
      intro  Ia8 La8 H locs ls hI hK hlin hC hmu
      exact absurd hmu (Nat.not_lt_zero _)
    | succ n ih8 =>
      intro  Ia8 La8 H locs ls hI hK hlin hC hmu8 hM hS hl
      have pk27 := congrArg Int32.toInt (hK.get 1000 27 rfl)
      have pk24 := congrArg Int32.toInt (hK.get 1000 24 rfl)
      have gx27 := hI0.get 1000 27 (lo := 0) (hi := 5) rfl
      have gx29 := hI0.get 1000 29 (lo := 0) (hi := 300) rfl
      refine lv_aload_n hx hb dX10_term_8 rfl (lv_at hl 0 rfl) ?_
      refine m_geti (1000) 26 hx hb hts hown hE oc10 hM hJ.1 rfl (by decide) rfl tb_1203 dX10_term_9 ?_
      refine lv_if_ne (tgt := 77) hx hb dX10_term_12 (by decide) (fun c16 => ?_) (fun c16 => ?_)
      · have hc16 := c16
        have q16 := q_ne hc16
        exact m_vret hx hb hr hlocks hM hS (Nat.le_of_ble_eq_true rfl) (Nat.le_of_ble_eq_true rfl) ⟨_, _, rfl, hI, hK, ⟨by omega, by omega, by omega, by omega, by omega, hC⟩⟩ dX10_term_77
      · have hc16 := c16
        have q16 := q_eq hc16
        refine lv_aload_n hx hb dX10_term_15 rfl (lv_at hl 0 rfl) ?_
        refine m_calli (m_runV (1000) (As := []) (rest := []) hx hb hml hown hts hE hM hS hA ce_X10_sign tb_1510 (V_X10_sign l D A ad ns Ia8 La8 G hJ hI) rfl rfl ⟨Nat.le_of_ble_eq_true rfl, Nat.le_of_ble_eq_true rfl⟩ hJ.1 rfl rfl (by decide) rfl hl.1 rfl (Nat.le_of_ble_eq_true rfl) dX10_term_16 ⟨Nat.le_of_ble_eq_true rfl, Nat.le_of_ble_eq_true rfl⟩) hS (fun r17 u H locs hw hM hS => ?_)
        obtain ⟨rfl, xr17⟩ := hw
        have hM : Mem D A ad ns Ia8 La8 G H := hM
        have g18 := hI.get 1000 24 (lo := 0) (hi := 400) rfl
        have g19 := hI.get 1000 25 (lo := 0) (hi := 100000) rfl
        refine lv_bipush (v := (42)) hx hb dX10_term_19 (by decide) ?_
        refine lv_icmp_eq (tgt := 33) hx hb dX10_term_21 (by decide) (fun c20 => ?_) (fun c20 => ?_)
        · have hc20 := c20
          have q20 := q_eq hc20
          refine lv_aload_n hx hb dX10_term_33 rfl (lv_at hl 0 rfl) ?_
          refine m_calli (m_runV (1000) (As := []) (rest := []) hx hb hml hown hts hE hM hS hA ce_X10_sign tb_1510 (V_X10_sign l D A ad ns Ia8 La8 G hJ hI) rfl rfl ⟨Nat.le_of_ble_eq_true rfl, Nat.le_of_ble_eq_true rfl⟩ hJ.1 rfl rfl (by decide) rfl hl.1 rfl (Nat.le_of_ble_eq_true rfl) dX10_term_34 ⟨Nat.le_of_ble_eq_true rfl, Nat.le_of_ble_eq_true rfl⟩) hS (fun r21 u H locs hw hM hS => ?_)
          obtain ⟨rfl, xr21⟩ := hw
          have hM : Mem D A ad ns Ia8 La8 G H := hM
          have g22 := hI.get 1000 24 (lo := 0) (hi := 400) rfl
          have g23 := hI.get 1000 25 (lo := 0) (hi := 100000) rfl
          refine lv_bipush (v := (42)) hx hb dX10_term_37 (by decide) ?_
          refine lv_icmp_ne (tgt := 47) hx hb dX10_term_39 (by decide) (fun c24 => ?_) (fun c24 => ?_)
          · have hc24 := c24
            have q24 := q_ne hc24
            refine lv_bipush (v := (14)) hx hb dX10_term_47 (by decide) ?_
            refine lv_istore_n (lv' := [(1, .int (14)), (0, .ref (ad (1000)))]) hx hb dX10_term_49 rfl hl (by decide) rfl (fun ls hl => ?_)
            refine lv_aload_n hx hb dX10_term_50 rfl (lv_at hl 1 rfl) ?_
            refine lv_dup hx hb dX10_term_51 rfl ?_
            refine m_geti (1000) 25 hx hb hts hown hE oc10 hM hJ.1 rfl (by decide) rfl tb_1202 dX10_term_52 ?_
            have g25 := hI.get (1000) 25 (lo := 0) (hi := 100000) rfl
            refine lv_iconst (v := (1)) hx hb dX10_term_55 (by decide) ?_
            refine lv_iadd hx hb dX10_term_56 ?_
            refine lv_topi (fun v26 ev26 => ?_)
            have tv26 := a_add ev26 (by omega) (by omega)
            refine m_puti (1000) 25 hx hb hts hown hE oc10 hM hS hJ.1 rfl (by decide) rfl rfl rfl rfl tb_1202 dX10_term_57 (fun H locs I27 eI27 hM hS => ?_)
            subst eI27
            have hI := hI.put (n := 1000) (k := 25) (v := v26) (lo := 0) (hi := 100000) rfl (by first | omega | decide)
            have hK := hK.put (n := 1000) (k := 25) (v := v26) (by first | rfl | simp [inR])
            refine lv_aload_n hx hb dX10_term_60 rfl (lv_at hl 1 rfl) ?_
            have pw28 : ((u2 Ia8 (1000) 25 (v26)) (1000) 24).toInt = (Ia8 (1000) 24 : Int32).toInt := congrArg Int32.toInt ((show (u2 Ia8 (1000) 25 (v26)) (1000) 24 = Ia8 (1000) 24 from by simp [u2_v]))
            have pw29 : ((u2 Ia8 (1000) 25 (v26)) (1000) 25).toInt = (v26 : Int32).toInt := congrArg Int32.toInt ((show (u2 Ia8 (1000) 25 (v26)) (1000) 25 = v26 from by simp [u2_v]))
            have pw30 : ((u2 Ia8 (1000) 25 (v26)) (1000) 26).toInt = (Ia8 (1000) 26 : Int32).toInt := congrArg Int32.toInt ((show (u2 Ia8 (1000) 25 (v26)) (1000) 26 = Ia8 (1000) 26 from by simp [u2_v]))
            have pw31 : ((u2 Ia8 (1000) 25 (v26)) (1000) 27).toInt = (Ia8 (1000) 27 : Int32).toInt := congrArg Int32.toInt ((show (u2 Ia8 (1000) 25 (v26)) (1000) 27 = Ia8 (1000) 27 from by simp [u2_v]))
            have pw32 : ((u2 Ia8 (1000) 25 (v26)) (1000) 29).toInt = (Ia8 (1000) 29 : Int32).toInt := congrArg Int32.toInt ((show (u2 Ia8 (1000) 25 (v26)) (1000) 29 = Ia8 (1000) 29 from by simp [u2_v]))
            have pw33 : ((u2 Ia8 (1000) 25 (v26)) (1000) 31).toInt = (Ia8 (1000) 31 : Int32).toInt := congrArg Int32.toInt ((show (u2 Ia8 (1000) 25 (v26)) (1000) 31 = Ia8 (1000) 31 from by simp [u2_v]))
            have pw34 : ((u2 Ia8 (1000) 25 (v26)) (1000) 32).toInt = (Ia8 (1000) 32 : Int32).toInt := congrArg Int32.toInt ((show (u2 Ia8 (1000) 25 (v26)) (1000) 32 = Ia8 (1000) 32 from by simp [u2_v]))
            refine m_callv (m_runV (1000) (As := []) (rest := []) hx hb hml hown hts hE hM hS hA ce_X10_value tb_1543 (V_X10_value l D A ad ns (u2 Ia8 (1000) 25 (v26)) La8 G hJ hI (by omega)) rfl rfl ⟨Nat.le_of_ble_eq_true rfl, Nat.le_of_ble_eq_true rfl⟩ hJ.1 rfl rfl (by decide) rfl hl.1 rfl (Nat.le_of_ble_eq_true rfl) dX10_term_61 ⟨Nat.le_of_ble_eq_true rfl, Nat.le_of_ble_eq_true rfl⟩) hS (fun u H locs hw hM hS => ?_)
            obtain ⟨I35, L36, rfl, hI, hkI35, xI35⟩ := hw
            have hM : Mem D A ad ns I35 L36 G H := hM
            have hK := hK.trans hkI35 rfl
            have hC := CT.link (I2 := (u2 Ia8 (1000) 25 (v26))) hC ((show (u2 Ia8 (1000) 25 (v26)) 1035 = Ia8 1035 from by funext zz; simp [u2_v])) ((show (u2 Ia8 (1000) 25 (v26)) 1036 = Ia8 1036 from by funext zz; simp [u2_v])) (by omega) (by omega)
            have pw37 : (I35 (1000) 24).toInt = (Ia8 (1000) 24 : Int32).toInt := congrArg Int32.toInt (((hkI35.get (1000) 24 rfl)).trans (show (u2 Ia8 (1000) 25 (v26)) (1000) 24 = Ia8 (1000) 24 from by simp [u2_v]))
            have pw38 : (I35 (1000) 27).toInt = (Ia8 (1000) 27 : Int32).toInt := congrArg Int32.toInt (((hkI35.get (1000) 27 rfl)).trans (show (u2 Ia8 (1000) 25 (v26)) (1000) 27 = Ia8 (1000) 27 from by simp [u2_v]))
            have pw39 : (I35 (1000) 32).toInt = (Ia8 (1000) 32 : Int32).toInt := congrArg Int32.toInt (((hkI35.get (1000) 32 rfl)).trans (show (u2 Ia8 (1000) 25 (v26)) (1000) 32 = Ia8 (1000) 32 from by simp [u2_v]))
            have g40 := hI0.get 1000 27 (lo := 0) (hi := 5) rfl
            have g41 := hI0.get 1000 29 (lo := 0) (hi := 300) rfl
            have hC := hC.comp ((xI35.2.2.2.2.2).mono0 (1)) (by omega) (by omega) (by omega) (by omega) (by omega)
            refine lv_aload_n hx hb dX10_term_64 rfl (lv_at hl 1 rfl) ?_
            refine lv_iload_n hx hb dX10_term_65 rfl (lv_at hl 0 rfl) ?_
            refine lv_iconst (v := (0)) hx hb dX10_term_66 (by decide) ?_
            refine m_callv (m_runV (1000) (As := [.int (14), .int (0)]) (rest := []) hx hb hml hown hts hE hM hS hA ce_X10_entry tb_1552 (V_X10_entry l D A ad ns I35 L36 G (14) (0) hJ hI (by omega)) rfl rfl ⟨Nat.le_of_ble_eq_true rfl, Nat.le_of_ble_eq_true rfl⟩ hJ.1 rfl rfl (by decide) rfl hl.1 rfl (Nat.le_of_ble_eq_true rfl) dX10_term_67 ⟨Nat.le_of_ble_eq_true rfl, Nat.le_of_ble_eq_true rfl⟩) hS (fun u H locs hw hM hS => ?_)
            obtain ⟨I42, L43, rfl, hI, hkI42, xI42⟩ := hw
            have hM : Mem D A ad ns I42 L43 G H := hM
            have hK := hK.trans hkI42 rfl
            have pw44 : (I42 (1000) 24).toInt = (Ia8 (1000) 24 : Int32).toInt := congrArg Int32.toInt ((((hkI42.get (1000) 24 rfl)).trans (hkI35.get (1000) 24 rfl)).trans (show (u2 Ia8 (1000) 25 (v26)) (1000) 24 = Ia8 (1000) 24 from by simp [u2_v]))
            have pw45 : (I42 (1000) 25).toInt = (I35 (1000) 25 : Int32).toInt := congrArg Int32.toInt ((hkI42.get (1000) 25 rfl))
            have pw46 : (I42 (1000) 26).toInt = (I35 (1000) 26 : Int32).toInt := congrArg Int32.toInt ((hkI42.get (1000) 26 rfl))
            have pw47 : (I42 (1000) 27).toInt = (Ia8 (1000) 27 : Int32).toInt := congrArg Int32.toInt ((((hkI42.get (1000) 27 rfl)).trans (hkI35.get (1000) 27 rfl)).trans (show (u2 Ia8 (1000) 25 (v26)) (1000) 27 = Ia8 (1000) 27 from by simp [u2_v]))
            have pw48 : (I42 (1000) 31).toInt = (I35 (1000) 31 : Int32).toInt := congrArg Int32.toInt ((hkI42.get (1000) 31 rfl))
            have pw49 : (I42 (1000) 32).toInt = (Ia8 (1000) 32 : Int32).toInt := congrArg Int32.toInt ((((hkI42.get (1000) 32 rfl)).trans (hkI35.get (1000) 32 rfl)).trans (show (u2 Ia8 (1000) 25 (v26)) (1000) 32 = Ia8 (1000) 32 from by simp [u2_v]))
            have g50 := hI0.get 1000 27 (lo := 0) (hi := 5) rfl
            have g51 := hI0.get 1000 29 (lo := 0) (hi := 300) rfl
            have hC := hC.comp (n2 := 1) (xI42.2.2.ct (by omega) (by omega) (by omega) (by omega)) (by omega) (by omega) (by omega) (by omega) (by omega)
            refine lv_aload_n hx hb dX10_term_70 rfl (lv_at hl 1 rfl) ?_
            refine m_callv (m_runV (1000) (As := []) (rest := []) hx hb hml hown hts hE hM hS hA ce_X10_blanks tb_1506 (V_X10_blanks l D A ad ns I42 L43 G hJ hI) rfl rfl ⟨Nat.le_of_ble_eq_true rfl, Nat.le_of_ble_eq_true rfl⟩ hJ.1 rfl rfl (by decide) rfl hl.1 rfl (Nat.le_of_ble_eq_true rfl) dX10_term_71 ⟨Nat.le_of_ble_eq_true rfl, Nat.le_of_ble_eq_true rfl⟩) hS (fun u H locs hw hM hS => ?_)
            obtain ⟨I52, L53, rfl, hI, hkI52, xI52⟩ := hw
            have hM : Mem D A ad ns I52 L53 G H := hM
            have hK := hK.trans hkI52 rfl
            have pw54 : (I52 (1000) 24).toInt = (Ia8 (1000) 24 : Int32).toInt := congrArg Int32.toInt (((((hkI52.get (1000) 24 rfl)).trans (hkI42.get (1000) 24 rfl)).trans (hkI35.get (1000) 24 rfl)).trans (show (u2 Ia8 (1000) 25 (v26)) (1000) 24 = Ia8 (1000) 24 from by simp [u2_v]))
            have pw55 : (I52 (1000) 26).toInt = (I35 (1000) 26 : Int32).toInt := congrArg Int32.toInt (((hkI52.get (1000) 26 rfl)).trans (hkI42.get (1000) 26 rfl))
            have pw56 : (I52 (1000) 27).toInt = (Ia8 (1000) 27 : Int32).toInt := congrArg Int32.toInt (((((hkI52.get (1000) 27 rfl)).trans (hkI42.get (1000) 27 rfl)).trans (hkI35.get (1000) 27 rfl)).trans (show (u2 Ia8 (1000) 25 (v26)) (1000) 27 = Ia8 (1000) 27 from by simp [u2_v]))
            have pw57 : (I52 (1000) 29).toInt = (I42 (1000) 29 : Int32).toInt := congrArg Int32.toInt ((hkI52.get (1000) 29 rfl))
            have pw58 : (I52 (1000) 31).toInt = (I35 (1000) 31 : Int32).toInt := congrArg Int32.toInt (((hkI52.get (1000) 31 rfl)).trans (hkI42.get (1000) 31 rfl))
            have pw59 : (I52 (1000) 32).toInt = (Ia8 (1000) 32 : Int32).toInt := congrArg Int32.toInt (((((hkI52.get (1000) 32 rfl)).trans (hkI42.get (1000) 32 rfl)).trans (hkI35.get (1000) 32 rfl)).trans (show (u2 Ia8 (1000) 25 (v26)) (1000) 32 = Ia8 (1000) 32 from by simp [u2_v]))
            refine lv_goto (tgt := 8) hx hb dX10_term_74 (by decide) ?_
            have hC := CT.link (I2 := I52) hC ((hkI52.getA 1035 rfl)) ((hkI52.getA 1036 rfl)) (by omega) (by omega)
            exact ih8  I52 L53 _ _ ls hI hK (by omega) (by simpa using hC) (by omega) hM hS (lv_sub hl [1] rfl)
          · have hc24 := c24
            have q24 := q_eq hc24
            refine lv_bipush (v := (13)) hx hb dX10_term_42 (by decide) ?_
            refine lv_goto (tgt := 49) hx hb dX10_term_44 (by decide) ?_
            refine lv_istore_n (lv' := [(1, .int (13)), (0, .ref (ad (1000)))]) hx hb dX10_term_49 rfl hl (by decide) rfl (fun ls hl => ?_)
            refine lv_aload_n hx hb dX10_term_50 rfl (lv_at hl 1 rfl) ?_
            refine lv_dup hx hb dX10_term_51 rfl ?_
            refine m_geti (1000) 25 hx hb hts hown hE oc10 hM hJ.1 rfl (by decide) rfl tb_1202 dX10_term_52 ?_
            have g60 := hI.get (1000) 25 (lo := 0) (hi := 100000) rfl
            refine lv_iconst (v := (1)) hx hb dX10_term_55 (by decide) ?_
            refine lv_iadd hx hb dX10_term_56 ?_
            refine lv_topi (fun v61 ev61 => ?_)
            have tv61 := a_add ev61 (by omega) (by omega)
            refine m_puti (1000) 25 hx hb hts hown hE oc10 hM hS hJ.1 rfl (by decide) rfl rfl rfl rfl tb_1202 dX10_term_57 (fun H locs I62 eI62 hM hS => ?_)
            subst eI62
            have hI := hI.put (n := 1000) (k := 25) (v := v61) (lo := 0) (hi := 100000) rfl (by first | omega | decide)
            have hK := hK.put (n := 1000) (k := 25) (v := v61) (by first | rfl | simp [inR])
            refine lv_aload_n hx hb dX10_term_60 rfl (lv_at hl 1 rfl) ?_
            have pw63 : ((u2 Ia8 (1000) 25 (v61)) (1000) 24).toInt = (Ia8 (1000) 24 : Int32).toInt := congrArg Int32.toInt ((show (u2 Ia8 (1000) 25 (v61)) (1000) 24 = Ia8 (1000) 24 from by simp [u2_v]))
            have pw64 : ((u2 Ia8 (1000) 25 (v61)) (1000) 25).toInt = (v61 : Int32).toInt := congrArg Int32.toInt ((show (u2 Ia8 (1000) 25 (v61)) (1000) 25 = v61 from by simp [u2_v]))
            have pw65 : ((u2 Ia8 (1000) 25 (v61)) (1000) 26).toInt = (Ia8 (1000) 26 : Int32).toInt := congrArg Int32.toInt ((show (u2 Ia8 (1000) 25 (v61)) (1000) 26 = Ia8 (1000) 26 from by simp [u2_v]))
            have pw66 : ((u2 Ia8 (1000) 25 (v61)) (1000) 27).toInt = (Ia8 (1000) 27 : Int32).toInt := congrArg Int32.toInt ((show (u2 Ia8 (1000) 25 (v61)) (1000) 27 = Ia8 (1000) 27 from by simp [u2_v]))
            have pw67 : ((u2 Ia8 (1000) 25 (v61)) (1000) 29).toInt = (Ia8 (1000) 29 : Int32).toInt := congrArg Int32.toInt ((show (u2 Ia8 (1000) 25 (v61)) (1000) 29 = Ia8 (1000) 29 from by simp [u2_v]))
            have pw68 : ((u2 Ia8 (1000) 25 (v61)) (1000) 31).toInt = (Ia8 (1000) 31 : Int32).toInt := congrArg Int32.toInt ((show (u2 Ia8 (1000) 25 (v61)) (1000) 31 = Ia8 (1000) 31 from by simp [u2_v]))
            have pw69 : ((u2 Ia8 (1000) 25 (v61)) (1000) 32).toInt = (Ia8 (1000) 32 : Int32).toInt := congrArg Int32.toInt ((show (u2 Ia8 (1000) 25 (v61)) (1000) 32 = Ia8 (1000) 32 from by simp [u2_v]))
            refine m_callv (m_runV (1000) (As := []) (rest := []) hx hb hml hown hts hE hM hS hA ce_X10_value tb_1543 (V_X10_value l D A ad ns (u2 Ia8 (1000) 25 (v61)) La8 G hJ hI (by omega)) rfl rfl ⟨Nat.le_of_ble_eq_true rfl, Nat.le_of_ble_eq_true rfl⟩ hJ.1 rfl rfl (by decide) rfl hl.1 rfl (Nat.le_of_ble_eq_true rfl) dX10_term_61 ⟨Nat.le_of_ble_eq_true rfl, Nat.le_of_ble_eq_true rfl⟩) hS (fun u H locs hw hM hS => ?_)
            obtain ⟨I70, L71, rfl, hI, hkI70, xI70⟩ := hw
            have hM : Mem D A ad ns I70 L71 G H := hM
            have hK := hK.trans hkI70 rfl
            have hC := CT.link (I2 := (u2 Ia8 (1000) 25 (v61))) hC ((show (u2 Ia8 (1000) 25 (v61)) 1035 = Ia8 1035 from by funext zz; simp [u2_v])) ((show (u2 Ia8 (1000) 25 (v61)) 1036 = Ia8 1036 from by funext zz; simp [u2_v])) (by omega) (by omega)
            have pw72 : (I70 (1000) 24).toInt = (Ia8 (1000) 24 : Int32).toInt := congrArg Int32.toInt (((hkI70.get (1000) 24 rfl)).trans (show (u2 Ia8 (1000) 25 (v61)) (1000) 24 = Ia8 (1000) 24 from by simp [u2_v]))
            have pw73 : (I70 (1000) 27).toInt = (Ia8 (1000) 27 : Int32).toInt := congrArg Int32.toInt (((hkI70.get (1000) 27 rfl)).trans (show (u2 Ia8 (1000) 25 (v61)) (1000) 27 = Ia8 (1000) 27 from by simp [u2_v]))
            have pw74 : (I70 (1000) 32).toInt = (Ia8 (1000) 32 : Int32).toInt := congrArg Int32.toInt (((hkI70.get (1000) 32 rfl)).trans (show (u2 Ia8 (1000) 25 (v61)) (1000) 32 = Ia8 (1000) 32 from by simp [u2_v]))
            have g75 := hI0.get 1000 27 (lo := 0) (hi := 5) rfl
            have g76 := hI0.get 1000 29 (lo := 0) (hi := 300) rfl
            have hC := hC.comp ((xI70.2.2.2.2.2).mono0 (1)) (by omega) (by omega) (by omega) (by omega) (by omega)
            refine lv_aload_n hx hb dX10_term_64 rfl (lv_at hl 1 rfl) ?_
            refine lv_iload_n hx hb dX10_term_65 rfl (lv_at hl 0 rfl) ?_
            refine lv_iconst (v := (0)) hx hb dX10_term_66 (by decide) ?_
            refine m_callv (m_runV (1000) (As := [.int (13), .int (0)]) (rest := []) hx hb hml hown hts hE hM hS hA ce_X10_entry tb_1552 (V_X10_entry l D A ad ns I70 L71 G (13) (0) hJ hI (by omega)) rfl rfl ⟨Nat.le_of_ble_eq_true rfl, Nat.le_of_ble_eq_true rfl⟩ hJ.1 rfl rfl (by decide) rfl hl.1 rfl (Nat.le_of_ble_eq_true rfl) dX10_term_67 ⟨Nat.le_of_ble_eq_true rfl, Nat.le_of_ble_eq_true rfl⟩) hS (fun u H locs hw hM hS => ?_)
            obtain ⟨I77, L78, rfl, hI, hkI77, xI77⟩ := hw
            have hM : Mem D A ad ns I77 L78 G H := hM
            have hK := hK.trans hkI77 rfl
            have pw79 : (I77 (1000) 24).toInt = (Ia8 (1000) 24 : Int32).toInt := congrArg Int32.toInt ((((hkI77.get (1000) 24 rfl)).trans (hkI70.get (1000) 24 rfl)).trans (show (u2 Ia8 (1000) 25 (v61)) (1000) 24 = Ia8 (1000) 24 from by simp [u2_v]))
            have pw80 : (I77 (1000) 25).toInt = (I70 (1000) 25 : Int32).toInt := congrArg Int32.toInt ((hkI77.get (1000) 25 rfl))
            have pw81 : (I77 (1000) 26).toInt = (I70 (1000) 26 : Int32).toInt := congrArg Int32.toInt ((hkI77.get (1000) 26 rfl))
            have pw82 : (I77 (1000) 27).toInt = (Ia8 (1000) 27 : Int32).toInt := congrArg Int32.toInt ((((hkI77.get (1000) 27 rfl)).trans (hkI70.get (1000) 27 rfl)).trans (show (u2 Ia8 (1000) 25 (v61)) (1000) 27 = Ia8 (1000) 27 from by simp [u2_v]))
            have pw83 : (I77 (1000) 31).toInt = (I70 (1000) 31 : Int32).toInt := congrArg Int32.toInt ((hkI77.get (1000) 31 rfl))
            have pw84 : (I77 (1000) 32).toInt = (Ia8 (1000) 32 : Int32).toInt := congrArg Int32.toInt ((((hkI77.get (1000) 32 rfl)).trans (hkI70.get (1000) 32 rfl)).trans (show (u2 Ia8 (1000) 25 (v61)) (1000) 32 = Ia8 (1000) 32 from by simp [u2_v]))
            have g85 := hI0.get 1000 27 (lo := 0) (hi := 5) rfl
            have g86 := hI0.get 1000 29 (lo := 0) (hi := 300) rfl
            have hC := hC.comp (n2 := 1) (xI77.2.2.ct (by omega) (by omega) (by omega) (by omega)) (by omega) (by omega) (by omega) (by omega) (by omega)
            refine lv_aload_n hx hb dX10_term_70 rfl (lv_at hl 1 rfl) ?_
            refine m_callv (m_runV (1000) (As := []) (rest := []) hx hb hml hown hts hE hM hS hA ce_X10_blanks tb_1506 (V_X10_blanks l D A ad ns I77 L78 G hJ hI) rfl rfl ⟨Nat.le_of_ble_eq_true rfl, Nat.le_of_ble_eq_true rfl⟩ hJ.1 rfl rfl (by decide) rfl hl.1 rfl (Nat.le_of_ble_eq_true rfl) dX10_term_71 ⟨Nat.le_of_ble_eq_true rfl, Nat.le_of_ble_eq_true rfl⟩) hS (fun u H locs hw hM hS => ?_)
            obtain ⟨I87, L88, rfl, hI, hkI87, xI87⟩ := hw
            have hM : Mem D A ad ns I87 L88 G H := hM
            have hK := hK.trans hkI87 rfl
            have pw89 : (I87 (1000) 24).toInt = (Ia8 (1000) 24 : Int32).toInt := congrArg Int32.toInt (((((hkI87.get (1000) 24 rfl)).trans (hkI77.get (1000) 24 rfl)).trans (hkI70.get (1000) 24 rfl)).trans (show (u2 Ia8 (1000) 25 (v61)) (1000) 24 = Ia8 (1000) 24 from by simp [u2_v]))
            have pw90 : (I87 (1000) 26).toInt = (I70 (1000) 26 : Int32).toInt := congrArg Int32.toInt (((hkI87.get (1000) 26 rfl)).trans (hkI77.get (1000) 26 rfl))
            have pw91 : (I87 (1000) 27).toInt = (Ia8 (1000) 27 : Int32).toInt := congrArg Int32.toInt (((((hkI87.get (1000) 27 rfl)).trans (hkI77.get (1000) 27 rfl)).trans (hkI70.get (1000) 27 rfl)).trans (show (u2 Ia8 (1000) 25 (v61)) (1000) 27 = Ia8 (1000) 27 from by simp [u2_v]))
            have pw92 : (I87 (1000) 29).toInt = (I77 (1000) 29 : Int32).toInt := congrArg Int32.toInt ((hkI87.get (1000) 29 rfl))
            have pw93 : (I87 (1000) 31).toInt = (I70 (1000) 31 : Int32).toInt := congrArg Int32.toInt (((hkI87.get (1000) 31 rfl)).trans (hkI77.get (1000) 31 rfl))
            have pw94 : (I87 (1000) 32).toInt = (Ia8 (1000) 32 : Int32).toInt := congrArg Int32.toInt (((((hkI87.get (1000) 32 rfl)).trans (hkI77.get (1000) 32 rfl)).trans (hkI70.get (1000) 32 rfl)).trans (show (u2 Ia8 (1000) 25 (v61)) (1000) 32 = Ia8 (1000) 32 from by simp [u2_v]))
            refine lv_goto (tgt := 8) hx hb dX10_term_74 (by decide) ?_
            have hC := CT.link (I2 := I87) hC ((hkI87.getA 1035 rfl)) ((hkI87.getA 1036 rfl)) (by omega) (by omega)
            exact ih8  I87 L88 _ _ ls hI hK (by omega) (by simpa using hC) (by omega) hM hS (lv_sub hl [1] rfl)
        · have hc20 := c20
          have q20 := q_ne hc20
          refine lv_aload_n hx hb dX10_term_24 rfl (lv_at hl 0 rfl) ?_
          refine m_calli (m_runV (1000) (As := []) (rest := []) hx hb hml hown hts hE hM hS hA ce_X10_sign tb_1510 (V_X10_sign l D A ad ns Ia8 La8 G hJ hI) rfl rfl ⟨Nat.le_of_ble_eq_true rfl, Nat.le_of_ble_eq_true rfl⟩ hJ.1 rfl rfl (by decide) rfl hl.1 rfl (Nat.le_of_ble_eq_true rfl) dX10_term_25 ⟨Nat.le_of_ble_eq_true rfl, Nat.le_of_ble_eq_true rfl⟩) hS (fun r95 u H locs hw hM hS => ?_)
          obtain ⟨rfl, xr95⟩ := hw
          have hM : Mem D A ad ns Ia8 La8 G H := hM
          have g96 := hI.get 1000 24 (lo := 0) (hi := 400) rfl
          have g97 := hI.get 1000 25 (lo := 0) (hi := 100000) rfl
          refine lv_bipush (v := (47)) hx hb dX10_term_28 (by decide) ?_
          refine lv_icmp_ne (tgt := 77) hx hb dX10_term_30 (by decide) (fun c98 => ?_) (fun c98 => ?_)
          · have hc98 := c98
            have q98 := q_ne hc98
            exact m_vret hx hb hr hlocks hM hS (Nat.le_of_ble_eq_true rfl) (Nat.le_of_ble_eq_true rfl) ⟨_, _, rfl, hI, hK, ⟨by omega, by omega, by omega, by omega, by omega, hC⟩⟩ dX10_term_77
          · have hc98 := c98
            have q98 := q_eq hc98
            refine lv_aload_n hx hb dX10_term_33 rfl (lv_at hl 0 rfl) ?_
            refine m_calli (m_runV (1000) (As := []) (rest := []) hx hb hml hown hts hE hM hS hA ce_X10_sign tb_1510 (V_X10_sign l D A ad ns Ia8 La8 G hJ hI) rfl rfl ⟨Nat.le_of_ble_eq_true rfl, Nat.le_of_ble_eq_true rfl⟩ hJ.1 rfl rfl (by decide) rfl hl.1 rfl (Nat.le_of_ble_eq_true rfl) dX10_term_34 ⟨Nat.le_of_ble_eq_true rfl, Nat.le_of_ble_eq_true rfl⟩) hS (fun r99 u H locs hw hM hS => ?_)
            obtain ⟨rfl, xr99⟩ := hw
            have hM : Mem D A ad ns Ia8 La8 G H := hM
            have g100 := hI.get 1000 24 (lo := 0) (hi := 400) rfl
            have g101 := hI.get 1000 25 (lo := 0) (hi := 100000) rfl
            refine lv_bipush (v := (42)) hx hb dX10_term_37 (by decide) ?_
            refine lv_icmp_ne (tgt := 47) hx hb dX10_term_39 (by decide) (fun c102 => ?_) (fun c102 => ?_)
            · have hc102 := c102
              have q102 := q_ne hc102
              refine lv_bipush (v := (14)) hx hb dX10_term_47 (by decide) ?_
              refine lv_istore_n (lv' := [(1, .int (14)), (0, .ref (ad (1000)))]) hx hb dX10_term_49 rfl hl (by decide) rfl (fun ls hl => ?_)
              refine lv_aload_n hx hb dX10_term_50 rfl (lv_at hl 1 rfl) ?_
              refine lv_dup hx hb dX10_term_51 rfl ?_
              refine m_geti (1000) 25 hx hb hts hown hE oc10 hM hJ.1 rfl (by decide) rfl tb_1202 dX10_term_52 ?_
              have g103 := hI.get (1000) 25 (lo := 0) (hi := 100000) rfl
              refine lv_iconst (v := (1)) hx hb dX10_term_55 (by decide) ?_
              refine lv_iadd hx hb dX10_term_56 ?_
              refine lv_topi (fun v104 ev104 => ?_)
              have tv104 := a_add ev104 (by omega) (by omega)
              refine m_puti (1000) 25 hx hb hts hown hE oc10 hM hS hJ.1 rfl (by decide) rfl rfl rfl rfl tb_1202 dX10_term_57 (fun H locs I105 eI105 hM hS => ?_)
              subst eI105
              have hI := hI.put (n := 1000) (k := 25) (v := v104) (lo := 0) (hi := 100000) rfl (by first | omega | decide)
              have hK := hK.put (n := 1000) (k := 25) (v := v104) (by first | rfl | simp [inR])
              refine lv_aload_n hx hb dX10_term_60 rfl (lv_at hl 1 rfl) ?_
              have pw106 : ((u2 Ia8 (1000) 25 (v104)) (1000) 24).toInt = (Ia8 (1000) 24 : Int32).toInt := congrArg Int32.toInt ((show (u2 Ia8 (1000) 25 (v104)) (1000) 24 = Ia8 (1000) 24 from by simp [u2_v]))
              have pw107 : ((u2 Ia8 (1000) 25 (v104)) (1000) 25).toInt = (v104 : Int32).toInt := congrArg Int32.toInt ((show (u2 Ia8 (1000) 25 (v104)) (1000) 25 = v104 from by simp [u2_v]))
              have pw108 : ((u2 Ia8 (1000) 25 (v104)) (1000) 26).toInt = (Ia8 (1000) 26 : Int32).toInt := congrArg Int32.toInt ((show (u2 Ia8 (1000) 25 (v104)) (1000) 26 = Ia8 (1000) 26 from by simp [u2_v]))
              have pw109 : ((u2 Ia8 (1000) 25 (v104)) (1000) 27).toInt = (Ia8 (1000) 27 : Int32).toInt := congrArg Int32.toInt ((show (u2 Ia8 (1000) 25 (v104)) (1000) 27 = Ia8 (1000) 27 from by simp [u2_v]))
              have pw110 : ((u2 Ia8 (1000) 25 (v104)) (1000) 29).toInt = (Ia8 (1000) 29 : Int32).toInt := congrArg Int32.toInt ((show (u2 Ia8 (1000) 25 (v104)) (1000) 29 = Ia8 (1000) 29 from by simp [u2_v]))
              have pw111 : ((u2 Ia8 (1000) 25 (v104)) (1000) 31).toInt = (Ia8 (1000) 31 : Int32).toInt := congrArg Int32.toInt ((show (u2 Ia8 (1000) 25 (v104)) (1000) 31 = Ia8 (1000) 31 from by simp [u2_v]))
              have pw112 : ((u2 Ia8 (1000) 25 (v104)) (1000) 32).toInt = (Ia8 (1000) 32 : Int32).toInt := congrArg Int32.toInt ((show (u2 Ia8 (1000) 25 (v104)) (1000) 32 = Ia8 (1000) 32 from by simp [u2_v]))
              refine m_callv (m_runV (1000) (As := []) (rest := []) hx hb hml hown hts hE hM hS hA ce_X10_value tb_1543 (V_X10_value l D A ad ns (u2 Ia8 (1000) 25 (v104)) La8 G hJ hI (by omega)) rfl rfl ⟨Nat.le_of_ble_eq_true rfl, Nat.le_of_ble_eq_true rfl⟩ hJ.1 rfl rfl (by decide) rfl hl.1 rfl (Nat.le_of_ble_eq_true rfl) dX10_term_61 ⟨Nat.le_of_ble_eq_true rfl, Nat.le_of_ble_eq_true rfl⟩) hS (fun u H locs hw hM hS => ?_)
              obtain ⟨I113, L114, rfl, hI, hkI113, xI113⟩ := hw
              have hM : Mem D A ad ns I113 L114 G H := hM
              have hK := hK.trans hkI113 rfl
              have hC := CT.link (I2 := (u2 Ia8 (1000) 25 (v104))) hC ((show (u2 Ia8 (1000) 25 (v104)) 1035 = Ia8 1035 from by funext zz; simp [u2_v])) ((show (u2 Ia8 (1000) 25 (v104)) 1036 = Ia8 1036 from by funext zz; simp [u2_v])) (by omega) (by omega)
              have pw115 : (I113 (1000) 24).toInt = (Ia8 (1000) 24 : Int32).toInt := congrArg Int32.toInt (((hkI113.get (1000) 24 rfl)).trans (show (u2 Ia8 (1000) 25 (v104)) (1000) 24 = Ia8 (1000) 24 from by simp [u2_v]))
              have pw116 : (I113 (1000) 27).toInt = (Ia8 (1000) 27 : Int32).toInt := congrArg Int32.toInt (((hkI113.get (1000) 27 rfl)).trans (show (u2 Ia8 (1000) 25 (v104)) (1000) 27 = Ia8 (1000) 27 from by simp [u2_v]))
              have pw117 : (I113 (1000) 32).toInt = (Ia8 (1000) 32 : Int32).toInt := congrArg Int32.toInt (((hkI113.get (1000) 32 rfl)).trans (show (u2 Ia8 (1000) 25 (v104)) (1000) 32 = Ia8 (1000) 32 from by simp [u2_v]))
              have g118 := hI0.get 1000 27 (lo := 0) (hi := 5) rfl
              have g119 := hI0.get 1000 29 (lo := 0) (hi := 300) rfl
              have hC := hC.comp ((xI113.2.2.2.2.2).mono0 (1)) (by omega) (by omega) (by omega) (by omega) (by omega)
              refine lv_aload_n hx hb dX10_term_64 rfl (lv_at hl 1 rfl) ?_
              refine lv_iload_n hx hb dX10_term_65 rfl (lv_at hl 0 rfl) ?_
              refine lv_iconst (v := (0)) hx hb dX10_term_66 (by decide) ?_
              refine m_callv (m_runV (1000) (As := [.int (14), .int (0)]) (rest := []) hx hb hml hown hts hE hM hS hA ce_X10_entry tb_1552 (V_X10_entry l D A ad ns I113 L114 G (14) (0) hJ hI (by omega)) rfl rfl ⟨Nat.le_of_ble_eq_true rfl, Nat.le_of_ble_eq_true rfl⟩ hJ.1 rfl rfl (by decide) rfl hl.1 rfl (Nat.le_of_ble_eq_true rfl) dX10_term_67 ⟨Nat.le_of_ble_eq_true rfl, Nat.le_of_ble_eq_true rfl⟩) hS (fun u H locs hw hM hS => ?_)
              obtain ⟨I120, L121, rfl, hI, hkI120, xI120⟩ := hw
              have hM : Mem D A ad ns I120 L121 G H := hM
              have hK := hK.trans hkI120 rfl
              have pw122 : (I120 (1000) 24).toInt = (Ia8 (1000) 24 : Int32).toInt := congrArg Int32.toInt ((((hkI120.get (1000) 24 rfl)).trans (hkI113.get (1000) 24 rfl)).trans (show (u2 Ia8 (1000) 25 (v104)) (1000) 24 = Ia8 (1000) 24 from by simp [u2_v]))
              have pw123 : (I120 (1000) 25).toInt = (I113 (1000) 25 : Int32).toInt := congrArg Int32.toInt ((hkI120.get (1000) 25 rfl))
              have pw124 : (I120 (1000) 26).toInt = (I113 (1000) 26 : Int32).toInt := congrArg Int32.toInt ((hkI120.get (1000) 26 rfl))
              have pw125 : (I120 (1000) 27).toInt = (Ia8 (1000) 27 : Int32).toInt := congrArg Int32.toInt ((((hkI120.get (1000) 27 rfl)).trans (hkI113.get (1000) 27 rfl)).trans (show (u2 Ia8 (1000) 25 (v104)) (1000) 27 = Ia8 (1000) 27 from by simp [u2_v]))
              have pw126 : (I120 (1000) 31).toInt = (I113 (1000) 31 : Int32).toInt := congrArg Int32.toInt ((hkI120.get (1000) 31 rfl))
              have pw127 : (I120 (1000) 32).toInt = (Ia8 (1000) 32 : Int32).toInt := congrArg Int32.toInt ((((hkI120.get (1000) 32 rfl)).trans (hkI113.get (1000) 32 rfl)).trans (show (u2 Ia8 (1000) 25 (v104)) (1000) 32 = Ia8 (1000) 32 from by simp [u2_v]))
              have g128 := hI0.get 1000 27 (lo := 0) (hi := 5) rfl
              have g129 := hI0.get 1000 29 (lo := 0) (hi := 300) rfl
              have hC := hC.comp (n2 := 1) (xI120.2.2.ct (by omega) (by omega) (by omega) (by omega)) (by omega) (by omega) (by omega) (by omega) (by omega)
              refine lv_aload_n hx hb dX10_term_70 rfl (lv_at hl 1 rfl) ?_
              refine m_callv (m_runV (1000) (As := []) (rest := []) hx hb hml hown hts hE hM hS hA ce_X10_blanks tb_1506 (V_X10_blanks l D A ad ns I120 L121 G hJ hI) rfl rfl ⟨Nat.le_of_ble_eq_true rfl, Nat.le_of_ble_eq_true rfl⟩ hJ.1 rfl rfl (by decide) rfl hl.1 rfl (Nat.le_of_ble_eq_true rfl) dX10_term_71 ⟨Nat.le_of_ble_eq_true rfl, Nat.le_of_ble_eq_true rfl⟩) hS (fun u H locs hw hM hS => ?_)
              obtain ⟨I130, L131, rfl, hI, hkI130, xI130⟩ := hw
              have hM : Mem D A ad ns I130 L131 G H := hM
              have hK := hK.trans hkI130 rfl
              have pw132 : (I130 (1000) 24).toInt = (Ia8 (1000) 24 : Int32).toInt := congrArg Int32.toInt (((((hkI130.get (1000) 24 rfl)).trans (hkI120.get (1000) 24 rfl)).trans (hkI113.get (1000) 24 rfl)).trans (show (u2 Ia8 (1000) 25 (v104)) (1000) 24 = Ia8 (1000) 24 from by simp [u2_v]))
              have pw133 : (I130 (1000) 26).toInt = (I113 (1000) 26 : Int32).toInt := congrArg Int32.toInt (((hkI130.get (1000) 26 rfl)).trans (hkI120.get (1000) 26 rfl))
              have pw134 : (I130 (1000) 27).toInt = (Ia8 (1000) 27 : Int32).toInt := congrArg Int32.toInt (((((hkI130.get (1000) 27 rfl)).trans (hkI120.get (1000) 27 rfl)).trans (hkI113.get (1000) 27 rfl)).trans (show (u2 Ia8 (1000) 25 (v104)) (1000) 27 = Ia8 (1000) 27 from by simp [u2_v]))
              have pw135 : (I130 (1000) 29).toInt = (I120 (1000) 29 : Int32).toInt := congrArg Int32.toInt ((hkI130.get (1000) 29 rfl))
              have pw136 : (I130 (1000) 31).toInt = (I113 (1000) 31 : Int32).toInt := congrArg Int32.toInt (((hkI130.get (1000) 31 rfl)).trans (hkI120.get (1000) 31 rfl))
              have pw137 : (I130 (1000) 32).toInt = (Ia8 (1000) 32 : Int32).toInt := congrArg Int32.toInt (((((hkI130.get (1000) 32 rfl)).trans (hkI120.get (1000) 32 rfl)).trans (hkI113.get (1000) 32 rfl)).trans (show (u2 Ia8 (1000) 25 (v104)) (1000) 32 = Ia8 (1000) 32 from by simp [u2_v]))
              refine lv_goto (tgt := 8) hx hb dX10_term_74 (by decide) ?_
              have hC := CT.link (I2 := I130) hC ((hkI130.getA 1035 rfl)) ((hkI130.getA 1036 rfl)) (by omega) (by omega)
              exact ih8  I130 L131 _ _ ls hI hK (by omega) (by simpa using hC) (by omega) hM hS (lv_sub hl [1] rfl)
            · have hc102 := c102
              have q102 := q_eq hc102
              refine lv_bipush (v := (13)) hx hb dX10_term_42 (by decide) ?_
              refine lv_goto (tgt := 49) hx hb dX10_term_44 (by decide) ?_
              refine lv_istore_n (lv' := [(1, .int (13)), (0, .ref (ad (1000)))]) hx hb dX10_term_49 rfl hl (by decide) rfl (fun ls hl => ?_)
              refine lv_aload_n hx hb dX10_term_50 rfl (lv_at hl 1 rfl) ?_
              refine lv_dup hx hb dX10_term_51 rfl ?_
              refine m_geti (1000) 25 hx hb hts hown hE oc10 hM hJ.1 rfl (by decide) rfl tb_1202 dX10_term_52 ?_
              have g138 := hI.get (1000) 25 (lo := 0) (hi := 100000) rfl
              refine lv_iconst (v := (1)) hx hb dX10_term_55 (by decide) ?_
              refine lv_iadd hx hb dX10_term_56 ?_
              refine lv_topi (fun v139 ev139 => ?_)
              have tv139 := a_add ev139 (by omega) (by omega)
              refine m_puti (1000) 25 hx hb hts hown hE oc10 hM hS hJ.1 rfl (by decide) rfl rfl rfl rfl tb_1202 dX10_term_57 (fun H locs I140 eI140 hM hS => ?_)
              subst eI140
              have hI := hI.put (n := 1000) (k := 25) (v := v139) (lo := 0) (hi := 100000) rfl (by first | omega | decide)
              have hK := hK.put (n := 1000) (k := 25) (v := v139) (by first | rfl | simp [inR])
              refine lv_aload_n hx hb dX10_term_60 rfl (lv_at hl 1 rfl) ?_
              have pw141 : ((u2 Ia8 (1000) 25 (v139)) (1000) 24).toInt = (Ia8 (1000) 24 : Int32).toInt := congrArg Int32.toInt ((show (u2 Ia8 (1000) 25 (v139)) (1000) 24 = Ia8 (1000) 24 from by simp [u2_v]))
              have pw142 : ((u2 Ia8 (1000) 25 (v139)) (1000) 25).toInt = (v139 : Int32).toInt := congrArg Int32.toInt ((show (u2 Ia8 (1000) 25 (v139)) (1000) 25 = v139 from by simp [u2_v]))
              have pw143 : ((u2 Ia8 (1000) 25 (v139)) (1000) 26).toInt = (Ia8 (1000) 26 : Int32).toInt := congrArg Int32.toInt ((show (u2 Ia8 (1000) 25 (v139)) (1000) 26 = Ia8 (1000) 26 from by simp [u2_v]))
              have pw144 : ((u2 Ia8 (1000) 25 (v139)) (1000) 27).toInt = (Ia8 (1000) 27 : Int32).toInt := congrArg Int32.toInt ((show (u2 Ia8 (1000) 25 (v139)) (1000) 27 = Ia8 (1000) 27 from by simp [u2_v]))
              have pw145 : ((u2 Ia8 (1000) 25 (v139)) (1000) 29).toInt = (Ia8 (1000) 29 : Int32).toInt := congrArg Int32.toInt ((show (u2 Ia8 (1000) 25 (v139)) (1000) 29 = Ia8 (1000) 29 from by simp [u2_v]))
              have pw146 : ((u2 Ia8 (1000) 25 (v139)) (1000) 31).toInt = (Ia8 (1000) 31 : Int32).toInt := congrArg Int32.toInt ((show (u2 Ia8 (1000) 25 (v139)) (1000) 31 = Ia8 (1000) 31 from by simp [u2_v]))
              have pw147 : ((u2 Ia8 (1000) 25 (v139)) (1000) 32).toInt = (Ia8 (1000) 32 : Int32).toInt := congrArg Int32.toInt ((show (u2 Ia8 (1000) 25 (v139)) (1000) 32 = Ia8 (1000) 32 from by simp [u2_v]))
              refine m_callv (m_runV (1000) (As := []) (rest := []) hx hb hml hown hts hE hM hS hA ce_X10_value tb_1543 (V_X10_value l D A ad ns (u2 Ia8 (1000) 25 (v139)) La8 G hJ hI (by omega)) rfl rfl ⟨Nat.le_of_ble_eq_true rfl, Nat.le_of_ble_eq_true rfl⟩ hJ.1 rfl rfl (by decide) rfl hl.1 rfl (Nat.le_of_ble_eq_true rfl) dX10_term_61 ⟨Nat.le_of_ble_eq_true rfl, Nat.le_of_ble_eq_true rfl⟩) hS (fun u H locs hw hM hS => ?_)
              obtain ⟨I148, L149, rfl, hI, hkI148, xI148⟩ := hw
              have hM : Mem D A ad ns I148 L149 G H := hM
              have hK := hK.trans hkI148 rfl
              have hC := CT.link (I2 := (u2 Ia8 (1000) 25 (v139))) hC ((show (u2 Ia8 (1000) 25 (v139)) 1035 = Ia8 1035 from by funext zz; simp [u2_v])) ((show (u2 Ia8 (1000) 25 (v139)) 1036 = Ia8 1036 from by funext zz; simp [u2_v])) (by omega) (by omega)
              have pw150 : (I148 (1000) 24).toInt = (Ia8 (1000) 24 : Int32).toInt := congrArg Int32.toInt (((hkI148.get (1000) 24 rfl)).trans (show (u2 Ia8 (1000) 25 (v139)) (1000) 24 = Ia8 (1000) 24 from by simp [u2_v]))
              have pw151 : (I148 (1000) 27).toInt = (Ia8 (1000) 27 : Int32).toInt := congrArg Int32.toInt (((hkI148.get (1000) 27 rfl)).trans (show (u2 Ia8 (1000) 25 (v139)) (1000) 27 = Ia8 (1000) 27 from by simp [u2_v]))
              have pw152 : (I148 (1000) 32).toInt = (Ia8 (1000) 32 : Int32).toInt := congrArg Int32.toInt (((hkI148.get (1000) 32 rfl)).trans (show (u2 Ia8 (1000) 25 (v139)) (1000) 32 = Ia8 (1000) 32 from by simp [u2_v]))
              have g153 := hI0.get 1000 27 (lo := 0) (hi := 5) rfl
              have g154 := hI0.get 1000 29 (lo := 0) (hi := 300) rfl
              have hC := hC.comp ((xI148.2.2.2.2.2).mono0 (1)) (by omega) (by omega) (by omega) (by omega) (by omega)
              refine lv_aload_n hx hb dX10_term_64 rfl (lv_at hl 1 rfl) ?_
              refine lv_iload_n hx hb dX10_term_65 rfl (lv_at hl 0 rfl) ?_
              refine lv_iconst (v := (0)) hx hb dX10_term_66 (by decide) ?_
              refine m_callv (m_runV (1000) (As := [.int (13), .int (0)]) (rest := []) hx hb hml hown hts hE hM hS hA ce_X10_entry tb_1552 (V_X10_entry l D A ad ns I148 L149 G (13) (0) hJ hI (by omega)) rfl rfl ⟨Nat.le_of_ble_eq_true rfl, Nat.le_of_ble_eq_true rfl⟩ hJ.1 rfl rfl (by decide) rfl hl.1 rfl (Nat.le_of_ble_eq_true rfl) dX10_term_67 ⟨Nat.le_of_ble_eq_true rfl, Nat.le_of_ble_eq_true rfl⟩) hS (fun u H locs hw hM hS => ?_)
              obtain ⟨I155, L156, rfl, hI, hkI155, xI155⟩ := hw
              have hM : Mem D A ad ns I155 L156 G H := hM
              have hK := hK.trans hkI155 rfl
              have pw157 : (I155 (1000) 24).toInt = (Ia8 (1000) 24 : Int32).toInt := congrArg Int32.toInt ((((hkI155.get (1000) 24 rfl)).trans (hkI148.get (1000) 24 rfl)).trans (show (u2 Ia8 (1000) 25 (v139)) (1000) 24 = Ia8 (1000) 24 from by simp [u2_v]))
              have pw158 : (I155 (1000) 25).toInt = (I148 (1000) 25 : Int32).toInt := congrArg Int32.toInt ((hkI155.get (1000) 25 rfl))
              have pw159 : (I155 (1000) 26).toInt = (I148 (1000) 26 : Int32).toInt := congrArg Int32.toInt ((hkI155.get (1000) 26 rfl))
              have pw160 : (I155 (1000) 27).toInt = (Ia8 (1000) 27 : Int32).toInt := congrArg Int32.toInt ((((hkI155.get (1000) 27 rfl)).trans (hkI148.get (1000) 27 rfl)).trans (show (u2 Ia8 (1000) 25 (v139)) (1000) 27 = Ia8 (1000) 27 from by simp [u2_v]))
              have pw161 : (I155 (1000) 31).toInt = (I148 (1000) 31 : Int32).toInt := congrArg Int32.toInt ((hkI155.get (1000) 31 rfl))
              have pw162 : (I155 (1000) 32).toInt = (Ia8 (1000) 32 : Int32).toInt := congrArg Int32.toInt ((((hkI155.get (1000) 32 rfl)).trans (hkI148.get (1000) 32 rfl)).trans (show (u2 Ia8 (1000) 25 (v139)) (1000) 32 = Ia8 (1000) 32 from by simp [u2_v]))
              have g163 := hI0.get 1000 27 (lo := 0) (hi := 5) rfl
              have g164 := hI0.get 1000 29 (lo := 0) (hi := 300) rfl
              have hC := hC.comp (n2 := 1) (xI155.2.2.ct (by omega) (by omega) (by omega) (by omega)) (by omega) (by omega) (by omega) (by omega) (by omega)
              refine lv_aload_n hx hb dX10_term_70 rfl (lv_at hl 1 rfl) ?_
              refine m_callv (m_runV (1000) (As := []) (rest := []) hx hb hml hown hts hE hM hS hA ce_X10_blanks tb_1506 (V_X10_blanks l D A ad ns I155 L156 G hJ hI) rfl rfl ⟨Nat.le_of_ble_eq_true rfl, Nat.le_of_ble_eq_true rfl⟩ hJ.1 rfl rfl (by decide) rfl hl.1 rfl (Nat.le_of_ble_eq_true rfl) dX10_term_71 ⟨Nat.le_of_ble_eq_true rfl, Nat.le_of_ble_eq_true rfl⟩) hS (fun u H locs hw hM hS => ?_)
              obtain ⟨I165, L166, rfl, hI, hkI165, xI165⟩ := hw
              have hM : Mem D A ad ns I165 L166 G H := hM
              have hK := hK.trans hkI165 rfl
              have pw167 : (I165 (1000) 24).toInt = (Ia8 (1000) 24 : Int32).toInt := congrArg Int32.toInt (((((hkI165.get (1000) 24 rfl)).trans (hkI155.get (1000) 24 rfl)).trans (hkI148.get (1000) 24 rfl)).trans (show (u2 Ia8 (1000) 25 (v139)) (1000) 24 = Ia8 (1000) 24 from by simp [u2_v]))
              have pw168 : (I165 (1000) 26).toInt = (I148 (1000) 26 : Int32).toInt := congrArg Int32.toInt (((hkI165.get (1000) 26 rfl)).trans (hkI155.get (1000) 26 rfl))
              have pw169 : (I165 (1000) 27).toInt = (Ia8 (1000) 27 : Int32).toInt := congrArg Int32.toInt (((((hkI165.get (1000) 27 rfl)).trans (hkI155.get (1000) 27 rfl)).trans (hkI148.get (1000) 27 rfl)).trans (show (u2 Ia8 (1000) 25 (v139)) (1000) 27 = Ia8 (1000) 27 from by simp [u2_v]))
              have pw170 : (I165 (1000) 29).toInt = (I155 (1000) 29 : Int32).toInt := congrArg Int32.toInt ((hkI165.get (1000) 29 rfl))
              have pw171 : (I165 (1000) 31).toInt = (I148 (1000) 31 : Int32).toInt := congrArg Int32.toInt (((hkI165.get (1000) 31 rfl)).trans (hkI155.get (1000) 31 rfl))
              have pw172 : (I165 (1000) 32).toInt = (Ia8 (1000) 32 : Int32).toInt := congrArg Int32.toInt (((((hkI165.get (1000) 32 rfl)).trans (hkI155.get (1000) 32 rfl)).trans (hkI148.get (1000) 32 rfl)).trans (show (u2 Ia8 (1000) 25 (v139)) (1000) 32 = Ia8 (1000) 32 from by simp [u2_v]))
              refine lv_goto (tgt := 8) hx hb dX10_term_74 (by decide) ?_
              have hC := CT.link (I2 := I165) hC ((hkI165.getA 1035 rfl)) ((hkI165.getA 1036 rfl)) (by omega) (by omega)
              exact ih8  I165 L166 _ _ ls hI hK (by omega) (by simpa using hC) (by omega) hM hS (lv_sub hl [1] rfl)
  exact loop8 (_ + 1)  I8 L9 _ _ ls hI hK (by omega) (by simpa using hC) (Nat.lt_succ_self _) hM hS (lv_sub hl [0] rfl)
theorem dX10_sum_0 : decode cX10_sum 0 = .ok (.aload_n 0, 1) := by decide +kernel
theorem dX10_sum_1 : decode cX10_sum 1 = .ok (.invokevirtual 328, 3) := by decide +kernel
theorem dX10_sum_4 : decode cX10_sum 4 = .ok (.aload_n 0, 1) := by decide +kernel
theorem dX10_sum_5 : decode cX10_sum 5 = .ok (.getfield 264, 3) := by decide +kernel
theorem dX10_sum_8 : decode cX10_sum 8 = .ok (.ifCond .ne 59, 3) := by decide +kernel
theorem dX10_sum_11 : decode cX10_sum 11 = .ok (.aload_n 0, 1) := by decide +kernel
theorem dX10_sum_12 : decode cX10_sum 12 = .ok (.invokevirtual 270, 3) := by decide +kernel
theorem dX10_sum_15 : decode cX10_sum 15 = .ok (.bipush 43, 2) := by decide +kernel
theorem dX10_sum_17 : decode cX10_sum 17 = .ok (.if_icmp .eq 12, 3) := by decide +kernel
theorem dX10_sum_20 : decode cX10_sum 20 = .ok (.aload_n 0, 1) := by decide +kernel
theorem dX10_sum_21 : decode cX10_sum 21 = .ok (.invokevirtual 270, 3) := by decide +kernel
theorem dX10_sum_24 : decode cX10_sum 24 = .ok (.bipush 45, 2) := by decide +kernel
theorem dX10_sum_26 : decode cX10_sum 26 = .ok (.if_icmp .ne 41, 3) := by decide +kernel
theorem dX10_sum_29 : decode cX10_sum 29 = .ok (.aload_n 0, 1) := by decide +kernel
theorem dX10_sum_30 : decode cX10_sum 30 = .ok (.invokevirtual 270, 3) := by decide +kernel
theorem dX10_sum_33 : decode cX10_sum 33 = .ok (.bipush 43, 2) := by decide +kernel
theorem dX10_sum_35 : decode cX10_sum 35 = .ok (.if_icmp .ne 7, 3) := by decide +kernel
theorem dX10_sum_38 : decode cX10_sum 38 = .ok (.iconst 2, 1) := by decide +kernel
theorem dX10_sum_39 : decode cX10_sum 39 = .ok (.goto 4, 3) := by decide +kernel
theorem dX10_sum_42 : decode cX10_sum 42 = .ok (.iconst 3, 1) := by decide +kernel
theorem dX10_sum_43 : decode cX10_sum 43 = .ok (.istore_n 1, 1) := by decide +kernel
theorem dX10_sum_44 : decode cX10_sum 44 = .ok (.aload_n 0, 1) := by decide +kernel
theorem dX10_sum_45 : decode cX10_sum 45 = .ok (.dup, 1) := by decide +kernel
theorem dX10_sum_46 : decode cX10_sum 46 = .ok (.getfield 267, 3) := by decide +kernel
theorem dX10_sum_49 : decode cX10_sum 49 = .ok (.iconst 1, 1) := by decide +kernel
theorem dX10_sum_50 : decode cX10_sum 50 = .ok (.iadd, 1) := by decide +kernel
theorem dX10_sum_51 : decode cX10_sum 51 = .ok (.putfield 267, 3) := by decide +kernel
theorem dX10_sum_54 : decode cX10_sum 54 = .ok (.aload_n 0, 1) := by decide +kernel
theorem dX10_sum_55 : decode cX10_sum 55 = .ok (.invokevirtual 328, 3) := by decide +kernel
theorem dX10_sum_58 : decode cX10_sum 58 = .ok (.aload_n 0, 1) := by decide +kernel
theorem dX10_sum_59 : decode cX10_sum 59 = .ok (.iload_n 1, 1) := by decide +kernel
theorem dX10_sum_60 : decode cX10_sum 60 = .ok (.iconst 0, 1) := by decide +kernel
theorem dX10_sum_61 : decode cX10_sum 61 = .ok (.invokevirtual 318, 3) := by decide +kernel
theorem dX10_sum_64 : decode cX10_sum 64 = .ok (.goto (-60), 3) := by decide +kernel
theorem dX10_sum_67 : decode cX10_sum 67 = .ok (.return_, 1) := by decide +kernel
theorem ce_X10_sum : CeV RX10 yX10_sum cX10_sum 2 none 0 := ⟨tb_1537, tp_68, tb_11, tb_1538, rfl, by decide, by decide, by decide +kernel⟩
set_option maxHeartbeats 4000000 in
set_option maxRecDepth 20000 in
theorem V_X10_sum (l : Launch) (D : va_G) (A : Nat → Prop) (ad : Nat → Nat) (ns : List Nat) (I : MI) (L : ML) (G : MG) (hJ : SGM ns G) (hI : INV I) (hPI : (I 1000 26).toInt = 0 → 0 ≤ (I 1000 31).toInt ∧ (I 1000 31).toInt ≤ 60 ∧ 3 * (I 1000 29).toInt ≤ 6 * (I 1000 31).toInt + (I 1000 25).toInt ∧ (I 1000 25).toInt ≤ 400) : Met l yX10_sum (wd yX10_sum cX10_sum 2 none) ({ frames := 7, cells := 0, slots := 0, locals := 152 }) (va_Pc [.ref (ad (1000))] (PM D A ad ns I L G)) (va_Qv (fun u => ∃ I2 L2, u = (ad, ns, I2, L2, G) ∧ INV I2 ∧ Kp [(1035, 1037)] [(1000, 25), (1000, 26), (1000, 29), (1000, 31)] I I2 ∧ ((I 1000 25).toInt ≤ (I2 1000 25).toInt ∧ ((I2 1000 25).toInt = (I 1000 25).toInt ∨ (I2 1000 25).toInt ≤ 400) ∧ ((I2 1000 26).toInt = 0 → (I 1000 26).toInt = 0) ∧ (I 1000 29).toInt ≤ (I2 1000 29).toInt ∧ ((I2 1000 26).toInt = 0 → (I 1000 31).toInt + 1 ≤ (I2 1000 31).toInt ∧ (I2 1000 31).toInt ≤ 60 ∧ (I2 1000 29).toInt + 1 ≤ (I 1000 29).toInt + 2 * ((I2 1000 31).toInt - (I 1000 31).toInt)) ∧ CT I I2 0 1)) (BM D A) A) 0 0 A := by
  refine m_ofW (by decide) (Nat.le_of_ble_eq_true rfl) ?_
  intro p e s m below meth c ls args hC hE hM hA hS hl
  obtain ⟨hx, hb, hml, hown, hts, hr, hlocks, hin⟩ := hC
  have k0 : (0 : Int32).toInt = 0 := by decide
  have k1 : (1 : Int32).toInt = 1 := by decide
  have k2 : (2 : Int32).toInt = 2 := by decide
  have k3 : (3 : Int32).toInt = 3 := by decide
  have k43 : (43 : Int32).toInt = 43 := by decide
  have k45 : (45 : Int32).toInt = 45 := by decide
  have hC := CT.rf I 0
  have hI0 := hI
  have hK : Kp [(1035, 1037)] [(1000, 25), (1000, 26), (1000, 29), (1000, 31)] I I := Kp.rf
  have hl : lv_has ls 2 [(0, .ref (ad (1000)))] := hl
  refine lv_aload_n hx hb dX10_sum_0 rfl (lv_at hl 0 rfl) ?_
  refine m_callv (m_runV (1000) (As := []) (rest := []) hx hb hml hown hts hE hM hS hA ce_X10_term tb_1539 (V_X10_term l D A ad ns I L G hJ hI (by omega)) rfl rfl ⟨Nat.le_of_ble_eq_true rfl, Nat.le_of_ble_eq_true rfl⟩ hJ.1 rfl rfl (by decide) rfl hl.1 rfl (Nat.le_of_ble_eq_true rfl) dX10_sum_1 ⟨Nat.le_of_ble_eq_true rfl, Nat.le_of_ble_eq_true rfl⟩) hS (fun u H locs hw hM hS => ?_)
  obtain ⟨I1, L2, rfl, hI, hkI1, xI1⟩ := hw
  have hM : Mem D A ad ns I1 L2 G H := hM
  have hK := hK.trans hkI1 rfl
  have pw3 : (I1 (1000) 24).toInt = (I (1000) 24 : Int32).toInt := congrArg Int32.toInt ((hkI1.get (1000) 24 rfl))
  have pw4 : (I1 (1000) 27).toInt = (I (1000) 27 : Int32).toInt := congrArg Int32.toInt ((hkI1.get (1000) 27 rfl))
  have pw5 : (I1 (1000) 32).toInt = (I (1000) 32 : Int32).toInt := congrArg Int32.toInt ((hkI1.get (1000) 32 rfl))
  have g6 := hI0.get 1000 27 (lo := 0) (hi := 5) rfl
  have g7 := hI0.get 1000 29 (lo := 0) (hi := 300) rfl
  have hC := hC.comp ((xI1.2.2.2.2.2).mono0 (0)) (by omega) (by omega) (by omega) (by omega) (by omega)
  have loop4 : ∀ (n : Nat)  (Ia4 : MI) (La4 : ML) (H : Heap) (locs : List Loc) (ls : Array Slot), INV Ia4 → Kp [(1035, 1037)] [(1000, 25), (1000, 26), (1000, 29), (1000, 31)] I Ia4 → ((I 1000 25).toInt ≤ (Ia4 1000 25).toInt ∧ ((Ia4 1000 25).toInt = (I 1000 25).toInt ∨ (Ia4 1000 25).toInt ≤ 400) ∧ ((Ia4 1000 26).toInt = 0 → (I 1000 26).toInt = 0) ∧ (I 1000 29).toInt ≤ (Ia4 1000 29).toInt ∧ ((Ia4 1000 26).toInt = 0 → (I 1000 31).toInt + 1 ≤ (Ia4 1000 31).toInt ∧ (Ia4 1000 31).toInt ≤ 60 ∧ (Ia4 1000 29).toInt + 1 ≤ (I 1000 29).toInt + 2 * ((Ia4 1000 31).toInt - (I 1000 31).toInt))) → (CT I Ia4 0 1) → (400 - (Ia4 1000 25).toInt).toNat < n → Mem D A ad ns Ia4 La4 G H → va_S A s.heap H locs → lv_has ls 2 [(0, .ref (ad (1000)))] → W p l e ({ frames := 7, cells := 0, slots := 0, locals := 152 } : Room) s m args below meth c H locs 0 0 (MQ below (va_Qv (fun u => ∃ I2 L2, u = (ad, ns, I2, L2, G) ∧ INV I2 ∧ Kp [(1035, 1037)] [(1000, 25), (1000, 26), (1000, 29), (1000, 31)] I I2 ∧ ((I 1000 25).toInt ≤ (I2 1000 25).toInt ∧ ((I2 1000 25).toInt = (I 1000 25).toInt ∨ (I2 1000 25).toInt ≤ 400) ∧ ((I2 1000 26).toInt = 0 → (I 1000 26).toInt = 0) ∧ (I 1000 29).toInt ≤ (I2 1000 29).toInt ∧ ((I2 1000 26).toInt = 0 → (I 1000 31).toInt + 1 ≤ (I2 1000 31).toInt ∧ (I2 1000 31).toInt ≤ 60 ∧ (I2 1000 29).toInt + 1 ≤ (I 1000 29).toInt + 2 * ((I2 1000 31).toInt - (I 1000 31).toInt)) ∧ CT I I2 0 1)) (BM D A) A) args s 0 0 A) (F0 m 4 ls []) := by
    intro n
    induction n with
    | zero =>
      intro  Ia4 La4 H locs ls hI hK hlin hC hmu
      exact absurd hmu (Nat.not_lt_zero _)
    | succ n ih4 =>
      intro  Ia4 La4 H locs ls hI hK hlin hC hmu4 hM hS hl
      have pk27 := congrArg Int32.toInt (hK.get 1000 27 rfl)
      have pk24 := congrArg Int32.toInt (hK.get 1000 24 rfl)
      have gx27 := hI0.get 1000 27 (lo := 0) (hi := 5) rfl
      have gx29 := hI0.get 1000 29 (lo := 0) (hi := 300) rfl
      refine lv_aload_n hx hb dX10_sum_4 rfl (lv_at hl 0 rfl) ?_
      refine m_geti (1000) 26 hx hb hts hown hE oc10 hM hJ.1 rfl (by decide) rfl tb_1203 dX10_sum_5 ?_
      refine lv_if_ne (tgt := 67) hx hb dX10_sum_8 (by decide) (fun c8 => ?_) (fun c8 => ?_)
      · have hc8 := c8
        have q8 := q_ne hc8
        exact m_vret hx hb hr hlocks hM hS (Nat.le_of_ble_eq_true rfl) (Nat.le_of_ble_eq_true rfl) ⟨_, _, rfl, hI, hK, ⟨by omega, by omega, by omega, by omega, by omega, hC⟩⟩ dX10_sum_67
      · have hc8 := c8
        have q8 := q_eq hc8
        refine lv_aload_n hx hb dX10_sum_11 rfl (lv_at hl 0 rfl) ?_
        refine m_calli (m_runV (1000) (As := []) (rest := []) hx hb hml hown hts hE hM hS hA ce_X10_sign tb_1510 (V_X10_sign l D A ad ns Ia4 La4 G hJ hI) rfl rfl ⟨Nat.le_of_ble_eq_true rfl, Nat.le_of_ble_eq_true rfl⟩ hJ.1 rfl rfl (by decide) rfl hl.1 rfl (Nat.le_of_ble_eq_true rfl) dX10_sum_12 ⟨Nat.le_of_ble_eq_true rfl, Nat.le_of_ble_eq_true rfl⟩) hS (fun r9 u H locs hw hM hS => ?_)
        obtain ⟨rfl, xr9⟩ := hw
        have hM : Mem D A ad ns Ia4 La4 G H := hM
        have g10 := hI.get 1000 24 (lo := 0) (hi := 400) rfl
        have g11 := hI.get 1000 25 (lo := 0) (hi := 100000) rfl
        refine lv_bipush (v := (43)) hx hb dX10_sum_15 (by decide) ?_
        refine lv_icmp_eq (tgt := 29) hx hb dX10_sum_17 (by decide) (fun c12 => ?_) (fun c12 => ?_)
        · have hc12 := c12
          have q12 := q_eq hc12
          refine lv_aload_n hx hb dX10_sum_29 rfl (lv_at hl 0 rfl) ?_
          refine m_calli (m_runV (1000) (As := []) (rest := []) hx hb hml hown hts hE hM hS hA ce_X10_sign tb_1510 (V_X10_sign l D A ad ns Ia4 La4 G hJ hI) rfl rfl ⟨Nat.le_of_ble_eq_true rfl, Nat.le_of_ble_eq_true rfl⟩ hJ.1 rfl rfl (by decide) rfl hl.1 rfl (Nat.le_of_ble_eq_true rfl) dX10_sum_30 ⟨Nat.le_of_ble_eq_true rfl, Nat.le_of_ble_eq_true rfl⟩) hS (fun r13 u H locs hw hM hS => ?_)
          obtain ⟨rfl, xr13⟩ := hw
          have hM : Mem D A ad ns Ia4 La4 G H := hM
          have g14 := hI.get 1000 24 (lo := 0) (hi := 400) rfl
          have g15 := hI.get 1000 25 (lo := 0) (hi := 100000) rfl
          refine lv_bipush (v := (43)) hx hb dX10_sum_33 (by decide) ?_
          refine lv_icmp_ne (tgt := 42) hx hb dX10_sum_35 (by decide) (fun c16 => ?_) (fun c16 => ?_)
          · have hc16 := c16
            have q16 := q_ne hc16
            refine lv_iconst (v := (3)) hx hb dX10_sum_42 (by decide) ?_
            refine lv_istore_n (lv' := [(1, .int (3)), (0, .ref (ad (1000)))]) hx hb dX10_sum_43 rfl hl (by decide) rfl (fun ls hl => ?_)
            refine lv_aload_n hx hb dX10_sum_44 rfl (lv_at hl 1 rfl) ?_
            refine lv_dup hx hb dX10_sum_45 rfl ?_
            refine m_geti (1000) 25 hx hb hts hown hE oc10 hM hJ.1 rfl (by decide) rfl tb_1202 dX10_sum_46 ?_
            have g17 := hI.get (1000) 25 (lo := 0) (hi := 100000) rfl
            refine lv_iconst (v := (1)) hx hb dX10_sum_49 (by decide) ?_
            refine lv_iadd hx hb dX10_sum_50 ?_
            refine lv_topi (fun v18 ev18 => ?_)
            have tv18 := a_add ev18 (by omega) (by omega)
            refine m_puti (1000) 25 hx hb hts hown hE oc10 hM hS hJ.1 rfl (by decide) rfl rfl rfl rfl tb_1202 dX10_sum_51 (fun H locs I19 eI19 hM hS => ?_)
            subst eI19
            have hI := hI.put (n := 1000) (k := 25) (v := v18) (lo := 0) (hi := 100000) rfl (by first | omega | decide)
            have hK := hK.put (n := 1000) (k := 25) (v := v18) (by first | rfl | simp [inR])
            refine lv_aload_n hx hb dX10_sum_54 rfl (lv_at hl 1 rfl) ?_
            have pw20 : ((u2 Ia4 (1000) 25 (v18)) (1000) 24).toInt = (Ia4 (1000) 24 : Int32).toInt := congrArg Int32.toInt ((show (u2 Ia4 (1000) 25 (v18)) (1000) 24 = Ia4 (1000) 24 from by simp [u2_v]))
            have pw21 : ((u2 Ia4 (1000) 25 (v18)) (1000) 25).toInt = (v18 : Int32).toInt := congrArg Int32.toInt ((show (u2 Ia4 (1000) 25 (v18)) (1000) 25 = v18 from by simp [u2_v]))
            have pw22 : ((u2 Ia4 (1000) 25 (v18)) (1000) 26).toInt = (Ia4 (1000) 26 : Int32).toInt := congrArg Int32.toInt ((show (u2 Ia4 (1000) 25 (v18)) (1000) 26 = Ia4 (1000) 26 from by simp [u2_v]))
            have pw23 : ((u2 Ia4 (1000) 25 (v18)) (1000) 27).toInt = (Ia4 (1000) 27 : Int32).toInt := congrArg Int32.toInt ((show (u2 Ia4 (1000) 25 (v18)) (1000) 27 = Ia4 (1000) 27 from by simp [u2_v]))
            have pw24 : ((u2 Ia4 (1000) 25 (v18)) (1000) 29).toInt = (Ia4 (1000) 29 : Int32).toInt := congrArg Int32.toInt ((show (u2 Ia4 (1000) 25 (v18)) (1000) 29 = Ia4 (1000) 29 from by simp [u2_v]))
            have pw25 : ((u2 Ia4 (1000) 25 (v18)) (1000) 31).toInt = (Ia4 (1000) 31 : Int32).toInt := congrArg Int32.toInt ((show (u2 Ia4 (1000) 25 (v18)) (1000) 31 = Ia4 (1000) 31 from by simp [u2_v]))
            have pw26 : ((u2 Ia4 (1000) 25 (v18)) (1000) 32).toInt = (Ia4 (1000) 32 : Int32).toInt := congrArg Int32.toInt ((show (u2 Ia4 (1000) 25 (v18)) (1000) 32 = Ia4 (1000) 32 from by simp [u2_v]))
            refine m_callv (m_runV (1000) (As := []) (rest := []) hx hb hml hown hts hE hM hS hA ce_X10_term tb_1539 (V_X10_term l D A ad ns (u2 Ia4 (1000) 25 (v18)) La4 G hJ hI (by omega)) rfl rfl ⟨Nat.le_of_ble_eq_true rfl, Nat.le_of_ble_eq_true rfl⟩ hJ.1 rfl rfl (by decide) rfl hl.1 rfl (Nat.le_of_ble_eq_true rfl) dX10_sum_55 ⟨Nat.le_of_ble_eq_true rfl, Nat.le_of_ble_eq_true rfl⟩) hS (fun u H locs hw hM hS => ?_)
            obtain ⟨I27, L28, rfl, hI, hkI27, xI27⟩ := hw
            have hM : Mem D A ad ns I27 L28 G H := hM
            have hK := hK.trans hkI27 rfl
            have hC := CT.link (I2 := (u2 Ia4 (1000) 25 (v18))) hC ((show (u2 Ia4 (1000) 25 (v18)) 1035 = Ia4 1035 from by funext zz; simp [u2_v])) ((show (u2 Ia4 (1000) 25 (v18)) 1036 = Ia4 1036 from by funext zz; simp [u2_v])) (by omega) (by omega)
            have pw29 : (I27 (1000) 24).toInt = (Ia4 (1000) 24 : Int32).toInt := congrArg Int32.toInt (((hkI27.get (1000) 24 rfl)).trans (show (u2 Ia4 (1000) 25 (v18)) (1000) 24 = Ia4 (1000) 24 from by simp [u2_v]))
            have pw30 : (I27 (1000) 27).toInt = (Ia4 (1000) 27 : Int32).toInt := congrArg Int32.toInt (((hkI27.get (1000) 27 rfl)).trans (show (u2 Ia4 (1000) 25 (v18)) (1000) 27 = Ia4 (1000) 27 from by simp [u2_v]))
            have pw31 : (I27 (1000) 32).toInt = (Ia4 (1000) 32 : Int32).toInt := congrArg Int32.toInt (((hkI27.get (1000) 32 rfl)).trans (show (u2 Ia4 (1000) 25 (v18)) (1000) 32 = Ia4 (1000) 32 from by simp [u2_v]))
            have g32 := hI0.get 1000 27 (lo := 0) (hi := 5) rfl
            have g33 := hI0.get 1000 29 (lo := 0) (hi := 300) rfl
            have hC := hC.comp ((xI27.2.2.2.2.2).mono0 (1)) (by omega) (by omega) (by omega) (by omega) (by omega)
            refine lv_aload_n hx hb dX10_sum_58 rfl (lv_at hl 1 rfl) ?_
            refine lv_iload_n hx hb dX10_sum_59 rfl (lv_at hl 0 rfl) ?_
            refine lv_iconst (v := (0)) hx hb dX10_sum_60 (by decide) ?_
            refine m_callv (m_runV (1000) (As := [.int (3), .int (0)]) (rest := []) hx hb hml hown hts hE hM hS hA ce_X10_entry tb_1552 (V_X10_entry l D A ad ns I27 L28 G (3) (0) hJ hI (by omega)) rfl rfl ⟨Nat.le_of_ble_eq_true rfl, Nat.le_of_ble_eq_true rfl⟩ hJ.1 rfl rfl (by decide) rfl hl.1 rfl (Nat.le_of_ble_eq_true rfl) dX10_sum_61 ⟨Nat.le_of_ble_eq_true rfl, Nat.le_of_ble_eq_true rfl⟩) hS (fun u H locs hw hM hS => ?_)
            obtain ⟨I34, L35, rfl, hI, hkI34, xI34⟩ := hw
            have hM : Mem D A ad ns I34 L35 G H := hM
            have hK := hK.trans hkI34 rfl
            have pw36 : (I34 (1000) 24).toInt = (Ia4 (1000) 24 : Int32).toInt := congrArg Int32.toInt ((((hkI34.get (1000) 24 rfl)).trans (hkI27.get (1000) 24 rfl)).trans (show (u2 Ia4 (1000) 25 (v18)) (1000) 24 = Ia4 (1000) 24 from by simp [u2_v]))
            have pw37 : (I34 (1000) 25).toInt = (I27 (1000) 25 : Int32).toInt := congrArg Int32.toInt ((hkI34.get (1000) 25 rfl))
            have pw38 : (I34 (1000) 26).toInt = (I27 (1000) 26 : Int32).toInt := congrArg Int32.toInt ((hkI34.get (1000) 26 rfl))
            have pw39 : (I34 (1000) 27).toInt = (Ia4 (1000) 27 : Int32).toInt := congrArg Int32.toInt ((((hkI34.get (1000) 27 rfl)).trans (hkI27.get (1000) 27 rfl)).trans (show (u2 Ia4 (1000) 25 (v18)) (1000) 27 = Ia4 (1000) 27 from by simp [u2_v]))
            have pw40 : (I34 (1000) 31).toInt = (I27 (1000) 31 : Int32).toInt := congrArg Int32.toInt ((hkI34.get (1000) 31 rfl))
            have pw41 : (I34 (1000) 32).toInt = (Ia4 (1000) 32 : Int32).toInt := congrArg Int32.toInt ((((hkI34.get (1000) 32 rfl)).trans (hkI27.get (1000) 32 rfl)).trans (show (u2 Ia4 (1000) 25 (v18)) (1000) 32 = Ia4 (1000) 32 from by simp [u2_v]))
            have g42 := hI0.get 1000 27 (lo := 0) (hi := 5) rfl
            have g43 := hI0.get 1000 29 (lo := 0) (hi := 300) rfl
            have hC := hC.comp (n2 := 1) (xI34.2.2.ct (by omega) (by omega) (by omega) (by omega)) (by omega) (by omega) (by omega) (by omega) (by omega)
            refine lv_goto (tgt := 4) hx hb dX10_sum_64 (by decide) ?_
            exact ih4  I34 L35 _ _ ls hI hK (by omega) (by simpa using hC) (by omega) hM hS (lv_sub hl [1] rfl)
          · have hc16 := c16
            have q16 := q_eq hc16
            refine lv_iconst (v := (2)) hx hb dX10_sum_38 (by decide) ?_
            refine lv_goto (tgt := 43) hx hb dX10_sum_39 (by decide) ?_
            refine lv_istore_n (lv' := [(1, .int (2)), (0, .ref (ad (1000)))]) hx hb dX10_sum_43 rfl hl (by decide) rfl (fun ls hl => ?_)
            refine lv_aload_n hx hb dX10_sum_44 rfl (lv_at hl 1 rfl) ?_
            refine lv_dup hx hb dX10_sum_45 rfl ?_
            refine m_geti (1000) 25 hx hb hts hown hE oc10 hM hJ.1 rfl (by decide) rfl tb_1202 dX10_sum_46 ?_
            have g44 := hI.get (1000) 25 (lo := 0) (hi := 100000) rfl
            refine lv_iconst (v := (1)) hx hb dX10_sum_49 (by decide) ?_
            refine lv_iadd hx hb dX10_sum_50 ?_
            refine lv_topi (fun v45 ev45 => ?_)
            have tv45 := a_add ev45 (by omega) (by omega)
            refine m_puti (1000) 25 hx hb hts hown hE oc10 hM hS hJ.1 rfl (by decide) rfl rfl rfl rfl tb_1202 dX10_sum_51 (fun H locs I46 eI46 hM hS => ?_)
            subst eI46
            have hI := hI.put (n := 1000) (k := 25) (v := v45) (lo := 0) (hi := 100000) rfl (by first | omega | decide)
            have hK := hK.put (n := 1000) (k := 25) (v := v45) (by first | rfl | simp [inR])
            refine lv_aload_n hx hb dX10_sum_54 rfl (lv_at hl 1 rfl) ?_
            have pw47 : ((u2 Ia4 (1000) 25 (v45)) (1000) 24).toInt = (Ia4 (1000) 24 : Int32).toInt := congrArg Int32.toInt ((show (u2 Ia4 (1000) 25 (v45)) (1000) 24 = Ia4 (1000) 24 from by simp [u2_v]))
            have pw48 : ((u2 Ia4 (1000) 25 (v45)) (1000) 25).toInt = (v45 : Int32).toInt := congrArg Int32.toInt ((show (u2 Ia4 (1000) 25 (v45)) (1000) 25 = v45 from by simp [u2_v]))
            have pw49 : ((u2 Ia4 (1000) 25 (v45)) (1000) 26).toInt = (Ia4 (1000) 26 : Int32).toInt := congrArg Int32.toInt ((show (u2 Ia4 (1000) 25 (v45)) (1000) 26 = Ia4 (1000) 26 from by simp [u2_v]))
            have pw50 : ((u2 Ia4 (1000) 25 (v45)) (1000) 27).toInt = (Ia4 (1000) 27 : Int32).toInt := congrArg Int32.toInt ((show (u2 Ia4 (1000) 25 (v45)) (1000) 27 = Ia4 (1000) 27 from by simp [u2_v]))
            have pw51 : ((u2 Ia4 (1000) 25 (v45)) (1000) 29).toInt = (Ia4 (1000) 29 : Int32).toInt := congrArg Int32.toInt ((show (u2 Ia4 (1000) 25 (v45)) (1000) 29 = Ia4 (1000) 29 from by simp [u2_v]))
            have pw52 : ((u2 Ia4 (1000) 25 (v45)) (1000) 31).toInt = (Ia4 (1000) 31 : Int32).toInt := congrArg Int32.toInt ((show (u2 Ia4 (1000) 25 (v45)) (1000) 31 = Ia4 (1000) 31 from by simp [u2_v]))
            have pw53 : ((u2 Ia4 (1000) 25 (v45)) (1000) 32).toInt = (Ia4 (1000) 32 : Int32).toInt := congrArg Int32.toInt ((show (u2 Ia4 (1000) 25 (v45)) (1000) 32 = Ia4 (1000) 32 from by simp [u2_v]))
            refine m_callv (m_runV (1000) (As := []) (rest := []) hx hb hml hown hts hE hM hS hA ce_X10_term tb_1539 (V_X10_term l D A ad ns (u2 Ia4 (1000) 25 (v45)) La4 G hJ hI (by omega)) rfl rfl ⟨Nat.le_of_ble_eq_true rfl, Nat.le_of_ble_eq_true rfl⟩ hJ.1 rfl rfl (by decide) rfl hl.1 rfl (Nat.le_of_ble_eq_true rfl) dX10_sum_55 ⟨Nat.le_of_ble_eq_true rfl, Nat.le_of_ble_eq_true rfl⟩) hS (fun u H locs hw hM hS => ?_)
            obtain ⟨I54, L55, rfl, hI, hkI54, xI54⟩ := hw
            have hM : Mem D A ad ns I54 L55 G H := hM
            have hK := hK.trans hkI54 rfl
            have hC := CT.link (I2 := (u2 Ia4 (1000) 25 (v45))) hC ((show (u2 Ia4 (1000) 25 (v45)) 1035 = Ia4 1035 from by funext zz; simp [u2_v])) ((show (u2 Ia4 (1000) 25 (v45)) 1036 = Ia4 1036 from by funext zz; simp [u2_v])) (by omega) (by omega)
            have pw56 : (I54 (1000) 24).toInt = (Ia4 (1000) 24 : Int32).toInt := congrArg Int32.toInt (((hkI54.get (1000) 24 rfl)).trans (show (u2 Ia4 (1000) 25 (v45)) (1000) 24 = Ia4 (1000) 24 from by simp [u2_v]))
            have pw57 : (I54 (1000) 27).toInt = (Ia4 (1000) 27 : Int32).toInt := congrArg Int32.toInt (((hkI54.get (1000) 27 rfl)).trans (show (u2 Ia4 (1000) 25 (v45)) (1000) 27 = Ia4 (1000) 27 from by simp [u2_v]))
            have pw58 : (I54 (1000) 32).toInt = (Ia4 (1000) 32 : Int32).toInt := congrArg Int32.toInt (((hkI54.get (1000) 32 rfl)).trans (show (u2 Ia4 (1000) 25 (v45)) (1000) 32 = Ia4 (1000) 32 from by simp [u2_v]))
            have g59 := hI0.get 1000 27 (lo := 0) (hi := 5) rfl
            have g60 := hI0.get 1000 29 (lo := 0) (hi := 300) rfl
            have hC := hC.comp ((xI54.2.2.2.2.2).mono0 (1)) (by omega) (by omega) (by omega) (by omega) (by omega)
            refine lv_aload_n hx hb dX10_sum_58 rfl (lv_at hl 1 rfl) ?_
            refine lv_iload_n hx hb dX10_sum_59 rfl (lv_at hl 0 rfl) ?_
            refine lv_iconst (v := (0)) hx hb dX10_sum_60 (by decide) ?_
            refine m_callv (m_runV (1000) (As := [.int (2), .int (0)]) (rest := []) hx hb hml hown hts hE hM hS hA ce_X10_entry tb_1552 (V_X10_entry l D A ad ns I54 L55 G (2) (0) hJ hI (by omega)) rfl rfl ⟨Nat.le_of_ble_eq_true rfl, Nat.le_of_ble_eq_true rfl⟩ hJ.1 rfl rfl (by decide) rfl hl.1 rfl (Nat.le_of_ble_eq_true rfl) dX10_sum_61 ⟨Nat.le_of_ble_eq_true rfl, Nat.le_of_ble_eq_true rfl⟩) hS (fun u H locs hw hM hS => ?_)
            obtain ⟨I61, L62, rfl, hI, hkI61, xI61⟩ := hw
            have hM : Mem D A ad ns I61 L62 G H := hM
            have hK := hK.trans hkI61 rfl
            have pw63 : (I61 (1000) 24).toInt = (Ia4 (1000) 24 : Int32).toInt := congrArg Int32.toInt ((((hkI61.get (1000) 24 rfl)).trans (hkI54.get (1000) 24 rfl)).trans (show (u2 Ia4 (1000) 25 (v45)) (1000) 24 = Ia4 (1000) 24 from by simp [u2_v]))
            have pw64 : (I61 (1000) 25).toInt = (I54 (1000) 25 : Int32).toInt := congrArg Int32.toInt ((hkI61.get (1000) 25 rfl))
            have pw65 : (I61 (1000) 26).toInt = (I54 (1000) 26 : Int32).toInt := congrArg Int32.toInt ((hkI61.get (1000) 26 rfl))
            have pw66 : (I61 (1000) 27).toInt = (Ia4 (1000) 27 : Int32).toInt := congrArg Int32.toInt ((((hkI61.get (1000) 27 rfl)).trans (hkI54.get (1000) 27 rfl)).trans (show (u2 Ia4 (1000) 25 (v45)) (1000) 27 = Ia4 (1000) 27 from by simp [u2_v]))
            have pw67 : (I61 (1000) 31).toInt = (I54 (1000) 31 : Int32).toInt := congrArg Int32.toInt ((hkI61.get (1000) 31 rfl))
            have pw68 : (I61 (1000) 32).toInt = (Ia4 (1000) 32 : Int32).toInt := congrArg Int32.toInt ((((hkI61.get (1000) 32 rfl)).trans (hkI54.get (1000) 32 rfl)).trans (show (u2 Ia4 (1000) 25 (v45)) (1000) 32 = Ia4 (1000) 32 from by simp [u2_v]))
            have g69 := hI0.get 1000 27 (lo := 0) (hi := 5) rfl
            have g70 := hI0.get 1000 29 (lo := 0) (hi := 300) rfl
            have hC := hC.comp (n2 := 1) (xI61.2.2.ct (by omega) (by omega) (by omega) (by omega)) (by omega) (by omega) (by omega) (by omega) (by omega)
            refine lv_goto (tgt := 4) hx hb dX10_sum_64 (by decide) ?_
            exact ih4  I61 L62 _ _ ls hI hK (by omega) (by simpa using hC) (by omega) hM hS (lv_sub hl [1] rfl)
        · have hc12 := c12
          have q12 := q_ne hc12
          refine lv_aload_n hx hb dX10_sum_20 rfl (lv_at hl 0 rfl) ?_
          refine m_calli (m_runV (1000) (As := []) (rest := []) hx hb hml hown hts hE hM hS hA ce_X10_sign tb_1510 (V_X10_sign l D A ad ns Ia4 La4 G hJ hI) rfl rfl ⟨Nat.le_of_ble_eq_true rfl, Nat.le_of_ble_eq_true rfl⟩ hJ.1 rfl rfl (by decide) rfl hl.1 rfl (Nat.le_of_ble_eq_true rfl) dX10_sum_21 ⟨Nat.le_of_ble_eq_true rfl, Nat.le_of_ble_eq_true rfl⟩) hS (fun r71 u H locs hw hM hS => ?_)
          obtain ⟨rfl, xr71⟩ := hw
          have hM : Mem D A ad ns Ia4 La4 G H := hM
          have g72 := hI.get 1000 24 (lo := 0) (hi := 400) rfl
          have g73 := hI.get 1000 25 (lo := 0) (hi := 100000) rfl
          refine lv_bipush (v := (45)) hx hb dX10_sum_24 (by decide) ?_
          refine lv_icmp_ne (tgt := 67) hx hb dX10_sum_26 (by decide) (fun c74 => ?_) (fun c74 => ?_)
          · have hc74 := c74
            have q74 := q_ne hc74
            exact m_vret hx hb hr hlocks hM hS (Nat.le_of_ble_eq_true rfl) (Nat.le_of_ble_eq_true rfl) ⟨_, _, rfl, hI, hK, ⟨by omega, by omega, by omega, by omega, by omega, hC⟩⟩ dX10_sum_67
          · have hc74 := c74
            have q74 := q_eq hc74
            refine lv_aload_n hx hb dX10_sum_29 rfl (lv_at hl 0 rfl) ?_
            refine m_calli (m_runV (1000) (As := []) (rest := []) hx hb hml hown hts hE hM hS hA ce_X10_sign tb_1510 (V_X10_sign l D A ad ns Ia4 La4 G hJ hI) rfl rfl ⟨Nat.le_of_ble_eq_true rfl, Nat.le_of_ble_eq_true rfl⟩ hJ.1 rfl rfl (by decide) rfl hl.1 rfl (Nat.le_of_ble_eq_true rfl) dX10_sum_30 ⟨Nat.le_of_ble_eq_true rfl, Nat.le_of_ble_eq_true rfl⟩) hS (fun r75 u H locs hw hM hS => ?_)
            obtain ⟨rfl, xr75⟩ := hw
            have hM : Mem D A ad ns Ia4 La4 G H := hM
            have g76 := hI.get 1000 24 (lo := 0) (hi := 400) rfl
            have g77 := hI.get 1000 25 (lo := 0) (hi := 100000) rfl
            refine lv_bipush (v := (43)) hx hb dX10_sum_33 (by decide) ?_
            refine lv_icmp_ne (tgt := 42) hx hb dX10_sum_35 (by decide) (fun c78 => ?_) (fun c78 => ?_)
            · have hc78 := c78
              have q78 := q_ne hc78
              refine lv_iconst (v := (3)) hx hb dX10_sum_42 (by decide) ?_
              refine lv_istore_n (lv' := [(1, .int (3)), (0, .ref (ad (1000)))]) hx hb dX10_sum_43 rfl hl (by decide) rfl (fun ls hl => ?_)
              refine lv_aload_n hx hb dX10_sum_44 rfl (lv_at hl 1 rfl) ?_
              refine lv_dup hx hb dX10_sum_45 rfl ?_
              refine m_geti (1000) 25 hx hb hts hown hE oc10 hM hJ.1 rfl (by decide) rfl tb_1202 dX10_sum_46 ?_
              have g79 := hI.get (1000) 25 (lo := 0) (hi := 100000) rfl
              refine lv_iconst (v := (1)) hx hb dX10_sum_49 (by decide) ?_
              refine lv_iadd hx hb dX10_sum_50 ?_
              refine lv_topi (fun v80 ev80 => ?_)
              have tv80 := a_add ev80 (by omega) (by omega)
              refine m_puti (1000) 25 hx hb hts hown hE oc10 hM hS hJ.1 rfl (by decide) rfl rfl rfl rfl tb_1202 dX10_sum_51 (fun H locs I81 eI81 hM hS => ?_)
              subst eI81
              have hI := hI.put (n := 1000) (k := 25) (v := v80) (lo := 0) (hi := 100000) rfl (by first | omega | decide)
              have hK := hK.put (n := 1000) (k := 25) (v := v80) (by first | rfl | simp [inR])
              refine lv_aload_n hx hb dX10_sum_54 rfl (lv_at hl 1 rfl) ?_
              have pw82 : ((u2 Ia4 (1000) 25 (v80)) (1000) 24).toInt = (Ia4 (1000) 24 : Int32).toInt := congrArg Int32.toInt ((show (u2 Ia4 (1000) 25 (v80)) (1000) 24 = Ia4 (1000) 24 from by simp [u2_v]))
              have pw83 : ((u2 Ia4 (1000) 25 (v80)) (1000) 25).toInt = (v80 : Int32).toInt := congrArg Int32.toInt ((show (u2 Ia4 (1000) 25 (v80)) (1000) 25 = v80 from by simp [u2_v]))
              have pw84 : ((u2 Ia4 (1000) 25 (v80)) (1000) 26).toInt = (Ia4 (1000) 26 : Int32).toInt := congrArg Int32.toInt ((show (u2 Ia4 (1000) 25 (v80)) (1000) 26 = Ia4 (1000) 26 from by simp [u2_v]))
              have pw85 : ((u2 Ia4 (1000) 25 (v80)) (1000) 27).toInt = (Ia4 (1000) 27 : Int32).toInt := congrArg Int32.toInt ((show (u2 Ia4 (1000) 25 (v80)) (1000) 27 = Ia4 (1000) 27 from by simp [u2_v]))
              have pw86 : ((u2 Ia4 (1000) 25 (v80)) (1000) 29).toInt = (Ia4 (1000) 29 : Int32).toInt := congrArg Int32.toInt ((show (u2 Ia4 (1000) 25 (v80)) (1000) 29 = Ia4 (1000) 29 from by simp [u2_v]))
              have pw87 : ((u2 Ia4 (1000) 25 (v80)) (1000) 31).toInt = (Ia4 (1000) 31 : Int32).toInt := congrArg Int32.toInt ((show (u2 Ia4 (1000) 25 (v80)) (1000) 31 = Ia4 (1000) 31 from by simp [u2_v]))
              have pw88 : ((u2 Ia4 (1000) 25 (v80)) (1000) 32).toInt = (Ia4 (1000) 32 : Int32).toInt := congrArg Int32.toInt ((show (u2 Ia4 (1000) 25 (v80)) (1000) 32 = Ia4 (1000) 32 from by simp [u2_v]))
              refine m_callv (m_runV (1000) (As := []) (rest := []) hx hb hml hown hts hE hM hS hA ce_X10_term tb_1539 (V_X10_term l D A ad ns (u2 Ia4 (1000) 25 (v80)) La4 G hJ hI (by omega)) rfl rfl ⟨Nat.le_of_ble_eq_true rfl, Nat.le_of_ble_eq_true rfl⟩ hJ.1 rfl rfl (by decide) rfl hl.1 rfl (Nat.le_of_ble_eq_true rfl) dX10_sum_55 ⟨Nat.le_of_ble_eq_true rfl, Nat.le_of_ble_eq_true rfl⟩) hS (fun u H locs hw hM hS => ?_)
              obtain ⟨I89, L90, rfl, hI, hkI89, xI89⟩ := hw
              have hM : Mem D A ad ns I89 L90 G H := hM
              have hK := hK.trans hkI89 rfl
              have hC := CT.link (I2 := (u2 Ia4 (1000) 25 (v80))) hC ((show (u2 Ia4 (1000) 25 (v80)) 1035 = Ia4 1035 from by funext zz; simp [u2_v])) ((show (u2 Ia4 (1000) 25 (v80)) 1036 = Ia4 1036 from by funext zz; simp [u2_v])) (by omega) (by omega)
              have pw91 : (I89 (1000) 24).toInt = (Ia4 (1000) 24 : Int32).toInt := congrArg Int32.toInt (((hkI89.get (1000) 24 rfl)).trans (show (u2 Ia4 (1000) 25 (v80)) (1000) 24 = Ia4 (1000) 24 from by simp [u2_v]))
              have pw92 : (I89 (1000) 27).toInt = (Ia4 (1000) 27 : Int32).toInt := congrArg Int32.toInt (((hkI89.get (1000) 27 rfl)).trans (show (u2 Ia4 (1000) 25 (v80)) (1000) 27 = Ia4 (1000) 27 from by simp [u2_v]))
              have pw93 : (I89 (1000) 32).toInt = (Ia4 (1000) 32 : Int32).toInt := congrArg Int32.toInt (((hkI89.get (1000) 32 rfl)).trans (show (u2 Ia4 (1000) 25 (v80)) (1000) 32 = Ia4 (1000) 32 from by simp [u2_v]))
              have g94 := hI0.get 1000 27 (lo := 0) (hi := 5) rfl
              have g95 := hI0.get 1000 29 (lo := 0) (hi := 300) rfl
              have hC := hC.comp ((xI89.2.2.2.2.2).mono0 (1)) (by omega) (by omega) (by omega) (by omega) (by omega)
              refine lv_aload_n hx hb dX10_sum_58 rfl (lv_at hl 1 rfl) ?_
              refine lv_iload_n hx hb dX10_sum_59 rfl (lv_at hl 0 rfl) ?_
              refine lv_iconst (v := (0)) hx hb dX10_sum_60 (by decide) ?_
              refine m_callv (m_runV (1000) (As := [.int (3), .int (0)]) (rest := []) hx hb hml hown hts hE hM hS hA ce_X10_entry tb_1552 (V_X10_entry l D A ad ns I89 L90 G (3) (0) hJ hI (by omega)) rfl rfl ⟨Nat.le_of_ble_eq_true rfl, Nat.le_of_ble_eq_true rfl⟩ hJ.1 rfl rfl (by decide) rfl hl.1 rfl (Nat.le_of_ble_eq_true rfl) dX10_sum_61 ⟨Nat.le_of_ble_eq_true rfl, Nat.le_of_ble_eq_true rfl⟩) hS (fun u H locs hw hM hS => ?_)
              obtain ⟨I96, L97, rfl, hI, hkI96, xI96⟩ := hw
              have hM : Mem D A ad ns I96 L97 G H := hM
              have hK := hK.trans hkI96 rfl
              have pw98 : (I96 (1000) 24).toInt = (Ia4 (1000) 24 : Int32).toInt := congrArg Int32.toInt ((((hkI96.get (1000) 24 rfl)).trans (hkI89.get (1000) 24 rfl)).trans (show (u2 Ia4 (1000) 25 (v80)) (1000) 24 = Ia4 (1000) 24 from by simp [u2_v]))
              have pw99 : (I96 (1000) 25).toInt = (I89 (1000) 25 : Int32).toInt := congrArg Int32.toInt ((hkI96.get (1000) 25 rfl))
              have pw100 : (I96 (1000) 26).toInt = (I89 (1000) 26 : Int32).toInt := congrArg Int32.toInt ((hkI96.get (1000) 26 rfl))
              have pw101 : (I96 (1000) 27).toInt = (Ia4 (1000) 27 : Int32).toInt := congrArg Int32.toInt ((((hkI96.get (1000) 27 rfl)).trans (hkI89.get (1000) 27 rfl)).trans (show (u2 Ia4 (1000) 25 (v80)) (1000) 27 = Ia4 (1000) 27 from by simp [u2_v]))
              have pw102 : (I96 (1000) 31).toInt = (I89 (1000) 31 : Int32).toInt := congrArg Int32.toInt ((hkI96.get (1000) 31 rfl))
              have pw103 : (I96 (1000) 32).toInt = (Ia4 (1000) 32 : Int32).toInt := congrArg Int32.toInt ((((hkI96.get (1000) 32 rfl)).trans (hkI89.get (1000) 32 rfl)).trans (show (u2 Ia4 (1000) 25 (v80)) (1000) 32 = Ia4 (1000) 32 from by simp [u2_v]))
              have g104 := hI0.get 1000 27 (lo := 0) (hi := 5) rfl
              have g105 := hI0.get 1000 29 (lo := 0) (hi := 300) rfl
              have hC := hC.comp (n2 := 1) (xI96.2.2.ct (by omega) (by omega) (by omega) (by omega)) (by omega) (by omega) (by omega) (by omega) (by omega)
              refine lv_goto (tgt := 4) hx hb dX10_sum_64 (by decide) ?_
              exact ih4  I96 L97 _ _ ls hI hK (by omega) (by simpa using hC) (by omega) hM hS (lv_sub hl [1] rfl)
            · have hc78 := c78
              have q78 := q_eq hc78
              refine lv_iconst (v := (2)) hx hb dX10_sum_38 (by decide) ?_
              refine lv_goto (tgt := 43) hx hb dX10_sum_39 (by decide) ?_
              refine lv_istore_n (lv' := [(1, .int (2)), (0, .ref (ad (1000)))]) hx hb dX10_sum_43 rfl hl (by decide) rfl (fun ls hl => ?_)
              refine lv_aload_n hx hb dX10_sum_44 rfl (lv_at hl 1 rfl) ?_
              refine lv_dup hx hb dX10_sum_45 rfl ?_
              refine m_geti (1000) 25 hx hb hts hown hE oc10 hM hJ.1 rfl (by decide) rfl tb_1202 dX10_sum_46 ?_
              have g106 := hI.get (1000) 25 (lo := 0) (hi := 100000) rfl
              refine lv_iconst (v := (1)) hx hb dX10_sum_49 (by decide) ?_
              refine lv_iadd hx hb dX10_sum_50 ?_
              refine lv_topi (fun v107 ev107 => ?_)
              have tv107 := a_add ev107 (by omega) (by omega)
              refine m_puti (1000) 25 hx hb hts hown hE oc10 hM hS hJ.1 rfl (by decide) rfl rfl rfl rfl tb_1202 dX10_sum_51 (fun H locs I108 eI108 hM hS => ?_)
              subst eI108
              have hI := hI.put (n := 1000) (k := 25) (v := v107) (lo := 0) (hi := 100000) rfl (by first | omega | decide)
              have hK := hK.put (n := 1000) (k := 25) (v := v107) (by first | rfl | simp [inR])
              refine lv_aload_n hx hb dX10_sum_54 rfl (lv_at hl 1 rfl) ?_
              have pw109 : ((u2 Ia4 (1000) 25 (v107)) (1000) 24).toInt = (Ia4 (1000) 24 : Int32).toInt := congrArg Int32.toInt ((show (u2 Ia4 (1000) 25 (v107)) (1000) 24 = Ia4 (1000) 24 from by simp [u2_v]))
              have pw110 : ((u2 Ia4 (1000) 25 (v107)) (1000) 25).toInt = (v107 : Int32).toInt := congrArg Int32.toInt ((show (u2 Ia4 (1000) 25 (v107)) (1000) 25 = v107 from by simp [u2_v]))
              have pw111 : ((u2 Ia4 (1000) 25 (v107)) (1000) 26).toInt = (Ia4 (1000) 26 : Int32).toInt := congrArg Int32.toInt ((show (u2 Ia4 (1000) 25 (v107)) (1000) 26 = Ia4 (1000) 26 from by simp [u2_v]))
              have pw112 : ((u2 Ia4 (1000) 25 (v107)) (1000) 27).toInt = (Ia4 (1000) 27 : Int32).toInt := congrArg Int32.toInt ((show (u2 Ia4 (1000) 25 (v107)) (1000) 27 = Ia4 (1000) 27 from by simp [u2_v]))
              have pw113 : ((u2 Ia4 (1000) 25 (v107)) (1000) 29).toInt = (Ia4 (1000) 29 : Int32).toInt := congrArg Int32.toInt ((show (u2 Ia4 (1000) 25 (v107)) (1000) 29 = Ia4 (1000) 29 from by simp [u2_v]))
              have pw114 : ((u2 Ia4 (1000) 25 (v107)) (1000) 31).toInt = (Ia4 (1000) 31 : Int32).toInt := congrArg Int32.toInt ((show (u2 Ia4 (1000) 25 (v107)) (1000) 31 = Ia4 (1000) 31 from by simp [u2_v]))
              have pw115 : ((u2 Ia4 (1000) 25 (v107)) (1000) 32).toInt = (Ia4 (1000) 32 : Int32).toInt := congrArg Int32.toInt ((show (u2 Ia4 (1000) 25 (v107)) (1000) 32 = Ia4 (1000) 32 from by simp [u2_v]))
              refine m_callv (m_runV (1000) (As := []) (rest := []) hx hb hml hown hts hE hM hS hA ce_X10_term tb_1539 (V_X10_term l D A ad ns (u2 Ia4 (1000) 25 (v107)) La4 G hJ hI (by omega)) rfl rfl ⟨Nat.le_of_ble_eq_true rfl, Nat.le_of_ble_eq_true rfl⟩ hJ.1 rfl rfl (by decide) rfl hl.1 rfl (Nat.le_of_ble_eq_true rfl) dX10_sum_55 ⟨Nat.le_of_ble_eq_true rfl, Nat.le_of_ble_eq_true rfl⟩) hS (fun u H locs hw hM hS => ?_)
              obtain ⟨I116, L117, rfl, hI, hkI116, xI116⟩ := hw
              have hM : Mem D A ad ns I116 L117 G H := hM
              have hK := hK.trans hkI116 rfl
              have hC := CT.link (I2 := (u2 Ia4 (1000) 25 (v107))) hC ((show (u2 Ia4 (1000) 25 (v107)) 1035 = Ia4 1035 from by funext zz; simp [u2_v])) ((show (u2 Ia4 (1000) 25 (v107)) 1036 = Ia4 1036 from by funext zz; simp [u2_v])) (by omega) (by omega)
              have pw118 : (I116 (1000) 24).toInt = (Ia4 (1000) 24 : Int32).toInt := congrArg Int32.toInt (((hkI116.get (1000) 24 rfl)).trans (show (u2 Ia4 (1000) 25 (v107)) (1000) 24 = Ia4 (1000) 24 from by simp [u2_v]))
              have pw119 : (I116 (1000) 27).toInt = (Ia4 (1000) 27 : Int32).toInt := congrArg Int32.toInt (((hkI116.get (1000) 27 rfl)).trans (show (u2 Ia4 (1000) 25 (v107)) (1000) 27 = Ia4 (1000) 27 from by simp [u2_v]))
              have pw120 : (I116 (1000) 32).toInt = (Ia4 (1000) 32 : Int32).toInt := congrArg Int32.toInt (((hkI116.get (1000) 32 rfl)).trans (show (u2 Ia4 (1000) 25 (v107)) (1000) 32 = Ia4 (1000) 32 from by simp [u2_v]))
              have g121 := hI0.get 1000 27 (lo := 0) (hi := 5) rfl
              have g122 := hI0.get 1000 29 (lo := 0) (hi := 300) rfl
              have hC := hC.comp ((xI116.2.2.2.2.2).mono0 (1)) (by omega) (by omega) (by omega) (by omega) (by omega)
              refine lv_aload_n hx hb dX10_sum_58 rfl (lv_at hl 1 rfl) ?_
              refine lv_iload_n hx hb dX10_sum_59 rfl (lv_at hl 0 rfl) ?_
              refine lv_iconst (v := (0)) hx hb dX10_sum_60 (by decide) ?_
              refine m_callv (m_runV (1000) (As := [.int (2), .int (0)]) (rest := []) hx hb hml hown hts hE hM hS hA ce_X10_entry tb_1552 (V_X10_entry l D A ad ns I116 L117 G (2) (0) hJ hI (by omega)) rfl rfl ⟨Nat.le_of_ble_eq_true rfl, Nat.le_of_ble_eq_true rfl⟩ hJ.1 rfl rfl (by decide) rfl hl.1 rfl (Nat.le_of_ble_eq_true rfl) dX10_sum_61 ⟨Nat.le_of_ble_eq_true rfl, Nat.le_of_ble_eq_true rfl⟩) hS (fun u H locs hw hM hS => ?_)
              obtain ⟨I123, L124, rfl, hI, hkI123, xI123⟩ := hw
              have hM : Mem D A ad ns I123 L124 G H := hM
              have hK := hK.trans hkI123 rfl
              have pw125 : (I123 (1000) 24).toInt = (Ia4 (1000) 24 : Int32).toInt := congrArg Int32.toInt ((((hkI123.get (1000) 24 rfl)).trans (hkI116.get (1000) 24 rfl)).trans (show (u2 Ia4 (1000) 25 (v107)) (1000) 24 = Ia4 (1000) 24 from by simp [u2_v]))
              have pw126 : (I123 (1000) 25).toInt = (I116 (1000) 25 : Int32).toInt := congrArg Int32.toInt ((hkI123.get (1000) 25 rfl))
              have pw127 : (I123 (1000) 26).toInt = (I116 (1000) 26 : Int32).toInt := congrArg Int32.toInt ((hkI123.get (1000) 26 rfl))
              have pw128 : (I123 (1000) 27).toInt = (Ia4 (1000) 27 : Int32).toInt := congrArg Int32.toInt ((((hkI123.get (1000) 27 rfl)).trans (hkI116.get (1000) 27 rfl)).trans (show (u2 Ia4 (1000) 25 (v107)) (1000) 27 = Ia4 (1000) 27 from by simp [u2_v]))
              have pw129 : (I123 (1000) 31).toInt = (I116 (1000) 31 : Int32).toInt := congrArg Int32.toInt ((hkI123.get (1000) 31 rfl))
              have pw130 : (I123 (1000) 32).toInt = (Ia4 (1000) 32 : Int32).toInt := congrArg Int32.toInt ((((hkI123.get (1000) 32 rfl)).trans (hkI116.get (1000) 32 rfl)).trans (show (u2 Ia4 (1000) 25 (v107)) (1000) 32 = Ia4 (1000) 32 from by simp [u2_v]))
              have g131 := hI0.get 1000 27 (lo := 0) (hi := 5) rfl
              have g132 := hI0.get 1000 29 (lo := 0) (hi := 300) rfl
              have hC := hC.comp (n2 := 1) (xI123.2.2.ct (by omega) (by omega) (by omega) (by omega)) (by omega) (by omega) (by omega) (by omega) (by omega)
              refine lv_goto (tgt := 4) hx hb dX10_sum_64 (by decide) ?_
              exact ih4  I123 L124 _ _ ls hI hK (by omega) (by simpa using hC) (by omega) hM hS (lv_sub hl [1] rfl)
  exact loop4 (_ + 1)  I1 L2 _ _ ls hI hK (by omega) (by simpa using hC) (Nat.lt_succ_self _) hM hS (lv_sub hl [0] rfl)
