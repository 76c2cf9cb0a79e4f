theorem dX10_fact_0 : decode cX10_fact 0 = .ok (.aload_n 0, 1) := by decide +kernel
theorem dX10_fact_1 : decode cX10_fact 1 = .ok (.invokevirtual 287, 3) := by decide +kernel
theorem dX10_fact_4 : decode cX10_fact 4 = .ok (.aload_n 0, 1) := by decide +kernel
theorem dX10_fact_5 : decode cX10_fact 5 = .ok (.ldc_w 343, 3) := by decide +kernel
theorem dX10_fact_8 : decode cX10_fact 8 = .ok (.invokevirtual 290, 3) := by decide +kernel
theorem dX10_fact_11 : decode cX10_fact 11 = .ok (.ifCond .eq 21, 3) := by decide +kernel
theorem dX10_fact_14 : decode cX10_fact 14 = .ok (.aload_n 0, 1) := by decide +kernel
theorem dX10_fact_15 : decode cX10_fact 15 = .ok (.bipush 9, 2) := by decide +kernel
theorem dX10_fact_17 : decode cX10_fact 17 = .ok (.invokevirtual 345, 3) := by decide +kernel
theorem dX10_fact_20 : decode cX10_fact 20 = .ok (.aload_n 0, 1) := by decide +kernel
theorem dX10_fact_21 : decode cX10_fact 21 = .ok (.dup, 1) := by decide +kernel
theorem dX10_fact_22 : decode cX10_fact 22 = .ok (.getfield 267, 3) := by decide +kernel
theorem dX10_fact_25 : decode cX10_fact 25 = .ok (.iconst 3, 1) := by decide +kernel
theorem dX10_fact_26 : decode cX10_fact 26 = .ok (.iadd, 1) := by decide +kernel
theorem dX10_fact_27 : decode cX10_fact 27 = .ok (.putfield 267, 3) := by decide +kernel
theorem dX10_fact_30 : decode cX10_fact 30 = .ok (.iconst 0, 1) := by decide +kernel
theorem dX10_fact_31 : decode cX10_fact 31 = .ok (.ireturn, 1) := by decide +kernel
theorem dX10_fact_32 : decode cX10_fact 32 = .ok (.aload_n 0, 1) := by decide +kernel
theorem dX10_fact_33 : decode cX10_fact 33 = .ok (.invokevirtual 270, 3) := by decide +kernel
theorem dX10_fact_36 : decode cX10_fact 36 = .ok (.bipush 91, 2) := by decide +kernel
theorem dX10_fact_38 : decode cX10_fact 38 = .ok (.if_icmp .ne 21, 3) := by decide +kernel
theorem dX10_fact_41 : decode cX10_fact 41 = .ok (.aload_n 0, 1) := by decide +kernel
theorem dX10_fact_42 : decode cX10_fact 42 = .ok (.bipush 12, 2) := by decide +kernel
theorem dX10_fact_44 : decode cX10_fact 44 = .ok (.invokevirtual 345, 3) := by decide +kernel
theorem dX10_fact_47 : decode cX10_fact 47 = .ok (.aload_n 0, 1) := by decide +kernel
theorem dX10_fact_48 : decode cX10_fact 48 = .ok (.dup, 1) := by decide +kernel
theorem dX10_fact_49 : decode cX10_fact 49 = .ok (.getfield 267, 3) := by decide +kernel
theorem dX10_fact_52 : decode cX10_fact 52 = .ok (.iconst 1, 1) := by decide +kernel
theorem dX10_fact_53 : decode cX10_fact 53 = .ok (.iadd, 1) := by decide +kernel
theorem dX10_fact_54 : decode cX10_fact 54 = .ok (.putfield 267, 3) := by decide +kernel
theorem dX10_fact_57 : decode cX10_fact 57 = .ok (.iconst 0, 1) := by decide +kernel
theorem dX10_fact_58 : decode cX10_fact 58 = .ok (.ireturn, 1) := by decide +kernel
theorem dX10_fact_59 : decode cX10_fact 59 = .ok (.aload_n 0, 1) := by decide +kernel
theorem dX10_fact_60 : decode cX10_fact 60 = .ok (.invokevirtual 348, 3) := by decide +kernel
theorem dX10_fact_63 : decode cX10_fact 63 = .ok (.iconst 1, 1) := by decide +kernel
theorem dX10_fact_64 : decode cX10_fact 64 = .ok (.ireturn, 1) := by decide +kernel
theorem ce_X10_fact : CeV RX10 yX10_fact cX10_fact 1 (some .boolean) 0 := ⟨tb_1583, tp_75, tb_11, tb_1584, rfl, by decide, by decide, by decide +kernel⟩
set_option maxHeartbeats 4000000 in
set_option maxRecDepth 20000 in
theorem V_X10_fact (l : Launch) (D : va_G) (A : Nat → Prop) (ad : Nat → Nat) (ns : List Nat) (I : MI) (L : ML) (G : MG) (hJ : SGM ns G) (hI : INV I) (hp : (I 1000 25).toInt ≤ 400) (hPN : Imp ((I 1000 26).toInt = 0) (0 ≤ (I 1000 31).toInt ∧ (I 1000 31).toInt ≤ 60 ∧ 3 * (I 1000 29).toInt + 3 * (NS I : Int) ≤ 6 * (I 1000 31).toInt + (I 1000 25).toInt)) (ho : (I 1000 32).toInt ≤ (I 1000 25).toInt) : Met l yX10_fact (wd yX10_fact cX10_fact 1 (some .boolean)) ({ frames := 9, cells := 0, slots := 0, locals := 195 }) (va_Pc [.ref (ad (1000))] (PM D A ad ns I L G)) (va_Qi (fun r u => ∃ I2 L2, u = (ad, ns, I2, L2, G) ∧ INV I2 ∧ Kp [(1035, 1037), (1042, 1043)] [(1000, 25), (1000, 26), (1000, 29), (1000, 30), (1000, 31), (1000, 32)] I I2 ∧ (0 ≤ r.toInt ∧ r.toInt ≤ 1 ∧ (I 1000 25).toInt ≤ (I2 1000 25).toInt ∧ (I2 1000 25).toInt ≤ 400 ∧ (I 1000 29).toInt ≤ (I2 1000 29).toInt ∧ (I2 1000 32).toInt ≤ (I2 1000 25).toInt ∧ (I 1000 25).toInt + 1 ≤ (I2 1000 25).toInt + r.toInt ∧ Imp ((I2 1000 26).toInt = 0) ((I 1000 26).toInt = 0 ∧ 0 ≤ (I2 1000 31).toInt ∧ (I2 1000 31).toInt ≤ 60 ∧ 3 * (I2 1000 29).toInt + 3 * (NS I2 : Int) + 9 * r.toInt ≤ 6 * (I2 1000 31).toInt + (I2 1000 25).toInt) ∧ Imp (r.toInt = 0) (CT I I2 (NB I) (NB I2)) ∧ Imp (r.toInt = 1) (CT I I2 (NB I) (NB I2 + 1)))) (BM D A) A) 0 0 A := by
  refine m_ofW (by decide) (Nat.le_of_ble_eq_true rfl) ?_
  intro p e s m below meth c ls args hC hE hM hA hS hl
  obtain ⟨hx, hb, hml, hown, hts, hr, hlocks, hin⟩ := hC
  have k0 : (0 : Int32).toInt = 0 := by decide
  have k1 : (1 : Int32).toInt = 1 := by decide
  have k3 : (3 : Int32).toInt = 3 := by decide
  have k9 : (9 : Int32).toInt = 9 := by decide
  have k12 : (12 : Int32).toInt = 12 := by decide
  have k91 : (91 : Int32).toInt = 91 := by decide
  have hC := CT.rf I (NB I)
  have hI0 := hI
  have gO0 := hI.get 1000 32 (lo := 0) (hi := 402) rfl
  have hK : Kp [(1035, 1037), (1042, 1043)] [(1000, 25), (1000, 26), (1000, 29), (1000, 30), (1000, 31), (1000, 32)] I I := Kp.rf
  have hl : lv_has ls 1 [(0, .ref (ad (1000)))] := hl
  refine lv_aload_n hx hb dX10_fact_0 rfl (lv_at hl 0 rfl) ?_
  refine m_callv (m_runV (1000) (As := []) (rest := []) hx hb hml hown hts hE hM hS hA ce_X10_blanks tb_1506 (V_X10_blanks l D A ad ns I L G hJ hI (by omega)) rfl rfl ⟨Nat.le_of_ble_eq_true rfl, Nat.le_of_ble_eq_true rfl⟩ hJ.1 rfl rfl (by decide) rfl hl.1 rfl (Nat.le_of_ble_eq_true rfl) dX10_fact_1 ⟨Nat.le_of_ble_eq_true rfl, Nat.le_of_ble_eq_true rfl⟩) hS (fun u H locs hw hM hS => ?_)
  obtain ⟨I1, L2, rfl, hI, hkI1, xI1⟩ := hw
  have hM : Mem D A ad ns I1 L2 G H := hM
  have hK := hK.trans hkI1 rfl
  have pw3 : (I1 (1000) 24).toInt = (I (1000) 24 : Int32).toInt := congrArg Int32.toInt ((hkI1.get (1000) 24 rfl))
  have pw4 : (I1 (1000) 26).toInt = (I (1000) 26 : Int32).toInt := congrArg Int32.toInt ((hkI1.get (1000) 26 rfl))
  have pw5 : (I1 (1000) 27).toInt = (I (1000) 27 : Int32).toInt := congrArg Int32.toInt ((hkI1.get (1000) 27 rfl))
  have pw6 : (I1 (1000) 29).toInt = (I (1000) 29 : Int32).toInt := congrArg Int32.toInt ((hkI1.get (1000) 29 rfl))
  have pw7 : (I1 (1000) 31).toInt = (I (1000) 31 : Int32).toInt := congrArg Int32.toInt ((hkI1.get (1000) 31 rfl))
  have pw8 : (I1 (1000) 32).toInt = (I (1000) 32 : Int32).toInt := congrArg Int32.toInt ((hkI1.get (1000) 32 rfl))
  refine lv_aload_n hx hb dX10_fact_4 rfl (lv_at hl 0 rfl) ?_
  refine m_ldcwS hx hb hown (EV.str hE 25 rfl).1 dX10_fact_5 ?_
  refine m_calli (m_runV (1000) (As := [.ref (D.2 100 25)]) (rest := []) hx hb hml hown hts hE hM hS hA ce_X10_stands tb_1515 (V_X10_stands l D A ad ns I1 L2 G 25 _ hJ hI rfl (by decide) (by decide)) rfl rfl ⟨Nat.le_of_ble_eq_true rfl, Nat.le_of_ble_eq_true rfl⟩ hJ.1 rfl rfl (by decide) rfl hl.1 rfl (Nat.le_of_ble_eq_true rfl) dX10_fact_8 ⟨Nat.le_of_ble_eq_true rfl, Nat.le_of_ble_eq_true rfl⟩) hS (fun r9 u H locs hw hM hS => ?_)
  obtain ⟨rfl, xr9⟩ := hw
  have hM : Mem D A ad ns I1 L2 G H := hM
  have g10 := hI.get 1000 24 (lo := 0) (hi := 400) rfl
  have g11 := hI.get 1000 25 (lo := 0) (hi := 100000) rfl
  have slr9 : Imp ((r9).toInt ≠ 0) ((I1 (1000) 25).toInt + 3 ≤ (I1 (1000) 24).toInt) := xr9.2.2
  refine lv_if_eq (tgt := 32) hx hb dX10_fact_11 (by decide) (fun c12 => ?_) (fun c12 => ?_)
  · have hc12 := c12
    have q12 := q_eq hc12
    refine lv_aload_n hx hb dX10_fact_32 rfl (lv_at hl 0 rfl) ?_
    refine m_calli (m_runV (1000) (As := []) (rest := []) hx hb hml hown hts hE hM hS hA ce_X10_sign tb_1510 (V_X10_sign l D A ad ns I1 L2 G hJ hI) rfl rfl ⟨Nat.le_of_ble_eq_true rfl, Nat.le_of_ble_eq_true rfl⟩ hJ.1 rfl rfl (by decide) rfl hl.1 rfl (Nat.le_of_ble_eq_true rfl) dX10_fact_33 ⟨Nat.le_of_ble_eq_true rfl, Nat.le_of_ble_eq_true rfl⟩) hS (fun r13 u H locs hw hM hS => ?_)
    obtain ⟨rfl, xr13⟩ := hw
    have hM : Mem D A ad ns I1 L2 G H := hM
    have g14 := hI.get 1000 24 (lo := 0) (hi := 400) rfl
    have g15 := hI.get 1000 25 (lo := 0) (hi := 100000) rfl
    refine lv_bipush (v := (91)) hx hb dX10_fact_36 (by decide) ?_
    refine lv_icmp_ne (tgt := 59) hx hb dX10_fact_38 (by decide) (fun c16 => ?_) (fun c16 => ?_)
    · have hc16 := c16
      have q16 := q_ne hc16
      refine lv_aload_n hx hb dX10_fact_59 rfl (lv_at hl 0 rfl) ?_
      refine m_callv (m_runV (1000) (As := []) (rest := []) hx hb hml hown hts hE hM hS hA ce_X10_compared tb_1590 (V_X10_compared l D A ad ns I1 L2 G hJ hI (by omega) (fun hz => by have w0 := hPN (by omega); omega)) rfl rfl ⟨Nat.le_of_ble_eq_true rfl, Nat.le_of_ble_eq_true rfl⟩ hJ.1 rfl rfl (by decide) rfl hl.1 rfl (Nat.le_of_ble_eq_true rfl) dX10_fact_60 ⟨Nat.le_of_ble_eq_true rfl, Nat.le_of_ble_eq_true rfl⟩) hS (fun u H locs hw hM hS => ?_)
      obtain ⟨I17, L18, rfl, hI, hkI17, xI17⟩ := hw
      have hM : Mem D A ad ns I17 L18 G H := hM
      have hK := hK.trans hkI17 rfl
      replace hC := CT.link (I2 := I1) hC ((hkI1.getA 1035 rfl)) ((hkI1.getA 1036 rfl)) (by omega) (fun hz => by have w0 := hPN (by omega); omega)
      have pw19 : (I17 (1000) 24).toInt = (I (1000) 24 : Int32).toInt := congrArg Int32.toInt (((hkI17.get (1000) 24 rfl)).trans (hkI1.get (1000) 24 rfl))
      have pw20 : (I17 (1000) 27).toInt = (I (1000) 27 : Int32).toInt := congrArg Int32.toInt (((hkI17.get (1000) 27 rfl)).trans (hkI1.get (1000) 27 rfl))
      have pw21 : (I17 (1000) 32).toInt = (I (1000) 32 : Int32).toInt := congrArg Int32.toInt (((hkI17.get (1000) 32 rfl)).trans (hkI1.get (1000) 32 rfl))
      have g22 := hI0.get 1000 27 (lo := 0) (hi := 5) rfl
      have g23 := hI0.get 1000 29 (lo := 0) (hi := 300) rfl
      replace hC := hC.comp ((xI17.2.2.2.2).mono0 (NB I)) (by omega) (by omega) (by omega) (by omega) (fun hz => (xI17.2.2.2.1 hz).1)
      refine lv_iconst (v := (1)) hx hb dX10_fact_63 (by decide) ?_
      have nn24 := NS_of (I2 := I17) (I := I) (((hkI17.getA 1042 rfl)).trans (hkI1.getA 1042 rfl)) (by omega)
      have gO := hI.get 1000 32 (lo := 0) (hi := 402) rfl
      exact m_zret hx hb hr rfl hlocks hM hS (Nat.le_of_ble_eq_true rfl) (Nat.le_of_ble_eq_true rfl) ⟨_, _, rfl, hI, hK, ⟨by omega, by omega, by omega, by omega, by omega, by omega, by omega, (fun hz => by have w0 := xI17.2.2.2.1 (by omega); have w1 := hPN (by omega); omega), fun h => absurd h (by decide), fun _ => (by rw [show NB I17 + 1 = 1 + NB I from by omega]; exact hC)⟩⟩ dX10_fact_64
    · have hc16 := c16
      have q16 := q_eq hc16
      have sg25 := xr13.2.2 (by omega)
      refine lv_aload_n hx hb dX10_fact_41 rfl (lv_at hl 0 rfl) ?_
      refine lv_bipush (v := (12)) hx hb dX10_fact_42 (by decide) ?_
      refine m_callv (m_runV (1000) (As := [.int (12)]) (rest := []) hx hb hml hown hts hE hM hS hA ce_X10_opens tb_1586 (V_X10_opens l D A ad ns I1 L2 G (12) hJ hI (by first | omega | decide) (by omega)) rfl rfl ⟨Nat.le_of_ble_eq_true rfl, Nat.le_of_ble_eq_true rfl⟩ hJ.1 rfl rfl (by decide) rfl hl.1 rfl (Nat.le_of_ble_eq_true rfl) dX10_fact_44 ⟨Nat.le_of_ble_eq_true rfl, Nat.le_of_ble_eq_true rfl⟩) hS (fun u H locs hw hM hS => ?_)
      obtain ⟨I26, L27, rfl, hI, hkI26, xI26⟩ := hw
      have hM : Mem D A ad ns I26 L27 G H := hM
      have hK := hK.trans hkI26 rfl
      have g28 := hI.get 1000 32 (lo := 0) (hi := 402) rfl
      have nn29 := NS_of (I2 := I1) (I := I) ((hkI1.getA 1042 rfl)) (by omega)
      have pw30 : (I26 (1000) 24).toInt = (I (1000) 24 : Int32).toInt := congrArg Int32.toInt (((hkI26.get (1000) 24 rfl)).trans (hkI1.get (1000) 24 rfl))
      have pw31 : (I26 (1000) 25).toInt = (I1 (1000) 25 : Int32).toInt := congrArg Int32.toInt ((hkI26.get (1000) 25 rfl))
      have pw32 : (I26 (1000) 27).toInt = (I (1000) 27 : Int32).toInt := congrArg Int32.toInt (((hkI26.get (1000) 27 rfl)).trans (hkI1.get (1000) 27 rfl))
      have pw33 : (I26 (1000) 29).toInt = (I (1000) 29 : Int32).toInt := congrArg Int32.toInt (((hkI26.get (1000) 29 rfl)).trans (hkI1.get (1000) 29 rfl))
      have pw34 : (I26 (1000) 31).toInt = (I (1000) 31 : Int32).toInt := congrArg Int32.toInt (((hkI26.get (1000) 31 rfl)).trans (hkI1.get (1000) 31 rfl))
      have pv35 : pN 12 = 0 ∧ pB 12 = 0 := by decide
      have po36 := xI26.2
      refine lv_aload_n hx hb dX10_fact_47 rfl (lv_at hl 0 rfl) ?_
      refine lv_dup hx hb dX10_fact_48 rfl ?_
      refine m_geti (1000) 25 hx hb hts hown hE oc10 hM hJ.1 rfl (by decide) rfl tb_1202 dX10_fact_49 ?_
      have g37 := hI.get (1000) 25 (lo := 0) (hi := 100000) rfl
      have z38 : I26 (1000) 25 = I1 (1000) 25 := (hkI26.get (1000) 25 rfl)
      rw [z38] at g37 ⊢
      refine lv_iconst (v := (1)) hx hb dX10_fact_52 (by decide) ?_
      refine lv_iadd hx hb dX10_fact_53 ?_
      refine lv_topi (fun v39 ev39 => ?_)
      have tv39 := a_add ev39 (by omega) (by omega)
      refine m_puti (1000) 25 hx hb hts hown hE oc10 hM hS hJ.1 rfl (by decide) rfl rfl rfl rfl tb_1202 dX10_fact_54 (fun H locs I40 eI40 hM hS => ?_)
      subst eI40
      have hI := hI.put (n := 1000) (k := 25) (v := v39) (lo := 0) (hi := 100000) rfl (by first | omega | decide)
      have hK := hK.put (n := 1000) (k := 25) (v := v39) (by first | rfl | simp [inR])
      refine lv_iconst (v := (0)) hx hb dX10_fact_57 (by decide) ?_
      have pw41 : ((u2 I26 (1000) 25 (v39)) (1000) 24).toInt = (I (1000) 24 : Int32).toInt := congrArg Int32.toInt ((((show (u2 I26 (1000) 25 (v39)) (1000) 24 = I26 (1000) 24 from by simp [u2_v])).trans (hkI26.get (1000) 24 rfl)).trans (hkI1.get (1000) 24 rfl))
      have pw42 : ((u2 I26 (1000) 25 (v39)) (1000) 25).toInt = (v39 : Int32).toInt := congrArg Int32.toInt ((show (u2 I26 (1000) 25 (v39)) (1000) 25 = v39 from by simp [u2_v]))
      have pw43 : ((u2 I26 (1000) 25 (v39)) (1000) 26).toInt = (I26 (1000) 26 : Int32).toInt := congrArg Int32.toInt ((show (u2 I26 (1000) 25 (v39)) (1000) 26 = I26 (1000) 26 from by simp [u2_v]))
      have pw44 : ((u2 I26 (1000) 25 (v39)) (1000) 27).toInt = (I (1000) 27 : Int32).toInt := congrArg Int32.toInt ((((show (u2 I26 (1000) 25 (v39)) (1000) 27 = I26 (1000) 27 from by simp [u2_v])).trans (hkI26.get (1000) 27 rfl)).trans (hkI1.get (1000) 27 rfl))
      have pw45 : ((u2 I26 (1000) 25 (v39)) (1000) 29).toInt = (I (1000) 29 : Int32).toInt := congrArg Int32.toInt ((((show (u2 I26 (1000) 25 (v39)) (1000) 29 = I26 (1000) 29 from by simp [u2_v])).trans (hkI26.get (1000) 29 rfl)).trans (hkI1.get (1000) 29 rfl))
      have pw46 : ((u2 I26 (1000) 25 (v39)) (1000) 31).toInt = (I (1000) 31 : Int32).toInt := congrArg Int32.toInt ((((show (u2 I26 (1000) 25 (v39)) (1000) 31 = I26 (1000) 31 from by simp [u2_v])).trans (hkI26.get (1000) 31 rfl)).trans (hkI1.get (1000) 31 rfl))
      have pw47 : ((u2 I26 (1000) 25 (v39)) (1000) 32).toInt = (I26 (1000) 32 : Int32).toInt := congrArg Int32.toInt ((show (u2 I26 (1000) 25 (v39)) (1000) 32 = I26 (1000) 32 from by simp [u2_v]))
      replace hC := CT.link (I2 := (u2 I26 (1000) 25 (v39))) hC ((((show (u2 I26 (1000) 25 (v39)) 1035 = I26 1035 from by funext zz; simp [u2_v])).trans (hkI26.getA 1035 rfl)).trans (hkI1.getA 1035 rfl)) ((((show (u2 I26 (1000) 25 (v39)) 1036 = I26 1036 from by funext zz; simp [u2_v])).trans (hkI26.getA 1036 rfl)).trans (hkI1.getA 1036 rfl)) (by omega) (fun hz => by have w0 := xI26.1 (by omega); have w1 := hPN (by omega); omega)
      have nn48 := NS_of (I2 := (u2 I26 (1000) 25 (v39))) (I := I26) ((show (u2 I26 (1000) 25 (v39)) 1042 = I26 1042 from by funext zz; simp [u2_v])) (by omega)
      have gO := hI.get 1000 32 (lo := 0) (hi := 402) rfl
      exact m_zret hx hb hr rfl hlocks hM hS (Nat.le_of_ble_eq_true rfl) (Nat.le_of_ble_eq_true rfl) ⟨_, _, rfl, hI, hK, ⟨by omega, by omega, by omega, by omega, by omega, by omega, by omega, (fun hz => by have w0 := xI26.1 (by omega); have w1 := hPN (by omega); omega), fun _ => (by rw [show NB (u2 I26 (1000) 25 (v39)) = NB I from by omega]; exact hC), fun h => absurd h (by decide)⟩⟩ dX10_fact_58
  · have hc12 := c12
    have q12 := q_ne hc12
    have sg49 := slr9 (by omega)
    refine lv_aload_n hx hb dX10_fact_14 rfl (lv_at hl 0 rfl) ?_
    refine lv_bipush (v := (9)) hx hb dX10_fact_15 (by decide) ?_
    refine m_callv (m_runV (1000) (As := [.int (9)]) (rest := []) hx hb hml hown hts hE hM hS hA ce_X10_opens tb_1586 (V_X10_opens l D A ad ns I1 L2 G (9) hJ hI (by first | omega | decide) (by omega)) rfl rfl ⟨Nat.le_of_ble_eq_true rfl, Nat.le_of_ble_eq_true rfl⟩ hJ.1 rfl rfl (by decide) rfl hl.1 rfl (Nat.le_of_ble_eq_true rfl) dX10_fact_17 ⟨Nat.le_of_ble_eq_true rfl, Nat.le_of_ble_eq_true rfl⟩) hS (fun u H locs hw hM hS => ?_)
    obtain ⟨I50, L51, rfl, hI, hkI50, xI50⟩ := hw
    have hM : Mem D A ad ns I50 L51 G H := hM
    have hK := hK.trans hkI50 rfl
    have g52 := hI.get 1000 32 (lo := 0) (hi := 402) rfl
    have nn53 := NS_of (I2 := I1) (I := I) ((hkI1.getA 1042 rfl)) (by omega)
    have pw54 : (I50 (1000) 24).toInt = (I (1000) 24 : Int32).toInt := congrArg Int32.toInt (((hkI50.get (1000) 24 rfl)).trans (hkI1.get (1000) 24 rfl))
    have pw55 : (I50 (1000) 25).toInt = (I1 (1000) 25 : Int32).toInt := congrArg Int32.toInt ((hkI50.get (1000) 25 rfl))
    have pw56 : (I50 (1000) 27).toInt = (I (1000) 27 : Int32).toInt := congrArg Int32.toInt (((hkI50.get (1000) 27 rfl)).trans (hkI1.get (1000) 27 rfl))
    have pw57 : (I50 (1000) 29).toInt = (I (1000) 29 : Int32).toInt := congrArg Int32.toInt (((hkI50.get (1000) 29 rfl)).trans (hkI1.get (1000) 29 rfl))
    have pw58 : (I50 (1000) 31).toInt = (I (1000) 31 : Int32).toInt := congrArg Int32.toInt (((hkI50.get (1000) 31 rfl)).trans (hkI1.get (1000) 31 rfl))
    have pv59 : pN 9 = 1 ∧ pB 9 = 0 := by decide
    have po60 := xI50.2
    refine lv_aload_n hx hb dX10_fact_20 rfl (lv_at hl 0 rfl) ?_
    refine lv_dup hx hb dX10_fact_21 rfl ?_
    refine m_geti (1000) 25 hx hb hts hown hE oc10 hM hJ.1 rfl (by decide) rfl tb_1202 dX10_fact_22 ?_
    have g61 := hI.get (1000) 25 (lo := 0) (hi := 100000) rfl
    have z62 : I50 (1000) 25 = I1 (1000) 25 := (hkI50.get (1000) 25 rfl)
    rw [z62] at g61 ⊢
    refine lv_iconst (v := (3)) hx hb dX10_fact_25 (by decide) ?_
    refine lv_iadd hx hb dX10_fact_26 ?_
    refine lv_topi (fun v63 ev63 => ?_)
    have tv63 := a_add ev63 (by omega) (by omega)
    refine m_puti (1000) 25 hx hb hts hown hE oc10 hM hS hJ.1 rfl (by decide) rfl rfl rfl rfl tb_1202 dX10_fact_27 (fun H locs I64 eI64 hM hS => ?_)
    subst eI64
    have hI := hI.put (n := 1000) (k := 25) (v := v63) (lo := 0) (hi := 100000) rfl (by first | omega | decide)
    have hK := hK.put (n := 1000) (k := 25) (v := v63) (by first | rfl | simp [inR])
    refine lv_iconst (v := (0)) hx hb dX10_fact_30 (by decide) ?_
    have pw65 : ((u2 I50 (1000) 25 (v63)) (1000) 24).toInt = (I (1000) 24 : Int32).toInt := congrArg Int32.toInt ((((show (u2 I50 (1000) 25 (v63)) (1000) 24 = I50 (1000) 24 from by simp [u2_v])).trans (hkI50.get (1000) 24 rfl)).trans (hkI1.get (1000) 24 rfl))
    have pw66 : ((u2 I50 (1000) 25 (v63)) (1000) 25).toInt = (v63 : Int32).toInt := congrArg Int32.toInt ((show (u2 I50 (1000) 25 (v63)) (1000) 25 = v63 from by simp [u2_v]))
    have pw67 : ((u2 I50 (1000) 25 (v63)) (1000) 26).toInt = (I50 (1000) 26 : Int32).toInt := congrArg Int32.toInt ((show (u2 I50 (1000) 25 (v63)) (1000) 26 = I50 (1000) 26 from by simp [u2_v]))
    have pw68 : ((u2 I50 (1000) 25 (v63)) (1000) 27).toInt = (I (1000) 27 : Int32).toInt := congrArg Int32.toInt ((((show (u2 I50 (1000) 25 (v63)) (1000) 27 = I50 (1000) 27 from by simp [u2_v])).trans (hkI50.get (1000) 27 rfl)).trans (hkI1.get (1000) 27 rfl))
    have pw69 : ((u2 I50 (1000) 25 (v63)) (1000) 29).toInt = (I (1000) 29 : Int32).toInt := congrArg Int32.toInt ((((show (u2 I50 (1000) 25 (v63)) (1000) 29 = I50 (1000) 29 from by simp [u2_v])).trans (hkI50.get (1000) 29 rfl)).trans (hkI1.get (1000) 29 rfl))
    have pw70 : ((u2 I50 (1000) 25 (v63)) (1000) 31).toInt = (I (1000) 31 : Int32).toInt := congrArg Int32.toInt ((((show (u2 I50 (1000) 25 (v63)) (1000) 31 = I50 (1000) 31 from by simp [u2_v])).trans (hkI50.get (1000) 31 rfl)).trans (hkI1.get (1000) 31 rfl))
    have pw71 : ((u2 I50 (1000) 25 (v63)) (1000) 32).toInt = (I50 (1000) 32 : Int32).toInt := congrArg Int32.toInt ((show (u2 I50 (1000) 25 (v63)) (1000) 32 = I50 (1000) 32 from by simp [u2_v]))
    replace hC := CT.link (I2 := (u2 I50 (1000) 25 (v63))) hC ((((show (u2 I50 (1000) 25 (v63)) 1035 = I50 1035 from by funext zz; simp [u2_v])).trans (hkI50.getA 1035 rfl)).trans (hkI1.getA 1035 rfl)) ((((show (u2 I50 (1000) 25 (v63)) 1036 = I50 1036 from by funext zz; simp [u2_v])).trans (hkI50.getA 1036 rfl)).trans (hkI1.getA 1036 rfl)) (by omega) (fun hz => by have w0 := xI50.1 (by omega); have w1 := hPN (by omega); omega)
    have nn72 := NS_of (I2 := (u2 I50 (1000) 25 (v63))) (I := I50) ((show (u2 I50 (1000) 25 (v63)) 1042 = I50 1042 from by funext zz; simp [u2_v])) (by omega)
    have gO := hI.get 1000 32 (lo := 0) (hi := 402) rfl
    exact m_zret hx hb hr rfl hlocks hM hS (Nat.le_of_ble_eq_true rfl) (Nat.le_of_ble_eq_true rfl) ⟨_, _, rfl, hI, hK, ⟨by omega, by omega, by omega, by omega, by omega, by omega, by omega, (fun hz => by have w0 := xI50.1 (by omega); have w1 := hPN (by omega); omega), fun _ => (by rw [show NB (u2 I50 (1000) 25 (v63)) = NB I from by omega]; exact hC), fun h => absurd h (by decide)⟩⟩ dX10_fact_31
theorem dX10_test_0 : decode cX10_test 0 = .ok (.aload_n 0, 1) := by decide +kernel
theorem dX10_test_1 : decode cX10_test 1 = .ok (.iconst 0, 1) := by decide +kernel
theorem dX10_test_2 : decode cX10_test 2 = .ok (.putfield 334, 3) := by decide +kernel
theorem dX10_test_5 : decode cX10_test 5 = .ok (.iconst 1, 1) := by decide +kernel
theorem dX10_test_6 : decode cX10_test 6 = .ok (.istore_n 1, 1) := by decide +kernel
theorem dX10_test_7 : decode cX10_test 7 = .ok (.iconst 1, 1) := by decide +kernel
theorem dX10_test_8 : decode cX10_test 8 = .ok (.istore_n 2, 1) := by decide +kernel
theorem dX10_test_9 : decode cX10_test 9 = .ok (.iload_n 2, 1) := by decide +kernel
theorem dX10_test_10 : decode cX10_test 10 = .ok (.ifCond .eq 192, 3) := by decide +kernel
theorem dX10_test_13 : decode cX10_test 13 = .ok (.aload_n 0, 1) := by decide +kernel
theorem dX10_test_14 : decode cX10_test 14 = .ok (.getfield 264, 3) := by decide +kernel
theorem dX10_test_17 : decode cX10_test 17 = .ok (.ifCond .ne 185, 3) := by decide +kernel
theorem dX10_test_20 : decode cX10_test 20 = .ok (.iload_n 1, 1) := by decide +kernel
theorem dX10_test_21 : decode cX10_test 21 = .ok (.ifCond .eq 19, 3) := by decide +kernel
theorem dX10_test_24 : decode cX10_test 24 = .ok (.aload_n 0, 1) := by decide +kernel
theorem dX10_test_25 : decode cX10_test 25 = .ok (.invokevirtual 351, 3) := by decide +kernel
theorem dX10_test_28 : decode cX10_test 28 = .ok (.ifCond .ne 7, 3) := by decide +kernel
theorem dX10_test_31 : decode cX10_test 31 = .ok (.iconst 1, 1) := by decide +kernel
theorem dX10_test_32 : decode cX10_test 32 = .ok (.goto 4, 3) := by decide +kernel
theorem dX10_test_35 : decode cX10_test 35 = .ok (.iconst 0, 1) := by decide +kernel
theorem dX10_test_36 : decode cX10_test 36 = .ok (.istore_n 1, 1) := by decide +kernel
theorem dX10_test_37 : decode cX10_test 37 = .ok (.goto (-28), 3) := by decide +kernel
theorem dX10_test_40 : decode cX10_test 40 = .ok (.aload_n 0, 1) := by decide +kernel
theorem dX10_test_41 : decode cX10_test 41 = .ok (.bipush 9, 2) := by decide +kernel
theorem dX10_test_43 : decode cX10_test 43 = .ok (.invokevirtual 354, 3) := by decide +kernel
theorem dX10_test_46 : decode cX10_test 46 = .ok (.aload_n 0, 1) := by decide +kernel
theorem dX10_test_47 : decode cX10_test 47 = .ok (.invokevirtual 287, 3) := by decide +kernel
theorem dX10_test_50 : decode cX10_test 50 = .ok (.aload_n 0, 1) := by decide +kernel
theorem dX10_test_51 : decode cX10_test 51 = .ok (.ldc_w 357, 3) := by decide +kernel
theorem dX10_test_54 : decode cX10_test 54 = .ok (.invokevirtual 290, 3) := by decide +kernel
theorem dX10_test_57 : decode cX10_test 57 = .ok (.istore_n 3, 1) := by decide +kernel
theorem dX10_test_58 : decode cX10_test 58 = .ok (.aload_n 0, 1) := by decide +kernel
theorem dX10_test_59 : decode cX10_test 59 = .ok (.ldc_w 359, 3) := by decide +kernel
theorem dX10_test_62 : decode cX10_test 62 = .ok (.invokevirtual 290, 3) := by decide +kernel
theorem dX10_test_65 : decode cX10_test 65 = .ok (.istore 4, 2) := by decide +kernel
theorem dX10_test_67 : decode cX10_test 67 = .ok (.aload_n 0, 1) := by decide +kernel
theorem dX10_test_68 : decode cX10_test 68 = .ok (.bipush 10, 2) := by decide +kernel
theorem dX10_test_70 : decode cX10_test 70 = .ok (.invokevirtual 354, 3) := by decide +kernel
theorem dX10_test_73 : decode cX10_test 73 = .ok (.iload_n 3, 1) := by decide +kernel
theorem dX10_test_74 : decode cX10_test 74 = .ok (.ifCond .ne 8, 3) := by decide +kernel
theorem dX10_test_77 : decode cX10_test 77 = .ok (.iload 4, 2) := by decide +kernel
theorem dX10_test_79 : decode cX10_test 79 = .ok (.ifCond .eq 52, 3) := by decide +kernel
theorem dX10_test_82 : decode cX10_test 82 = .ok (.iload 4, 2) := by decide +kernel
theorem dX10_test_84 : decode cX10_test 84 = .ok (.ifCond .eq 9, 3) := by decide +kernel
theorem dX10_test_87 : decode cX10_test 87 = .ok (.aload_n 0, 1) := by decide +kernel
theorem dX10_test_88 : decode cX10_test 88 = .ok (.bipush 11, 2) := by decide +kernel
theorem dX10_test_90 : decode cX10_test 90 = .ok (.invokevirtual 354, 3) := by decide +kernel
theorem dX10_test_93 : decode cX10_test 93 = .ok (.aload_n 0, 1) := by decide +kernel
theorem dX10_test_94 : decode cX10_test 94 = .ok (.iload_n 3, 1) := by decide +kernel
theorem dX10_test_95 : decode cX10_test 95 = .ok (.ifCond .eq 8, 3) := by decide +kernel
theorem dX10_test_98 : decode cX10_test 98 = .ok (.bipush 10, 2) := by decide +kernel
theorem dX10_test_100 : decode cX10_test 100 = .ok (.goto 5, 3) := by decide +kernel
theorem dX10_test_103 : decode cX10_test 103 = .ok (.bipush 11, 2) := by decide +kernel
theorem dX10_test_105 : decode cX10_test 105 = .ok (.invokevirtual 345, 3) := by decide +kernel
theorem dX10_test_108 : decode cX10_test 108 = .ok (.aload_n 0, 1) := by decide +kernel
theorem dX10_test_109 : decode cX10_test 109 = .ok (.dup, 1) := by decide +kernel
theorem dX10_test_110 : decode cX10_test 110 = .ok (.getfield 267, 3) := by decide +kernel
theorem dX10_test_113 : decode cX10_test 113 = .ok (.iload_n 3, 1) := by decide +kernel
theorem dX10_test_114 : decode cX10_test 114 = .ok (.ifCond .eq 7, 3) := by decide +kernel
theorem dX10_test_117 : decode cX10_test 117 = .ok (.iconst 3, 1) := by decide +kernel
theorem dX10_test_118 : decode cX10_test 118 = .ok (.goto 4, 3) := by decide +kernel
theorem dX10_test_121 : decode cX10_test 121 = .ok (.iconst 2, 1) := by decide +kernel
theorem dX10_test_122 : decode cX10_test 122 = .ok (.iadd, 1) := by decide +kernel
theorem dX10_test_123 : decode cX10_test 123 = .ok (.putfield 267, 3) := by decide +kernel
theorem dX10_test_126 : decode cX10_test 126 = .ok (.iconst 1, 1) := by decide +kernel
theorem dX10_test_127 : decode cX10_test 127 = .ok (.istore_n 1, 1) := by decide +kernel
theorem dX10_test_128 : decode cX10_test 128 = .ok (.goto 71, 3) := by decide +kernel
theorem dX10_test_131 : decode cX10_test 131 = .ok (.aload_n 0, 1) := by decide +kernel
theorem dX10_test_132 : decode cX10_test 132 = .ok (.bipush 11, 2) := by decide +kernel
theorem dX10_test_134 : decode cX10_test 134 = .ok (.invokevirtual 354, 3) := by decide +kernel
theorem dX10_test_137 : decode cX10_test 137 = .ok (.aload_n 0, 1) := by decide +kernel
theorem dX10_test_138 : decode cX10_test 138 = .ok (.invokevirtual 340, 3) := by decide +kernel
theorem dX10_test_141 : decode cX10_test 141 = .ok (.bipush 12, 2) := by decide +kernel
theorem dX10_test_143 : decode cX10_test 143 = .ok (.if_icmp .ne 54, 3) := by decide +kernel
theorem dX10_test_146 : decode cX10_test 146 = .ok (.aload_n 0, 1) := by decide +kernel
theorem dX10_test_147 : decode cX10_test 147 = .ok (.invokevirtual 270, 3) := by decide +kernel
theorem dX10_test_150 : decode cX10_test 150 = .ok (.bipush 93, 2) := by decide +kernel
theorem dX10_test_152 : decode cX10_test 152 = .ok (.if_icmp .eq 12, 3) := by decide +kernel
theorem dX10_test_155 : decode cX10_test 155 = .ok (.aload_n 0, 1) := by decide +kernel
theorem dX10_test_156 : decode cX10_test 156 = .ok (.iconst 0, 1) := by decide +kernel
theorem dX10_test_157 : decode cX10_test 157 = .ok (.aload_n 0, 1) := by decide +kernel
theorem dX10_test_158 : decode cX10_test 158 = .ok (.getfield 267, 3) := by decide +kernel
theorem dX10_test_161 : decode cX10_test 161 = .ok (.invokevirtual 303, 3) := by decide +kernel
theorem dX10_test_164 : decode cX10_test 164 = .ok (.aload_n 0, 1) := by decide +kernel
theorem dX10_test_165 : decode cX10_test 165 = .ok (.dup, 1) := by decide +kernel
theorem dX10_test_166 : decode cX10_test 166 = .ok (.getfield 267, 3) := by decide +kernel
theorem dX10_test_169 : decode cX10_test 169 = .ok (.iconst 1, 1) := by decide +kernel
theorem dX10_test_170 : decode cX10_test 170 = .ok (.iadd, 1) := by decide +kernel
theorem dX10_test_171 : decode cX10_test 171 = .ok (.putfield 267, 3) := by decide +kernel
theorem dX10_test_174 : decode cX10_test 174 = .ok (.aload_n 0, 1) := by decide +kernel
theorem dX10_test_175 : decode cX10_test 175 = .ok (.dup, 1) := by decide +kernel
theorem dX10_test_176 : decode cX10_test 176 = .ok (.getfield 334, 3) := by decide +kernel
theorem dX10_test_179 : decode cX10_test 179 = .ok (.iconst 1, 1) := by decide +kernel
theorem dX10_test_180 : decode cX10_test 180 = .ok (.isub, 1) := by decide +kernel
theorem dX10_test_181 : decode cX10_test 181 = .ok (.putfield 334, 3) := by decide +kernel
theorem dX10_test_184 : decode cX10_test 184 = .ok (.aload_n 0, 1) := by decide +kernel
theorem dX10_test_185 : decode cX10_test 185 = .ok (.dup, 1) := by decide +kernel
theorem dX10_test_186 : decode cX10_test 186 = .ok (.getfield 337, 3) := by decide +kernel
theorem dX10_test_189 : decode cX10_test 189 = .ok (.iconst 1, 1) := by decide +kernel
theorem dX10_test_190 : decode cX10_test 190 = .ok (.isub, 1) := by decide +kernel
theorem dX10_test_191 : decode cX10_test 191 = .ok (.putfield 337, 3) := by decide +kernel
theorem dX10_test_194 : decode cX10_test 194 = .ok (.goto 5, 3) := by decide +kernel
theorem dX10_test_197 : decode cX10_test 197 = .ok (.iconst 0, 1) := by decide +kernel
theorem dX10_test_198 : decode cX10_test 198 = .ok (.istore_n 2, 1) := by decide +kernel
theorem dX10_test_199 : decode cX10_test 199 = .ok (.goto (-190), 3) := by decide +kernel
theorem dX10_test_202 : decode cX10_test 202 = .ok (.return_, 1) := by decide +kernel
theorem ce_X10_test : CeV RX10 yX10_test cX10_test 5 none 0 := ⟨tb_1579, tp_74, tb_11, tb_1580, rfl, by decide, by decide, by decide +kernel⟩
set_option maxHeartbeats 4000000 in
set_option maxRecDepth 20000 in
theorem V_X10_test (l : Launch) (D : va_G) (A : Nat → Prop) (ad : Nat → Nat) (ns : List Nat) (I : MI) (L : ML) (G : MG) (hJ : SGM ns G) (hI : INV I) (hp : (I 1000 25).toInt ≤ 400) (hPI : Imp ((I 1000 26).toInt = 0) (0 ≤ (I 1000 31).toInt ∧ (I 1000 31).toInt ≤ 60 ∧ 3 * (I 1000 29).toInt ≤ 6 * (I 1000 31).toInt + (I 1000 25).toInt)) : Met l yX10_test (wd yX10_test cX10_test 5 none) ({ frames := 10, cells := 0, slots := 0, locals := 215 }) (va_Pc [.ref (ad (1000))] (PM D A ad ns I L G)) (va_Qv (fun u => ∃ I2 L2, u = (ad, ns, I2, L2, G) ∧ INV I2 ∧ Kp [(1035, 1037), (1042, 1043)] [(1000, 25), (1000, 26), (1000, 29), (1000, 30), (1000, 31), (1000, 32)] I I2 ∧ ((I 1000 25).toInt ≤ (I2 1000 25).toInt ∧ (I2 1000 25).toInt ≤ 401 ∧ (I 1000 29).toInt ≤ (I2 1000 29).toInt ∧ Imp ((I2 1000 26).toInt = 0) ((I 1000 26).toInt = 0 ∧ (I2 1000 25).toInt ≤ 400 ∧ 0 ≤ (I2 1000 31).toInt ∧ (I2 1000 31).toInt ≤ 60 ∧ 3 * (I2 1000 29).toInt ≤ 6 * (I2 1000 31).toInt + (I2 1000 25).toInt) ∧ ∃ d, CT I I2 0 d)) (BM D A) A) 0 0 A := by
  refine m_ofW (by decide) (Nat.le_of_ble_eq_true rfl) ?_
  intro p e s m below meth c ls args hC hE hM hA hS hl
  obtain ⟨hx, hb, hml, hown, hts, hr, hlocks, hin⟩ := hC
  have k0 : (0 : Int32).toInt = 0 := by decide
  have k1 : (1 : Int32).toInt = 1 := by decide
  have k2 : (2 : Int32).toInt = 2 := by decide
  have k3 : (3 : Int32).toInt = 3 := by decide
  have k9 : (9 : Int32).toInt = 9 := by decide
  have k10 : (10 : Int32).toInt = 10 := by decide
  have k11 : (11 : Int32).toInt = 11 := by decide
  have k12 : (12 : Int32).toInt = 12 := by decide
  have k93 : (93 : Int32).toInt = 93 := by decide
  obtain ⟨dd, hdd⟩ : ∃ z : Nat, z = 0 := ⟨_, rfl⟩
  have hC : CT I I 0 dd := by rw [hdd]; exact CT.rf I 0
  have hI0 := hI
  have hK : Kp [(1035, 1037), (1042, 1043)] [(1000, 25), (1000, 26), (1000, 29), (1000, 30), (1000, 31), (1000, 32)] I I := Kp.rf
  have hl : lv_has ls 5 [(0, .ref (ad (1000)))] := hl
  refine lv_aload_n hx hb dX10_test_0 rfl (lv_at hl 0 rfl) ?_
  refine lv_iconst (v := (0)) hx hb dX10_test_1 (by decide) ?_
  refine m_puti (1000) 32 hx hb hts hown hE oc10 hM hS hJ.1 rfl (by decide) rfl rfl rfl rfl tb_1209 dX10_test_2 (fun H locs I1 eI1 hM hS => ?_)
  subst eI1
  have hI := hI.put (n := 1000) (k := 32) (v := 0) (lo := 0) (hi := 402) rfl (by first | omega | decide)
  have hK := hK.put (n := 1000) (k := 32) (v := 0) (by first | rfl | simp [inR])
  have hn0 := NS_0 (I := (u2 I (1000) 32 (0))) (by rw [u2_self]; decide)
  refine lv_iconst (v := (1)) hx hb dX10_test_5 (by decide) ?_
  refine lv_istore_n (lv' := [(1, .int (1)), (0, .ref (ad (1000)))]) hx hb dX10_test_6 rfl hl (by decide) rfl (fun ls hl => ?_)
  refine lv_iconst (v := (1)) hx hb dX10_test_7 (by decide) ?_
  refine lv_istore_n (lv' := [(2, .int (1)), (1, .int (1)), (0, .ref (ad (1000)))]) hx hb dX10_test_8 rfl hl (by decide) rfl (fun ls hl => ?_)
  have pw2 : ((u2 I (1000) 32 (0)) (1000) 24).toInt = (I (1000) 24 : Int32).toInt := congrArg Int32.toInt ((show (u2 I (1000) 32 (0)) (1000) 24 = I (1000) 24 from by simp [u2_v]))
  have pw3 : ((u2 I (1000) 32 (0)) (1000) 25).toInt = (I (1000) 25 : Int32).toInt := congrArg Int32.toInt ((show (u2 I (1000) 32 (0)) (1000) 25 = I (1000) 25 from by simp [u2_v]))
  have pw4 : ((u2 I (1000) 32 (0)) (1000) 26).toInt = (I (1000) 26 : Int32).toInt := congrArg Int32.toInt ((show (u2 I (1000) 32 (0)) (1000) 26 = I (1000) 26 from by simp [u2_v]))
  have pw5 : ((u2 I (1000) 32 (0)) (1000) 27).toInt = (I (1000) 27 : Int32).toInt := congrArg Int32.toInt ((show (u2 I (1000) 32 (0)) (1000) 27 = I (1000) 27 from by simp [u2_v]))
  have pw6 : ((u2 I (1000) 32 (0)) (1000) 29).toInt = (I (1000) 29 : Int32).toInt := congrArg Int32.toInt ((show (u2 I (1000) 32 (0)) (1000) 29 = I (1000) 29 from by simp [u2_v]))
  have pw7 : ((u2 I (1000) 32 (0)) (1000) 31).toInt = (I (1000) 31 : Int32).toInt := congrArg Int32.toInt ((show (u2 I (1000) 32 (0)) (1000) 31 = I (1000) 31 from by simp [u2_v]))
  have pw8 : ((u2 I (1000) 32 (0)) (1000) 32).toInt = (0 : Int32).toInt := congrArg Int32.toInt ((show (u2 I (1000) 32 (0)) (1000) 32 = 0 from by simp [u2_v]))
  replace hC := CT.link (I2 := (u2 I (1000) 32 (0))) hC ((show (u2 I (1000) 32 (0)) 1035 = I 1035 from by funext zz; simp [u2_v])) ((show (u2 I (1000) 32 (0)) 1036 = I 1036 from by funext zz; simp [u2_v])) (by omega) (fun hz => by have w0 := hPI (by omega); omega)
  have gP9 := hI.get 1000 25 (lo := 0) (hi := 100000) rfl
  have gO9 := hI.get 1000 32 (lo := 0) (hi := 402) rfl
  have loop9 : ∀ (n : Nat) (x2_9 : Int32) (x1_9 : Int32) (Ia9 : MI) (La9 : ML) (H : Heap) (locs : List Loc) (ls : Array Slot), INV Ia9 → Kp [(1035, 1037), (1042, 1043)] [(1000, 25), (1000, 26), (1000, 29), (1000, 30), (1000, 31), (1000, 32)] I Ia9 → (0 ≤ x2_9.toInt ∧ x2_9.toInt ≤ 1) → (0 ≤ x1_9.toInt ∧ x1_9.toInt ≤ 1) → ((I 1000 25).toInt ≤ (Ia9 1000 25).toInt ∧ (Ia9 1000 25).toInt ≤ 401 ∧ (I 1000 29).toInt ≤ (Ia9 1000 29).toInt ∧ (Ia9 1000 32).toInt ≤ (Ia9 1000 25).toInt) → (Imp ((Ia9 1000 26).toInt = 0) ((I 1000 26).toInt = 0 ∧ (Ia9 1000 25).toInt ≤ 400 ∧ 0 ≤ (Ia9 1000 31).toInt ∧ (Ia9 1000 31).toInt ≤ 60 ∧ 3 * (Ia9 1000 29).toInt + 3 * (NS Ia9 : Int) + 9 * (1 - (x1_9).toInt) ≤ 6 * (Ia9 1000 31).toInt + (Ia9 1000 25).toInt)) → (CT I Ia9 0 (NB Ia9 + (1 - (x1_9).toInt).toNat)) → (3 * (401 - (Ia9 1000 25).toInt) + x1_9.toInt + x2_9.toInt).toNat < n → Mem D A ad ns Ia9 La9 G H → va_S A s.heap H locs → lv_has ls 5 [(2, .int (x2_9)), (1, .int (x1_9)), (0, .ref (ad (1000)))] → W p l e ({ frames := 10, cells := 0, slots := 0, locals := 215 } : Room) s m args below meth c H locs 0 0 (MQ below (va_Qv (fun u => ∃ I2 L2, u = (ad, ns, I2, L2, G) ∧ INV I2 ∧ Kp [(1035, 1037), (1042, 1043)] [(1000, 25), (1000, 26), (1000, 29), (1000, 30), (1000, 31), (1000, 32)] I I2 ∧ ((I 1000 25).toInt ≤ (I2 1000 25).toInt ∧ (I2 1000 25).toInt ≤ 401 ∧ (I 1000 29).toInt ≤ (I2 1000 29).toInt ∧ Imp ((I2 1000 26).toInt = 0) ((I 1000 26).toInt = 0 ∧ (I2 1000 25).toInt ≤ 400 ∧ 0 ≤ (I2 1000 31).toInt ∧ (I2 1000 31).toInt ≤ 60 ∧ 3 * (I2 1000 29).toInt ≤ 6 * (I2 1000 31).toInt + (I2 1000 25).toInt) ∧ ∃ d, CT I I2 0 d)) (BM D A) A) args s 0 0 A) (F0 m 9 ls []) := by
    intro n
    induction n with
    | zero =>
      intro x2_9 x1_9 Ia9 La9 H locs ls hI hK hr2_9 hr1_9 hlin hcn hC hmu
      exact absurd hmu (Nat.not_lt_zero _)
    | succ n ih9 =>
      intro x2_9 x1_9 Ia9 La9 H locs ls hI hK hr2_9 hr1_9 hlin hcn hC hmu9 hM hS hl
      obtain ⟨dd, hdd⟩ : ∃ z : Nat, z = NB Ia9 + (1 - (x1_9).toInt).toNat := ⟨_, rfl⟩
      rw [← hdd] at hC
      have gx9 := hI0.get 1000 27 (lo := 0) (hi := 5) rfl
      have gy9 := hI0.get 1000 29 (lo := 0) (hi := 300) rfl
      have pk27 := congrArg Int32.toInt (hK.get 1000 27 rfl)
      have gO99 := hI.get 1000 32 (lo := 0) (hi := 402) rfl
      refine lv_iload_n hx hb dX10_test_9 rfl (lv_at hl 0 rfl) ?_
      refine lv_if_eq (tgt := 202) hx hb dX10_test_10 (by decide) (fun c9 => ?_) (fun c9 => ?_)
      · have hc9 := c9
        have q9 := q_eq hc9
        exact m_vret hx hb hr hlocks hM hS (Nat.le_of_ble_eq_true rfl) (Nat.le_of_ble_eq_true rfl) ⟨_, _, rfl, hI, hK, ⟨by omega, by omega, by omega, (fun hz => by have w0 := hcn (by omega); omega), _, hC⟩⟩ dX10_test_202
      · have hc9 := c9
        have q9 := q_ne hc9
        refine lv_aload_n hx hb dX10_test_13 rfl (lv_at hl 2 rfl) ?_
        refine m_geti (1000) 26 hx hb hts hown hE oc10 hM hJ.1 rfl (by decide) rfl tb_1203 dX10_test_14 ?_
        refine lv_if_ne (tgt := 202) hx hb dX10_test_17 (by decide) (fun c10 => ?_) (fun c10 => ?_)
        · have hc10 := c10
          have q10 := q_ne hc10
          exact m_vret hx hb hr hlocks hM hS (Nat.le_of_ble_eq_true rfl) (Nat.le_of_ble_eq_true rfl) ⟨_, _, rfl, hI, hK, ⟨by omega, by omega, by omega, (fun hz => by have w0 := hcn (by omega); omega), _, hC⟩⟩ dX10_test_202
        · have hc10 := c10
          have q10 := q_eq hc10
          have w11 := hcn (by omega)
          refine lv_iload_n hx hb dX10_test_20 rfl (lv_at hl 1 rfl) ?_
          refine lv_if_eq (tgt := 40) hx hb dX10_test_21 (by decide) (fun c12 => ?_) (fun c12 => ?_)
          · have hc12 := c12
            have q12 := q_eq hc12
            refine lv_aload_n hx hb dX10_test_40 rfl (lv_at hl 2 rfl) ?_
            refine lv_bipush (v := (9)) hx hb dX10_test_41 (by decide) ?_
            refine m_callv (m_runV (1000) (As := [.int (9)]) (rest := []) hx hb hml hown hts hE hM hS hA ce_X10_answers tb_1594 (V_X10_answers l D A ad ns Ia9 La9 G (9) hJ hI (by decide) (fun hz => by omega)) rfl rfl ⟨Nat.le_of_ble_eq_true rfl, Nat.le_of_ble_eq_true rfl⟩ hJ.1 rfl rfl (by decide) rfl hl.1 rfl (Nat.le_of_ble_eq_true rfl) dX10_test_43 ⟨Nat.le_of_ble_eq_true rfl, Nat.le_of_ble_eq_true rfl⟩) hS (fun u H locs hw hM hS => ?_)
            obtain ⟨I13, L14, rfl, hI, hkI13, xI13⟩ := hw
            have hM : Mem D A ad ns I13 L14 G H := hM
            have hK := hK.trans hkI13 rfl
            have g15 := hI.get 1000 32 (lo := 0) (hi := 402) rfl
            have pw16 : (I13 (1000) 24).toInt = (Ia9 (1000) 24 : Int32).toInt := congrArg Int32.toInt ((hkI13.get (1000) 24 rfl))
            have pw17 : (I13 (1000) 25).toInt = (Ia9 (1000) 25 : Int32).toInt := congrArg Int32.toInt ((hkI13.get (1000) 25 rfl))
            have pw18 : (I13 (1000) 26).toInt = (Ia9 (1000) 26 : Int32).toInt := congrArg Int32.toInt ((hkI13.get (1000) 26 rfl))
            have pw19 : (I13 (1000) 27).toInt = (Ia9 (1000) 27 : Int32).toInt := congrArg Int32.toInt ((hkI13.get (1000) 27 rfl))
            have pw20 : (I13 (1000) 31).toInt = (Ia9 (1000) 31 : Int32).toInt := congrArg Int32.toInt ((hkI13.get (1000) 31 rfl))
            have g21 := hI0.get 1000 27 (lo := 0) (hi := 5) rfl
            have g22 := hI0.get 1000 29 (lo := 0) (hi := 300) rfl
            replace hC := CT.comp (n1 := NB Ia9 + 1) (by rw [show NB Ia9 + 1 = dd from by omega]; exact hC) (xI13.2.2.2) (by omega) (by omega) (by omega) (by omega) (fun hz => by omega)
            obtain ⟨dd, hdd⟩ : ∃ z : Nat, z = NB I13 + 1 := ⟨_, rfl⟩
            rw [← hdd] at hC
            refine lv_aload_n hx hb dX10_test_46 rfl (lv_at hl 2 rfl) ?_
            refine m_callv (m_runV (1000) (As := []) (rest := []) hx hb hml hown hts hE hM hS hA ce_X10_blanks tb_1506 (V_X10_blanks l D A ad ns I13 L14 G hJ hI (by omega)) rfl rfl ⟨Nat.le_of_ble_eq_true rfl, Nat.le_of_ble_eq_true rfl⟩ hJ.1 rfl rfl (by decide) rfl hl.1 rfl (Nat.le_of_ble_eq_true rfl) dX10_test_47 ⟨Nat.le_of_ble_eq_true rfl, Nat.le_of_ble_eq_true rfl⟩) hS (fun u H locs hw hM hS => ?_)
            obtain ⟨I23, L24, rfl, hI, hkI23, xI23⟩ := hw
            have hM : Mem D A ad ns I23 L24 G H := hM
            have hK := hK.trans hkI23 rfl
            have pw25 : (I23 (1000) 24).toInt = (Ia9 (1000) 24 : Int32).toInt := congrArg Int32.toInt (((hkI23.get (1000) 24 rfl)).trans (hkI13.get (1000) 24 rfl))
            have pw26 : (I23 (1000) 26).toInt = (Ia9 (1000) 26 : Int32).toInt := congrArg Int32.toInt (((hkI23.get (1000) 26 rfl)).trans (hkI13.get (1000) 26 rfl))
            have pw27 : (I23 (1000) 27).toInt = (Ia9 (1000) 27 : Int32).toInt := congrArg Int32.toInt (((hkI23.get (1000) 27 rfl)).trans (hkI13.get (1000) 27 rfl))
            have pw28 : (I23 (1000) 29).toInt = (I13 (1000) 29 : Int32).toInt := congrArg Int32.toInt ((hkI23.get (1000) 29 rfl))
            have pw29 : (I23 (1000) 31).toInt = (Ia9 (1000) 31 : Int32).toInt := congrArg Int32.toInt (((hkI23.get (1000) 31 rfl)).trans (hkI13.get (1000) 31 rfl))
            have pw30 : (I23 (1000) 32).toInt = (I13 (1000) 32 : Int32).toInt := congrArg Int32.toInt ((hkI23.get (1000) 32 rfl))
            refine lv_aload_n hx hb dX10_test_50 rfl (lv_at hl 2 rfl) ?_
            refine m_ldcwS hx hb hown (EV.str hE 26 rfl).1 dX10_test_51 ?_
            refine m_calli (m_runV (1000) (As := [.ref (D.2 100 26)]) (rest := []) hx hb hml hown hts hE hM hS hA ce_X10_stands tb_1515 (V_X10_stands l D A ad ns I23 L24 G 26 _ hJ hI rfl (by decide) (by decide)) rfl rfl ⟨Nat.le_of_ble_eq_true rfl, Nat.le_of_ble_eq_true rfl⟩ hJ.1 rfl rfl (by decide) rfl hl.1 rfl (Nat.le_of_ble_eq_true rfl) dX10_test_54 ⟨Nat.le_of_ble_eq_true rfl, Nat.le_of_ble_eq_true rfl⟩) hS (fun r31 u H locs hw hM hS => ?_)
            obtain ⟨rfl, xr31⟩ := hw
            have hM : Mem D A ad ns I23 L24 G H := hM
            have g32 := hI.get 1000 24 (lo := 0) (hi := 400) rfl
            have g33 := hI.get 1000 25 (lo := 0) (hi := 100000) rfl
            have slr31 : Imp ((r31).toInt ≠ 0) ((I23 (1000) 25).toInt + 3 ≤ (I23 (1000) 24).toInt) := xr31.2.2
            refine lv_istore_n (lv' := [(3, .int (r31)), (2, .int (x2_9)), (1, .int (x1_9)), (0, .ref (ad (1000)))]) hx hb dX10_test_57 rfl hl (by decide) rfl (fun ls hl => ?_)
            refine lv_aload_n hx hb dX10_test_58 rfl (lv_at hl 3 rfl) ?_
            refine m_ldcwS hx hb hown (EV.str hE 27 rfl).1 dX10_test_59 ?_
            refine m_calli (m_runV (1000) (As := [.ref (D.2 100 27)]) (rest := []) hx hb hml hown hts hE hM hS hA ce_X10_stands tb_1515 (V_X10_stands l D A ad ns I23 L24 G 27 _ hJ hI rfl (by decide) (by decide)) rfl rfl ⟨Nat.le_of_ble_eq_true rfl, Nat.le_of_ble_eq_true rfl⟩ hJ.1 rfl rfl (by decide) rfl hl.1 rfl (Nat.le_of_ble_eq_true rfl) dX10_test_62 ⟨Nat.le_of_ble_eq_true rfl, Nat.le_of_ble_eq_true rfl⟩) hS (fun r34 u H locs hw hM hS => ?_)
            obtain ⟨rfl, xr34⟩ := hw
            have hM : Mem D A ad ns I23 L24 G H := hM
            have g35 := hI.get 1000 24 (lo := 0) (hi := 400) rfl
            have g36 := hI.get 1000 25 (lo := 0) (hi := 100000) rfl
            have slr34 : Imp ((r34).toInt ≠ 0) ((I23 (1000) 25).toInt + 2 ≤ (I23 (1000) 24).toInt) := xr34.2.2
            refine lv_istore (lv' := [(4, .int (r34)), (3, .int (r31)), (2, .int (x2_9)), (1, .int (x1_9)), (0, .ref (ad (1000)))]) hx hb dX10_test_65 hl (by decide) rfl (fun ls hl => ?_)
            refine lv_aload_n hx hb dX10_test_67 rfl (lv_at hl 4 rfl) ?_
            refine lv_bipush (v := (10)) hx hb dX10_test_68 (by decide) ?_
            have nn37 := NS_of (I2 := I23) (I := I13) ((hkI23.getA 1042 rfl)) (by omega)
            refine m_callv (m_runV (1000) (As := [.int (10)]) (rest := []) hx hb hml hown hts hE hM hS hA ce_X10_answers tb_1594 (V_X10_answers l D A ad ns I23 L24 G (10) hJ hI (by decide) (fun hz => by omega)) rfl rfl ⟨Nat.le_of_ble_eq_true rfl, Nat.le_of_ble_eq_true rfl⟩ hJ.1 rfl rfl (by decide) rfl hl.1 rfl (Nat.le_of_ble_eq_true rfl) dX10_test_70 ⟨Nat.le_of_ble_eq_true rfl, Nat.le_of_ble_eq_true rfl⟩) hS (fun u H locs hw hM hS => ?_)
            obtain ⟨I38, L39, rfl, hI, hkI38, xI38⟩ := hw
            have hM : Mem D A ad ns I38 L39 G H := hM
            have hK := hK.trans hkI38 rfl
            have g40 := hI.get 1000 32 (lo := 0) (hi := 402) rfl
            replace hC := CT.link (I2 := I23) hC ((hkI23.getA 1035 rfl)) ((hkI23.getA 1036 rfl)) (by omega) (fun hz => by omega)
            have pw41 : (I38 (1000) 24).toInt = (Ia9 (1000) 24 : Int32).toInt := congrArg Int32.toInt ((((hkI38.get (1000) 24 rfl)).trans (hkI23.get (1000) 24 rfl)).trans (hkI13.get (1000) 24 rfl))
            have pw42 : (I38 (1000) 25).toInt = (I23 (1000) 25 : Int32).toInt := congrArg Int32.toInt ((hkI38.get (1000) 25 rfl))
            have pw43 : (I38 (1000) 26).toInt = (Ia9 (1000) 26 : Int32).toInt := congrArg Int32.toInt ((((hkI38.get (1000) 26 rfl)).trans (hkI23.get (1000) 26 rfl)).trans (hkI13.get (1000) 26 rfl))
            have pw44 : (I38 (1000) 27).toInt = (Ia9 (1000) 27 : Int32).toInt := congrArg Int32.toInt ((((hkI38.get (1000) 27 rfl)).trans (hkI23.get (1000) 27 rfl)).trans (hkI13.get (1000) 27 rfl))
            have pw45 : (I38 (1000) 31).toInt = (Ia9 (1000) 31 : Int32).toInt := congrArg Int32.toInt ((((hkI38.get (1000) 31 rfl)).trans (hkI23.get (1000) 31 rfl)).trans (hkI13.get (1000) 31 rfl))
            replace hC := CT.comp (n1 := NB I23 + 1) (by rw [show NB I23 + 1 = dd from by omega]; exact hC) (xI38.2.2.2) (by omega) (by omega) (by omega) (by omega) (fun hz => by omega)
            obtain ⟨dd, hdd⟩ : ∃ z : Nat, z = NB I38 + 1 := ⟨_, rfl⟩
            rw [← hdd] at hC
            refine lv_iload_n hx hb dX10_test_73 rfl (lv_at hl 1 rfl) ?_
            refine lv_if_ne (tgt := 82) hx hb dX10_test_74 (by decide) (fun c46 => ?_) (fun c46 => ?_)
            · have hc46 := c46
              have q46 := q_ne hc46
              have sg47 := slr31 (by omega)
              refine lv_iload hx hb dX10_test_82 (lv_at hl 0 rfl) ?_
              refine lv_if_eq (tgt := 93) hx hb dX10_test_84 (by decide) (fun c48 => ?_) (fun c48 => ?_)
              · have hc48 := c48
                have q48 := q_eq hc48
                refine lv_aload_n hx hb dX10_test_93 rfl (lv_at hl 4 rfl) ?_
                refine lv_iload_n hx hb dX10_test_94 rfl (lv_at hl 1 rfl) ?_
                refine lv_if_eq (tgt := 103) hx hb dX10_test_95 (by decide) (fun c49 => ?_) (fun c49 => ?_)
                · have hc49 := c49
                  have q49 := q_eq hc49
                  refine lv_bipush (v := (11)) hx hb dX10_test_103 (by decide) ?_
                  refine m_callv (m_runV (1000) (As := [.int (11)]) (rest := []) hx hb hml hown hts hE hM hS hA ce_X10_opens tb_1586 (V_X10_opens l D A ad ns I38 L39 G (11) hJ hI (by first | omega | decide) (by omega)) rfl rfl ⟨Nat.le_of_ble_eq_true rfl, Nat.le_of_ble_eq_true rfl⟩ hJ.1 rfl rfl (by decide) rfl hl.1 rfl (Nat.le_of_ble_eq_true rfl) dX10_test_105 ⟨Nat.le_of_ble_eq_true rfl, Nat.le_of_ble_eq_true rfl⟩) hS (fun u H locs hw hM hS => ?_)
                  obtain ⟨I50, L51, rfl, hI, hkI50, xI50⟩ := hw
                  have hM : Mem D A ad ns I50 L51 G H := hM
                  have hK := hK.trans hkI50 rfl
                  have g52 := hI.get 1000 32 (lo := 0) (hi := 402) rfl
                  have pw53 : (I50 (1000) 24).toInt = (Ia9 (1000) 24 : Int32).toInt := congrArg Int32.toInt (((((hkI50.get (1000) 24 rfl)).trans (hkI38.get (1000) 24 rfl)).trans (hkI23.get (1000) 24 rfl)).trans (hkI13.get (1000) 24 rfl))
                  have pw54 : (I50 (1000) 25).toInt = (I23 (1000) 25 : Int32).toInt := congrArg Int32.toInt (((hkI50.get (1000) 25 rfl)).trans (hkI38.get (1000) 25 rfl))
                  have pw55 : (I50 (1000) 27).toInt = (Ia9 (1000) 27 : Int32).toInt := congrArg Int32.toInt (((((hkI50.get (1000) 27 rfl)).trans (hkI38.get (1000) 27 rfl)).trans (hkI23.get (1000) 27 rfl)).trans (hkI13.get (1000) 27 rfl))
                  have pw56 : (I50 (1000) 29).toInt = (I38 (1000) 29 : Int32).toInt := congrArg Int32.toInt ((hkI50.get (1000) 29 rfl))
                  have pw57 : (I50 (1000) 31).toInt = (Ia9 (1000) 31 : Int32).toInt := congrArg Int32.toInt (((((hkI50.get (1000) 31 rfl)).trans (hkI38.get (1000) 31 rfl)).trans (hkI23.get (1000) 31 rfl)).trans (hkI13.get (1000) 31 rfl))
                  have pv58 : pN 11 = 1 ∧ pB 11 = 1 := by decide
                  have po59 := xI50.2
                  refine lv_aload_n hx hb dX10_test_108 rfl (lv_at hl 4 rfl) ?_
                  refine lv_dup hx hb dX10_test_109 rfl ?_
                  refine m_geti (1000) 25 hx hb hts hown hE oc10 hM hJ.1 rfl (by decide) rfl tb_1202 dX10_test_110 ?_
                  have g60 := hI.get (1000) 25 (lo := 0) (hi := 100000) rfl
                  have z61 : I50 (1000) 25 = I23 (1000) 25 := ((hkI50.get (1000) 25 rfl)).trans (hkI38.get (1000) 25 rfl)
                  rw [z61] at g60 ⊢
                  refine lv_iload_n hx hb dX10_test_113 rfl (lv_at hl 1 rfl) ?_
                  refine lv_if_eq (tgt := 121) hx hb dX10_test_114 (by decide) (fun c62 => ?_) (fun c62 => ?_)
                  · have hc62 := c62
                    have q62 := q_eq hc62
                    refine lv_iconst (v := (2)) hx hb dX10_test_121 (by decide) ?_
                    refine lv_iadd hx hb dX10_test_122 ?_
                    refine lv_topi (fun v63 ev63 => ?_)
                    have tv63 := a_add ev63 (by omega) (by omega)
                    refine m_puti (1000) 25 hx hb hts hown hE oc10 hM hS hJ.1 rfl (by decide) rfl rfl rfl rfl tb_1202 dX10_test_123 (fun H locs I64 eI64 hM hS => ?_)
                    subst eI64
                    have hI := hI.put (n := 1000) (k := 25) (v := v63) (lo := 0) (hi := 100000) rfl (by first | omega | decide)
                    have hK := hK.put (n := 1000) (k := 25) (v := v63) (by first | rfl | simp [inR])
                    refine lv_iconst (v := (1)) hx hb dX10_test_126 (by decide) ?_
                    refine lv_istore_n (lv' := [(1, .int (1)), (4, .int (r34)), (3, .int (r31)), (2, .int (x2_9)), (0, .ref (ad (1000)))]) hx hb dX10_test_127 rfl hl (by decide) rfl (fun ls hl => ?_)
                    refine lv_goto (tgt := 199) hx hb dX10_test_128 (by decide) ?_
                    refine lv_goto (tgt := 9) hx hb dX10_test_199 (by decide) ?_
                    have pw65 : ((u2 I50 (1000) 25 (v63)) (1000) 24).toInt = (Ia9 (1000) 24 : Int32).toInt := congrArg Int32.toInt ((((((show (u2 I50 (1000) 25 (v63)) (1000) 24 = I50 (1000) 24 from by simp [u2_v])).trans (hkI50.get (1000) 24 rfl)).trans (hkI38.get (1000) 24 rfl)).trans (hkI23.get (1000) 24 rfl)).trans (hkI13.get (1000) 24 rfl))
                    have pw66 : ((u2 I50 (1000) 25 (v63)) (1000) 25).toInt = (v63 : Int32).toInt := congrArg Int32.toInt ((show (u2 I50 (1000) 25 (v63)) (1000) 25 = v63 from by simp [u2_v]))
                    have pw67 : ((u2 I50 (1000) 25 (v63)) (1000) 26).toInt = (I50 (1000) 26 : Int32).toInt := congrArg Int32.toInt ((show (u2 I50 (1000) 25 (v63)) (1000) 26 = I50 (1000) 26 from by simp [u2_v]))
                    have pw68 : ((u2 I50 (1000) 25 (v63)) (1000) 27).toInt = (Ia9 (1000) 27 : Int32).toInt := congrArg Int32.toInt ((((((show (u2 I50 (1000) 25 (v63)) (1000) 27 = I50 (1000) 27 from by simp [u2_v])).trans (hkI50.get (1000) 27 rfl)).trans (hkI38.get (1000) 27 rfl)).trans (hkI23.get (1000) 27 rfl)).trans (hkI13.get (1000) 27 rfl))
                    have pw69 : ((u2 I50 (1000) 25 (v63)) (1000) 29).toInt = (I38 (1000) 29 : Int32).toInt := congrArg Int32.toInt (((show (u2 I50 (1000) 25 (v63)) (1000) 29 = I50 (1000) 29 from by simp [u2_v])).trans (hkI50.get (1000) 29 rfl))
                    have pw70 : ((u2 I50 (1000) 25 (v63)) (1000) 31).toInt = (Ia9 (1000) 31 : Int32).toInt := congrArg Int32.toInt ((((((show (u2 I50 (1000) 25 (v63)) (1000) 31 = I50 (1000) 31 from by simp [u2_v])).trans (hkI50.get (1000) 31 rfl)).trans (hkI38.get (1000) 31 rfl)).trans (hkI23.get (1000) 31 rfl)).trans (hkI13.get (1000) 31 rfl))
                    have pw71 : ((u2 I50 (1000) 25 (v63)) (1000) 32).toInt = (I50 (1000) 32 : Int32).toInt := congrArg Int32.toInt ((show (u2 I50 (1000) 25 (v63)) (1000) 32 = I50 (1000) 32 from by simp [u2_v]))
                    replace hC := CT.link (I2 := (u2 I50 (1000) 25 (v63))) hC (((show (u2 I50 (1000) 25 (v63)) 1035 = I50 1035 from by funext zz; simp [u2_v])).trans (hkI50.getA 1035 rfl)) (((show (u2 I50 (1000) 25 (v63)) 1036 = I50 1036 from by funext zz; simp [u2_v])).trans (hkI50.getA 1036 rfl)) (by omega) (fun hz => by have w0 := xI50.1 (by omega); omega)
                    have nn72 := NS_of (I2 := (u2 I50 (1000) 25 (v63))) (I := I50) ((show (u2 I50 (1000) 25 (v63)) 1042 = I50 1042 from by funext zz; simp [u2_v])) (by omega)
                    have gP9 := hI.get 1000 25 (lo := 0) (hi := 100000) rfl
                    have gO9 := hI.get 1000 32 (lo := 0) (hi := 402) rfl
                    exact ih9 (x2_9) (1) (u2 I50 (1000) 25 (v63)) L51 _ _ ls hI hK (by first | omega | decide) (by first | omega | decide) (by omega) (fun hz => by have w0 := xI50.1 (by omega); omega) (by rw [show NB (u2 I50 (1000) 25 (v63)) + (1 - (1 : Int32).toInt).toNat = dd from by omega]; exact hC) (by omega) hM hS (lv_sub hl [3, 0, 4] rfl)
                  · have hc62 := c62
                    have q62 := q_ne hc62
                    have sg73 := slr31 (by omega)
                    refine lv_iconst (v := (3)) hx hb dX10_test_117 (by decide) ?_
                    refine lv_goto (tgt := 122) hx hb dX10_test_118 (by decide) ?_
                    refine lv_iadd hx hb dX10_test_122 ?_
                    refine lv_topi (fun v74 ev74 => ?_)
                    have tv74 := a_add ev74 (by omega) (by omega)
                    refine m_puti (1000) 25 hx hb hts hown hE oc10 hM hS hJ.1 rfl (by decide) rfl rfl rfl rfl tb_1202 dX10_test_123 (fun H locs I75 eI75 hM hS => ?_)
                    subst eI75
                    have hI := hI.put (n := 1000) (k := 25) (v := v74) (lo := 0) (hi := 100000) rfl (by first | omega | decide)
                    have hK := hK.put (n := 1000) (k := 25) (v := v74) (by first | rfl | simp [inR])
                    refine lv_iconst (v := (1)) hx hb dX10_test_126 (by decide) ?_
                    refine lv_istore_n (lv' := [(1, .int (1)), (4, .int (r34)), (3, .int (r31)), (2, .int (x2_9)), (0, .ref (ad (1000)))]) hx hb dX10_test_127 rfl hl (by decide) rfl (fun ls hl => ?_)
                    refine lv_goto (tgt := 199) hx hb dX10_test_128 (by decide) ?_
                    refine lv_goto (tgt := 9) hx hb dX10_test_199 (by decide) ?_
                    have pw76 : ((u2 I50 (1000) 25 (v74)) (1000) 24).toInt = (Ia9 (1000) 24 : Int32).toInt := congrArg Int32.toInt ((((((show (u2 I50 (1000) 25 (v74)) (1000) 24 = I50 (1000) 24 from by simp [u2_v])).trans (hkI50.get (1000) 24 rfl)).trans (hkI38.get (1000) 24 rfl)).trans (hkI23.get (1000) 24 rfl)).trans (hkI13.get (1000) 24 rfl))
                    have pw77 : ((u2 I50 (1000) 25 (v74)) (1000) 25).toInt = (v74 : Int32).toInt := congrArg Int32.toInt ((show (u2 I50 (1000) 25 (v74)) (1000) 25 = v74 from by simp [u2_v]))
                    have pw78 : ((u2 I50 (1000) 25 (v74)) (1000) 26).toInt = (I50 (1000) 26 : Int32).toInt := congrArg Int32.toInt ((show (u2 I50 (1000) 25 (v74)) (1000) 26 = I50 (1000) 26 from by simp [u2_v]))
                    have pw79 : ((u2 I50 (1000) 25 (v74)) (1000) 27).toInt = (Ia9 (1000) 27 : Int32).toInt := congrArg Int32.toInt ((((((show (u2 I50 (1000) 25 (v74)) (1000) 27 = I50 (1000) 27 from by simp [u2_v])).trans (hkI50.get (1000) 27 rfl)).trans (hkI38.get (1000) 27 rfl)).trans (hkI23.get (1000) 27 rfl)).trans (hkI13.get (1000) 27 rfl))
                    have pw80 : ((u2 I50 (1000) 25 (v74)) (1000) 29).toInt = (I38 (1000) 29 : Int32).toInt := congrArg Int32.toInt (((show (u2 I50 (1000) 25 (v74)) (1000) 29 = I50 (1000) 29 from by simp [u2_v])).trans (hkI50.get (1000) 29 rfl))
                    have pw81 : ((u2 I50 (1000) 25 (v74)) (1000) 31).toInt = (Ia9 (1000) 31 : Int32).toInt := congrArg Int32.toInt ((((((show (u2 I50 (1000) 25 (v74)) (1000) 31 = I50 (1000) 31 from by simp [u2_v])).trans (hkI50.get (1000) 31 rfl)).trans (hkI38.get (1000) 31 rfl)).trans (hkI23.get (1000) 31 rfl)).trans (hkI13.get (1000) 31 rfl))
                    have pw82 : ((u2 I50 (1000) 25 (v74)) (1000) 32).toInt = (I50 (1000) 32 : Int32).toInt := congrArg Int32.toInt ((show (u2 I50 (1000) 25 (v74)) (1000) 32 = I50 (1000) 32 from by simp [u2_v]))
                    replace hC := CT.link (I2 := (u2 I50 (1000) 25 (v74))) hC (((show (u2 I50 (1000) 25 (v74)) 1035 = I50 1035 from by funext zz; simp [u2_v])).trans (hkI50.getA 1035 rfl)) (((show (u2 I50 (1000) 25 (v74)) 1036 = I50 1036 from by funext zz; simp [u2_v])).trans (hkI50.getA 1036 rfl)) (by omega) (fun hz => by have w0 := xI50.1 (by omega); omega)
                    have nn83 := NS_of (I2 := (u2 I50 (1000) 25 (v74))) (I := I50) ((show (u2 I50 (1000) 25 (v74)) 1042 = I50 1042 from by funext zz; simp [u2_v])) (by omega)
                    have gP9 := hI.get 1000 25 (lo := 0) (hi := 100000) rfl
                    have gO9 := hI.get 1000 32 (lo := 0) (hi := 402) rfl
                    exact ih9 (x2_9) (1) (u2 I50 (1000) 25 (v74)) L51 _ _ ls hI hK (by first | omega | decide) (by first | omega | decide) (by omega) (fun hz => by have w0 := xI50.1 (by omega); omega) (by rw [show NB (u2 I50 (1000) 25 (v74)) + (1 - (1 : Int32).toInt).toNat = dd from by omega]; exact hC) (by omega) hM hS (lv_sub hl [3, 0, 4] rfl)
                · have hc49 := c49
                  have q49 := q_ne hc49
                  have sg84 := slr31 (by omega)
                  refine lv_bipush (v := (10)) hx hb dX10_test_98 (by decide) ?_
                  refine lv_goto (tgt := 105) hx hb dX10_test_100 (by decide) ?_
                  refine m_callv (m_runV (1000) (As := [.int (10)]) (rest := []) hx hb hml hown hts hE hM hS hA ce_X10_opens tb_1586 (V_X10_opens l D A ad ns I38 L39 G (10) hJ hI (by first | omega | decide) (by omega)) rfl rfl ⟨Nat.le_of_ble_eq_true rfl, Nat.le_of_ble_eq_true rfl⟩ hJ.1 rfl rfl (by decide) rfl hl.1 rfl (Nat.le_of_ble_eq_true rfl) dX10_test_105 ⟨Nat.le_of_ble_eq_true rfl, Nat.le_of_ble_eq_true rfl⟩) hS (fun u H locs hw hM hS => ?_)
                  obtain ⟨I85, L86, rfl, hI, hkI85, xI85⟩ := hw
                  have hM : Mem D A ad ns I85 L86 G H := hM
                  have hK := hK.trans hkI85 rfl
                  have g87 := hI.get 1000 32 (lo := 0) (hi := 402) rfl
                  have pw88 : (I85 (1000) 24).toInt = (Ia9 (1000) 24 : Int32).toInt := congrArg Int32.toInt (((((hkI85.get (1000) 24 rfl)).trans (hkI38.get (1000) 24 rfl)).trans (hkI23.get (1000) 24 rfl)).trans (hkI13.get (1000) 24 rfl))
                  have pw89 : (I85 (1000) 25).toInt = (I23 (1000) 25 : Int32).toInt := congrArg Int32.toInt (((hkI85.get (1000) 25 rfl)).trans (hkI38.get (1000) 25 rfl))
                  have pw90 : (I85 (1000) 27).toInt = (Ia9 (1000) 27 : Int32).toInt := congrArg Int32.toInt (((((hkI85.get (1000) 27 rfl)).trans (hkI38.get (1000) 27 rfl)).trans (hkI23.get (1000) 27 rfl)).trans (hkI13.get (1000) 27 rfl))
                  have pw91 : (I85 (1000) 29).toInt = (I38 (1000) 29 : Int32).toInt := congrArg Int32.toInt ((hkI85.get (1000) 29 rfl))
                  have pw92 : (I85 (1000) 31).toInt = (Ia9 (1000) 31 : Int32).toInt := congrArg Int32.toInt (((((hkI85.get (1000) 31 rfl)).trans (hkI38.get (1000) 31 rfl)).trans (hkI23.get (1000) 31 rfl)).trans (hkI13.get (1000) 31 rfl))
                  have pv93 : pN 10 = 1 ∧ pB 10 = 1 := by decide
                  have po94 := xI85.2
                  refine lv_aload_n hx hb dX10_test_108 rfl (lv_at hl 4 rfl) ?_
                  refine lv_dup hx hb dX10_test_109 rfl ?_
                  refine m_geti (1000) 25 hx hb hts hown hE oc10 hM hJ.1 rfl (by decide) rfl tb_1202 dX10_test_110 ?_
                  have g95 := hI.get (1000) 25 (lo := 0) (hi := 100000) rfl
                  have z96 : I85 (1000) 25 = I23 (1000) 25 := ((hkI85.get (1000) 25 rfl)).trans (hkI38.get (1000) 25 rfl)
                  rw [z96] at g95 ⊢
                  refine lv_iload_n hx hb dX10_test_113 rfl (lv_at hl 1 rfl) ?_
                  refine lv_if_eq (tgt := 121) hx hb dX10_test_114 (by decide) (fun c97 => ?_) (fun c97 => ?_)
                  · have hc97 := c97
                    have q97 := q_eq hc97
                    refine lv_iconst (v := (2)) hx hb dX10_test_121 (by decide) ?_
                    refine lv_iadd hx hb dX10_test_122 ?_
                    refine lv_topi (fun v98 ev98 => ?_)
                    have tv98 := a_add ev98 (by omega) (by omega)
                    refine m_puti (1000) 25 hx hb hts hown hE oc10 hM hS hJ.1 rfl (by decide) rfl rfl rfl rfl tb_1202 dX10_test_123 (fun H locs I99 eI99 hM hS => ?_)
                    subst eI99
                    have hI := hI.put (n := 1000) (k := 25) (v := v98) (lo := 0) (hi := 100000) rfl (by first | omega | decide)
                    have hK := hK.put (n := 1000) (k := 25) (v := v98) (by first | rfl | simp [inR])
                    refine lv_iconst (v := (1)) hx hb dX10_test_126 (by decide) ?_
                    refine lv_istore_n (lv' := [(1, .int (1)), (4, .int (r34)), (3, .int (r31)), (2, .int (x2_9)), (0, .ref (ad (1000)))]) hx hb dX10_test_127 rfl hl (by decide) rfl (fun ls hl => ?_)
                    refine lv_goto (tgt := 199) hx hb dX10_test_128 (by decide) ?_
                    refine lv_goto (tgt := 9) hx hb dX10_test_199 (by decide) ?_
                    have pw100 : ((u2 I85 (1000) 25 (v98)) (1000) 24).toInt = (Ia9 (1000) 24 : Int32).toInt := congrArg Int32.toInt ((((((show (u2 I85 (1000) 25 (v98)) (1000) 24 = I85 (1000) 24 from by simp [u2_v])).trans (hkI85.get (1000) 24 rfl)).trans (hkI38.get (1000) 24 rfl)).trans (hkI23.get (1000) 24 rfl)).trans (hkI13.get (1000) 24 rfl))
                    have pw101 : ((u2 I85 (1000) 25 (v98)) (1000) 25).toInt = (v98 : Int32).toInt := congrArg Int32.toInt ((show (u2 I85 (1000) 25 (v98)) (1000) 25 = v98 from by simp [u2_v]))
                    have pw102 : ((u2 I85 (1000) 25 (v98)) (1000) 26).toInt = (I85 (1000) 26 : Int32).toInt := congrArg Int32.toInt ((show (u2 I85 (1000) 25 (v98)) (1000) 26 = I85 (1000) 26 from by simp [u2_v]))
                    have pw103 : ((u2 I85 (1000) 25 (v98)) (1000) 27).toInt = (Ia9 (1000) 27 : Int32).toInt := congrArg Int32.toInt ((((((show (u2 I85 (1000) 25 (v98)) (1000) 27 = I85 (1000) 27 from by simp [u2_v])).trans (hkI85.get (1000) 27 rfl)).trans (hkI38.get (1000) 27 rfl)).trans (hkI23.get (1000) 27 rfl)).trans (hkI13.get (1000) 27 rfl))
                    have pw104 : ((u2 I85 (1000) 25 (v98)) (1000) 29).toInt = (I38 (1000) 29 : Int32).toInt := congrArg Int32.toInt (((show (u2 I85 (1000) 25 (v98)) (1000) 29 = I85 (1000) 29 from by simp [u2_v])).trans (hkI85.get (1000) 29 rfl))
                    have pw105 : ((u2 I85 (1000) 25 (v98)) (1000) 31).toInt = (Ia9 (1000) 31 : Int32).toInt := congrArg Int32.toInt ((((((show (u2 I85 (1000) 25 (v98)) (1000) 31 = I85 (1000) 31 from by simp [u2_v])).trans (hkI85.get (1000) 31 rfl)).trans (hkI38.get (1000) 31 rfl)).trans (hkI23.get (1000) 31 rfl)).trans (hkI13.get (1000) 31 rfl))
                    have pw106 : ((u2 I85 (1000) 25 (v98)) (1000) 32).toInt = (I85 (1000) 32 : Int32).toInt := congrArg Int32.toInt ((show (u2 I85 (1000) 25 (v98)) (1000) 32 = I85 (1000) 32 from by simp [u2_v]))
                    replace hC := CT.link (I2 := (u2 I85 (1000) 25 (v98))) hC (((show (u2 I85 (1000) 25 (v98)) 1035 = I85 1035 from by funext zz; simp [u2_v])).trans (hkI85.getA 1035 rfl)) (((show (u2 I85 (1000) 25 (v98)) 1036 = I85 1036 from by funext zz; simp [u2_v])).trans (hkI85.getA 1036 rfl)) (by omega) (fun hz => by have w0 := xI85.1 (by omega); omega)
                    have nn107 := NS_of (I2 := (u2 I85 (1000) 25 (v98))) (I := I85) ((show (u2 I85 (1000) 25 (v98)) 1042 = I85 1042 from by funext zz; simp [u2_v])) (by omega)
                    have gP9 := hI.get 1000 25 (lo := 0) (hi := 100000) rfl
                    have gO9 := hI.get 1000 32 (lo := 0) (hi := 402) rfl
                    exact ih9 (x2_9) (1) (u2 I85 (1000) 25 (v98)) L86 _ _ ls hI hK (by first | omega | decide) (by first | omega | decide) (by omega) (fun hz => by have w0 := xI85.1 (by omega); omega) (by rw [show NB (u2 I85 (1000) 25 (v98)) + (1 - (1 : Int32).toInt).toNat = dd from by omega]; exact hC) (by omega) hM hS (lv_sub hl [3, 0, 4] rfl)
                  · have hc97 := c97
                    have q97 := q_ne hc97
                    have sg108 := slr31 (by omega)
                    refine lv_iconst (v := (3)) hx hb dX10_test_117 (by decide) ?_
                    refine lv_goto (tgt := 122) hx hb dX10_test_118 (by decide) ?_
                    refine lv_iadd hx hb dX10_test_122 ?_
                    refine lv_topi (fun v109 ev109 => ?_)
                    have tv109 := a_add ev109 (by omega) (by omega)
                    refine m_puti (1000) 25 hx hb hts hown hE oc10 hM hS hJ.1 rfl (by decide) rfl rfl rfl rfl tb_1202 dX10_test_123 (fun H locs I110 eI110 hM hS => ?_)
                    subst eI110
                    have hI := hI.put (n := 1000) (k := 25) (v := v109) (lo := 0) (hi := 100000) rfl (by first | omega | decide)
                    have hK := hK.put (n := 1000) (k := 25) (v := v109) (by first | rfl | simp [inR])
                    refine lv_iconst (v := (1)) hx hb dX10_test_126 (by decide) ?_
                    refine lv_istore_n (lv' := [(1, .int (1)), (4, .int (r34)), (3, .int (r31)), (2, .int (x2_9)), (0, .ref (ad (1000)))]) hx hb dX10_test_127 rfl hl (by decide) rfl (fun ls hl => ?_)
                    refine lv_goto (tgt := 199) hx hb dX10_test_128 (by decide) ?_
                    refine lv_goto (tgt := 9) hx hb dX10_test_199 (by decide) ?_
                    have pw111 : ((u2 I85 (1000) 25 (v109)) (1000) 24).toInt = (Ia9 (1000) 24 : Int32).toInt := congrArg Int32.toInt ((((((show (u2 I85 (1000) 25 (v109)) (1000) 24 = I85 (1000) 24 from by simp [u2_v])).trans (hkI85.get (1000) 24 rfl)).trans (hkI38.get (1000) 24 rfl)).trans (hkI23.get (1000) 24 rfl)).trans (hkI13.get (1000) 24 rfl))
                    have pw112 : ((u2 I85 (1000) 25 (v109)) (1000) 25).toInt = (v109 : Int32).toInt := congrArg Int32.toInt ((show (u2 I85 (1000) 25 (v109)) (1000) 25 = v109 from by simp [u2_v]))
                    have pw113 : ((u2 I85 (1000) 25 (v109)) (1000) 26).toInt = (I85 (1000) 26 : Int32).toInt := congrArg Int32.toInt ((show (u2 I85 (1000) 25 (v109)) (1000) 26 = I85 (1000) 26 from by simp [u2_v]))
                    have pw114 : ((u2 I85 (1000) 25 (v109)) (1000) 27).toInt = (Ia9 (1000) 27 : Int32).toInt := congrArg Int32.toInt ((((((show (u2 I85 (1000) 25 (v109)) (1000) 27 = I85 (1000) 27 from by simp [u2_v])).trans (hkI85.get (1000) 27 rfl)).trans (hkI38.get (1000) 27 rfl)).trans (hkI23.get (1000) 27 rfl)).trans (hkI13.get (1000) 27 rfl))
                    have pw115 : ((u2 I85 (1000) 25 (v109)) (1000) 29).toInt = (I38 (1000) 29 : Int32).toInt := congrArg Int32.toInt (((show (u2 I85 (1000) 25 (v109)) (1000) 29 = I85 (1000) 29 from by simp [u2_v])).trans (hkI85.get (1000) 29 rfl))
                    have pw116 : ((u2 I85 (1000) 25 (v109)) (1000) 31).toInt = (Ia9 (1000) 31 : Int32).toInt := congrArg Int32.toInt ((((((show (u2 I85 (1000) 25 (v109)) (1000) 31 = I85 (1000) 31 from by simp [u2_v])).trans (hkI85.get (1000) 31 rfl)).trans (hkI38.get (1000) 31 rfl)).trans (hkI23.get (1000) 31 rfl)).trans (hkI13.get (1000) 31 rfl))
                    have pw117 : ((u2 I85 (1000) 25 (v109)) (1000) 32).toInt = (I85 (1000) 32 : Int32).toInt := congrArg Int32.toInt ((show (u2 I85 (1000) 25 (v109)) (1000) 32 = I85 (1000) 32 from by simp [u2_v]))
                    replace hC := CT.link (I2 := (u2 I85 (1000) 25 (v109))) hC (((show (u2 I85 (1000) 25 (v109)) 1035 = I85 1035 from by funext zz; simp [u2_v])).trans (hkI85.getA 1035 rfl)) (((show (u2 I85 (1000) 25 (v109)) 1036 = I85 1036 from by funext zz; simp [u2_v])).trans (hkI85.getA 1036 rfl)) (by omega) (fun hz => by have w0 := xI85.1 (by omega); omega)
                    have nn118 := NS_of (I2 := (u2 I85 (1000) 25 (v109))) (I := I85) ((show (u2 I85 (1000) 25 (v109)) 1042 = I85 1042 from by funext zz; simp [u2_v])) (by omega)
                    have gP9 := hI.get 1000 25 (lo := 0) (hi := 100000) rfl
                    have gO9 := hI.get 1000 32 (lo := 0) (hi := 402) rfl
                    exact ih9 (x2_9) (1) (u2 I85 (1000) 25 (v109)) L86 _ _ ls hI hK (by first | omega | decide) (by first | omega | decide) (by omega) (fun hz => by have w0 := xI85.1 (by omega); omega) (by rw [show NB (u2 I85 (1000) 25 (v109)) + (1 - (1 : Int32).toInt).toNat = dd from by omega]; exact hC) (by omega) hM hS (lv_sub hl [3, 0, 4] rfl)
              · have hc48 := c48
                have q48 := q_ne hc48
                have sg119 := slr34 (by omega)
                refine lv_aload_n hx hb dX10_test_87 rfl (lv_at hl 4 rfl) ?_
                refine lv_bipush (v := (11)) hx hb dX10_test_88 (by decide) ?_
                refine m_callv (m_runV (1000) (As := [.int (11)]) (rest := []) hx hb hml hown hts hE hM hS hA ce_X10_answers tb_1594 (V_X10_answers l D A ad ns I38 L39 G (11) hJ hI (by decide) (fun hz => by omega)) rfl rfl ⟨Nat.le_of_ble_eq_true rfl, Nat.le_of_ble_eq_true rfl⟩ hJ.1 rfl rfl (by decide) rfl hl.1 rfl (Nat.le_of_ble_eq_true rfl) dX10_test_90 ⟨Nat.le_of_ble_eq_true rfl, Nat.le_of_ble_eq_true rfl⟩) hS (fun u H locs hw hM hS => ?_)
                obtain ⟨I120, L121, rfl, hI, hkI120, xI120⟩ := hw
                have hM : Mem D A ad ns I120 L121 G H := hM
                have hK := hK.trans hkI120 rfl
                have g122 := hI.get 1000 32 (lo := 0) (hi := 402) rfl
                have pw123 : (I120 (1000) 24).toInt = (Ia9 (1000) 24 : Int32).toInt := congrArg Int32.toInt (((((hkI120.get (1000) 24 rfl)).trans (hkI38.get (1000) 24 rfl)).trans (hkI23.get (1000) 24 rfl)).trans (hkI13.get (1000) 24 rfl))
                have pw124 : (I120 (1000) 25).toInt = (I23 (1000) 25 : Int32).toInt := congrArg Int32.toInt (((hkI120.get (1000) 25 rfl)).trans (hkI38.get (1000) 25 rfl))
                have pw125 : (I120 (1000) 26).toInt = (Ia9 (1000) 26 : Int32).toInt := congrArg Int32.toInt (((((hkI120.get (1000) 26 rfl)).trans (hkI38.get (1000) 26 rfl)).trans (hkI23.get (1000) 26 rfl)).trans (hkI13.get (1000) 26 rfl))
                have pw126 : (I120 (1000) 27).toInt = (Ia9 (1000) 27 : Int32).toInt := congrArg Int32.toInt (((((hkI120.get (1000) 27 rfl)).trans (hkI38.get (1000) 27 rfl)).trans (hkI23.get (1000) 27 rfl)).trans (hkI13.get (1000) 27 rfl))
                have pw127 : (I120 (1000) 31).toInt = (Ia9 (1000) 31 : Int32).toInt := congrArg Int32.toInt (((((hkI120.get (1000) 31 rfl)).trans (hkI38.get (1000) 31 rfl)).trans (hkI23.get (1000) 31 rfl)).trans (hkI13.get (1000) 31 rfl))
                replace hC := CT.comp (n1 := NB I38 + 1) (by rw [show NB I38 + 1 = dd from by omega]; exact hC) (xI120.2.2.2) (by omega) (by omega) (by omega) (by omega) (fun hz => by omega)
                obtain ⟨dd, hdd⟩ : ∃ z : Nat, z = NB I120 + 1 := ⟨_, rfl⟩
                rw [← hdd] at hC
                refine lv_aload_n hx hb dX10_test_93 rfl (lv_at hl 4 rfl) ?_
                refine lv_iload_n hx hb dX10_test_94 rfl (lv_at hl 1 rfl) ?_
                refine lv_if_eq (tgt := 103) hx hb dX10_test_95 (by decide) (fun c128 => ?_) (fun c128 => ?_)
                · have hc128 := c128
                  have q128 := q_eq hc128
                  refine lv_bipush (v := (11)) hx hb dX10_test_103 (by decide) ?_
                  refine m_callv (m_runV (1000) (As := [.int (11)]) (rest := []) hx hb hml hown hts hE hM hS hA ce_X10_opens tb_1586 (V_X10_opens l D A ad ns I120 L121 G (11) hJ hI (by first | omega | decide) (by omega)) rfl rfl ⟨Nat.le_of_ble_eq_true rfl, Nat.le_of_ble_eq_true rfl⟩ hJ.1 rfl rfl (by decide) rfl hl.1 rfl (Nat.le_of_ble_eq_true rfl) dX10_test_105 ⟨Nat.le_of_ble_eq_true rfl, Nat.le_of_ble_eq_true rfl⟩) hS (fun u H locs hw hM hS => ?_)
                  obtain ⟨I129, L130, rfl, hI, hkI129, xI129⟩ := hw
                  have hM : Mem D A ad ns I129 L130 G H := hM
                  have hK := hK.trans hkI129 rfl
                  have g131 := hI.get 1000 32 (lo := 0) (hi := 402) rfl
                  have pw132 : (I129 (1000) 24).toInt = (Ia9 (1000) 24 : Int32).toInt := congrArg Int32.toInt ((((((hkI129.get (1000) 24 rfl)).trans (hkI120.get (1000) 24 rfl)).trans (hkI38.get (1000) 24 rfl)).trans (hkI23.get (1000) 24 rfl)).trans (hkI13.get (1000) 24 rfl))
                  have pw133 : (I129 (1000) 25).toInt = (I23 (1000) 25 : Int32).toInt := congrArg Int32.toInt ((((hkI129.get (1000) 25 rfl)).trans (hkI120.get (1000) 25 rfl)).trans (hkI38.get (1000) 25 rfl))
                  have pw134 : (I129 (1000) 27).toInt = (Ia9 (1000) 27 : Int32).toInt := congrArg Int32.toInt ((((((hkI129.get (1000) 27 rfl)).trans (hkI120.get (1000) 27 rfl)).trans (hkI38.get (1000) 27 rfl)).trans (hkI23.get (1000) 27 rfl)).trans (hkI13.get (1000) 27 rfl))
                  have pw135 : (I129 (1000) 29).toInt = (I120 (1000) 29 : Int32).toInt := congrArg Int32.toInt ((hkI129.get (1000) 29 rfl))
                  have pw136 : (I129 (1000) 31).toInt = (Ia9 (1000) 31 : Int32).toInt := congrArg Int32.toInt ((((((hkI129.get (1000) 31 rfl)).trans (hkI120.get (1000) 31 rfl)).trans (hkI38.get (1000) 31 rfl)).trans (hkI23.get (1000) 31 rfl)).trans (hkI13.get (1000) 31 rfl))
                  have pv137 : pN 11 = 1 ∧ pB 11 = 1 := by decide
                  have po138 := xI129.2
                  refine lv_aload_n hx hb dX10_test_108 rfl (lv_at hl 4 rfl) ?_
                  refine lv_dup hx hb dX10_test_109 rfl ?_
                  refine m_geti (1000) 25 hx hb hts hown hE oc10 hM hJ.1 rfl (by decide) rfl tb_1202 dX10_test_110 ?_
                  have g139 := hI.get (1000) 25 (lo := 0) (hi := 100000) rfl
                  have z140 : I129 (1000) 25 = I23 (1000) 25 := (((hkI129.get (1000) 25 rfl)).trans (hkI120.get (1000) 25 rfl)).trans (hkI38.get (1000) 25 rfl)
                  rw [z140] at g139 ⊢
                  refine lv_iload_n hx hb dX10_test_113 rfl (lv_at hl 1 rfl) ?_
                  refine lv_if_eq (tgt := 121) hx hb dX10_test_114 (by decide) (fun c141 => ?_) (fun c141 => ?_)
                  · have hc141 := c141
                    have q141 := q_eq hc141
                    refine lv_iconst (v := (2)) hx hb dX10_test_121 (by decide) ?_
                    refine lv_iadd hx hb dX10_test_122 ?_
                    refine lv_topi (fun v142 ev142 => ?_)
                    have tv142 := a_add ev142 (by omega) (by omega)
                    refine m_puti (1000) 25 hx hb hts hown hE oc10 hM hS hJ.1 rfl (by decide) rfl rfl rfl rfl tb_1202 dX10_test_123 (fun H locs I143 eI143 hM hS => ?_)
                    subst eI143
                    have hI := hI.put (n := 1000) (k := 25) (v := v142) (lo := 0) (hi := 100000) rfl (by first | omega | decide)
                    have hK := hK.put (n := 1000) (k := 25) (v := v142) (by first | rfl | simp [inR])
                    refine lv_iconst (v := (1)) hx hb dX10_test_126 (by decide) ?_
                    refine lv_istore_n (lv' := [(1, .int (1)), (4, .int (r34)), (3, .int (r31)), (2, .int (x2_9)), (0, .ref (ad (1000)))]) hx hb dX10_test_127 rfl hl (by decide) rfl (fun ls hl => ?_)
                    refine lv_goto (tgt := 199) hx hb dX10_test_128 (by decide) ?_
                    refine lv_goto (tgt := 9) hx hb dX10_test_199 (by decide) ?_
                    have pw144 : ((u2 I129 (1000) 25 (v142)) (1000) 24).toInt = (Ia9 (1000) 24 : Int32).toInt := congrArg Int32.toInt (((((((show (u2 I129 (1000) 25 (v142)) (1000) 24 = I129 (1000) 24 from by simp [u2_v])).trans (hkI129.get (1000) 24 rfl)).trans (hkI120.get (1000) 24 rfl)).trans (hkI38.get (1000) 24 rfl)).trans (hkI23.get (1000) 24 rfl)).trans (hkI13.get (1000) 24 rfl))
                    have pw145 : ((u2 I129 (1000) 25 (v142)) (1000) 25).toInt = (v142 : Int32).toInt := congrArg Int32.toInt ((show (u2 I129 (1000) 25 (v142)) (1000) 25 = v142 from by simp [u2_v]))
                    have pw146 : ((u2 I129 (1000) 25 (v142)) (1000) 26).toInt = (I129 (1000) 26 : Int32).toInt := congrArg Int32.toInt ((show (u2 I129 (1000) 25 (v142)) (1000) 26 = I129 (1000) 26 from by simp [u2_v]))
                    have pw147 : ((u2 I129 (1000) 25 (v142)) (1000) 27).toInt = (Ia9 (1000) 27 : Int32).toInt := congrArg Int32.toInt (((((((show (u2 I129 (1000) 25 (v142)) (1000) 27 = I129 (1000) 27 from by simp [u2_v])).trans (hkI129.get (1000) 27 rfl)).trans (hkI120.get (1000) 27 rfl)).trans (hkI38.get (1000) 27 rfl)).trans (hkI23.get (1000) 27 rfl)).trans (hkI13.get (1000) 27 rfl))
                    have pw148 : ((u2 I129 (1000) 25 (v142)) (1000) 29).toInt = (I120 (1000) 29 : Int32).toInt := congrArg Int32.toInt (((show (u2 I129 (1000) 25 (v142)) (1000) 29 = I129 (1000) 29 from by simp [u2_v])).trans (hkI129.get (1000) 29 rfl))
                    have pw149 : ((u2 I129 (1000) 25 (v142)) (1000) 31).toInt = (Ia9 (1000) 31 : Int32).toInt := congrArg Int32.toInt (((((((show (u2 I129 (1000) 25 (v142)) (1000) 31 = I129 (1000) 31 from by simp [u2_v])).trans (hkI129.get (1000) 31 rfl)).trans (hkI120.get (1000) 31 rfl)).trans (hkI38.get (1000) 31 rfl)).trans (hkI23.get (1000) 31 rfl)).trans (hkI13.get (1000) 31 rfl))
                    have pw150 : ((u2 I129 (1000) 25 (v142)) (1000) 32).toInt = (I129 (1000) 32 : Int32).toInt := congrArg Int32.toInt ((show (u2 I129 (1000) 25 (v142)) (1000) 32 = I129 (1000) 32 from by simp [u2_v]))
                    replace hC := CT.link (I2 := (u2 I129 (1000) 25 (v142))) hC (((show (u2 I129 (1000) 25 (v142)) 1035 = I129 1035 from by funext zz; simp [u2_v])).trans (hkI129.getA 1035 rfl)) (((show (u2 I129 (1000) 25 (v142)) 1036 = I129 1036 from by funext zz; simp [u2_v])).trans (hkI129.getA 1036 rfl)) (by omega) (fun hz => by have w0 := xI129.1 (by omega); omega)
                    have nn151 := NS_of (I2 := (u2 I129 (1000) 25 (v142))) (I := I129) ((show (u2 I129 (1000) 25 (v142)) 1042 = I129 1042 from by funext zz; simp [u2_v])) (by omega)
                    have gP9 := hI.get 1000 25 (lo := 0) (hi := 100000) rfl
                    have gO9 := hI.get 1000 32 (lo := 0) (hi := 402) rfl
                    exact ih9 (x2_9) (1) (u2 I129 (1000) 25 (v142)) L130 _ _ ls hI hK (by first | omega | decide) (by first | omega | decide) (by omega) (fun hz => by have w0 := xI129.1 (by omega); omega) (by rw [show NB (u2 I129 (1000) 25 (v142)) + (1 - (1 : Int32).toInt).toNat = dd from by omega]; exact hC) (by omega) hM hS (lv_sub hl [3, 0, 4] rfl)
                  · have hc141 := c141
                    have q141 := q_ne hc141
                    have sg152 := slr31 (by omega)
                    refine lv_iconst (v := (3)) hx hb dX10_test_117 (by decide) ?_
                    refine lv_goto (tgt := 122) hx hb dX10_test_118 (by decide) ?_
                    refine lv_iadd hx hb dX10_test_122 ?_
                    refine lv_topi (fun v153 ev153 => ?_)
                    have tv153 := a_add ev153 (by omega) (by omega)
                    refine m_puti (1000) 25 hx hb hts hown hE oc10 hM hS hJ.1 rfl (by decide) rfl rfl rfl rfl tb_1202 dX10_test_123 (fun H locs I154 eI154 hM hS => ?_)
                    subst eI154
                    have hI := hI.put (n := 1000) (k := 25) (v := v153) (lo := 0) (hi := 100000) rfl (by first | omega | decide)
                    have hK := hK.put (n := 1000) (k := 25) (v := v153) (by first | rfl | simp [inR])
                    refine lv_iconst (v := (1)) hx hb dX10_test_126 (by decide) ?_
                    refine lv_istore_n (lv' := [(1, .int (1)), (4, .int (r34)), (3, .int (r31)), (2, .int (x2_9)), (0, .ref (ad (1000)))]) hx hb dX10_test_127 rfl hl (by decide) rfl (fun ls hl => ?_)
                    refine lv_goto (tgt := 199) hx hb dX10_test_128 (by decide) ?_
                    refine lv_goto (tgt := 9) hx hb dX10_test_199 (by decide) ?_
                    have pw155 : ((u2 I129 (1000) 25 (v153)) (1000) 24).toInt = (Ia9 (1000) 24 : Int32).toInt := congrArg Int32.toInt (((((((show (u2 I129 (1000) 25 (v153)) (1000) 24 = I129 (1000) 24 from by simp [u2_v])).trans (hkI129.get (1000) 24 rfl)).trans (hkI120.get (1000) 24 rfl)).trans (hkI38.get (1000) 24 rfl)).trans (hkI23.get (1000) 24 rfl)).trans (hkI13.get (1000) 24 rfl))
                    have pw156 : ((u2 I129 (1000) 25 (v153)) (1000) 25).toInt = (v153 : Int32).toInt := congrArg Int32.toInt ((show (u2 I129 (1000) 25 (v153)) (1000) 25 = v153 from by simp [u2_v]))
                    have pw157 : ((u2 I129 (1000) 25 (v153)) (1000) 26).toInt = (I129 (1000) 26 : Int32).toInt := congrArg Int32.toInt ((show (u2 I129 (1000) 25 (v153)) (1000) 26 = I129 (1000) 26 from by simp [u2_v]))
                    have pw158 : ((u2 I129 (1000) 25 (v153)) (1000) 27).toInt = (Ia9 (1000) 27 : Int32).toInt := congrArg Int32.toInt (((((((show (u2 I129 (1000) 25 (v153)) (1000) 27 = I129 (1000) 27 from by simp [u2_v])).trans (hkI129.get (1000) 27 rfl)).trans (hkI120.get (1000) 27 rfl)).trans (hkI38.get (1000) 27 rfl)).trans (hkI23.get (1000) 27 rfl)).trans (hkI13.get (1000) 27 rfl))
                    have pw159 : ((u2 I129 (1000) 25 (v153)) (1000) 29).toInt = (I120 (1000) 29 : Int32).toInt := congrArg Int32.toInt (((show (u2 I129 (1000) 25 (v153)) (1000) 29 = I129 (1000) 29 from by simp [u2_v])).trans (hkI129.get (1000) 29 rfl))
                    have pw160 : ((u2 I129 (1000) 25 (v153)) (1000) 31).toInt = (Ia9 (1000) 31 : Int32).toInt := congrArg Int32.toInt (((((((show (u2 I129 (1000) 25 (v153)) (1000) 31 = I129 (1000) 31 from by simp [u2_v])).trans (hkI129.get (1000) 31 rfl)).trans (hkI120.get (1000) 31 rfl)).trans (hkI38.get (1000) 31 rfl)).trans (hkI23.get (1000) 31 rfl)).trans (hkI13.get (1000) 31 rfl))
                    have pw161 : ((u2 I129 (1000) 25 (v153)) (1000) 32).toInt = (I129 (1000) 32 : Int32).toInt := congrArg Int32.toInt ((show (u2 I129 (1000) 25 (v153)) (1000) 32 = I129 (1000) 32 from by simp [u2_v]))
                    replace hC := CT.link (I2 := (u2 I129 (1000) 25 (v153))) hC (((show (u2 I129 (1000) 25 (v153)) 1035 = I129 1035 from by funext zz; simp [u2_v])).trans (hkI129.getA 1035 rfl)) (((show (u2 I129 (1000) 25 (v153)) 1036 = I129 1036 from by funext zz; simp [u2_v])).trans (hkI129.getA 1036 rfl)) (by omega) (fun hz => by have w0 := xI129.1 (by omega); omega)
                    have nn162 := NS_of (I2 := (u2 I129 (1000) 25 (v153))) (I := I129) ((show (u2 I129 (1000) 25 (v153)) 1042 = I129 1042 from by funext zz; simp [u2_v])) (by omega)
                    have gP9 := hI.get 1000 25 (lo := 0) (hi := 100000) rfl
                    have gO9 := hI.get 1000 32 (lo := 0) (hi := 402) rfl
                    exact ih9 (x2_9) (1) (u2 I129 (1000) 25 (v153)) L130 _ _ ls hI hK (by first | omega | decide) (by first | omega | decide) (by omega) (fun hz => by have w0 := xI129.1 (by omega); omega) (by rw [show NB (u2 I129 (1000) 25 (v153)) + (1 - (1 : Int32).toInt).toNat = dd from by omega]; exact hC) (by omega) hM hS (lv_sub hl [3, 0, 4] rfl)
                · have hc128 := c128
                  have q128 := q_ne hc128
                  have sg163 := slr31 (by omega)
                  refine lv_bipush (v := (10)) hx hb dX10_test_98 (by decide) ?_
                  refine lv_goto (tgt := 105) hx hb dX10_test_100 (by decide) ?_
                  refine m_callv (m_runV (1000) (As := [.int (10)]) (rest := []) hx hb hml hown hts hE hM hS hA ce_X10_opens tb_1586 (V_X10_opens l D A ad ns I120 L121 G (10) hJ hI (by first | omega | decide) (by omega)) rfl rfl ⟨Nat.le_of_ble_eq_true rfl, Nat.le_of_ble_eq_true rfl⟩ hJ.1 rfl rfl (by decide) rfl hl.1 rfl (Nat.le_of_ble_eq_true rfl) dX10_test_105 ⟨Nat.le_of_ble_eq_true rfl, Nat.le_of_ble_eq_true rfl⟩) hS (fun u H locs hw hM hS => ?_)
                  obtain ⟨I164, L165, rfl, hI, hkI164, xI164⟩ := hw
                  have hM : Mem D A ad ns I164 L165 G H := hM
                  have hK := hK.trans hkI164 rfl
                  have g166 := hI.get 1000 32 (lo := 0) (hi := 402) rfl
                  have pw167 : (I164 (1000) 24).toInt = (Ia9 (1000) 24 : Int32).toInt := congrArg Int32.toInt ((((((hkI164.get (1000) 24 rfl)).trans (hkI120.get (1000) 24 rfl)).trans (hkI38.get (1000) 24 rfl)).trans (hkI23.get (1000) 24 rfl)).trans (hkI13.get (1000) 24 rfl))
                  have pw168 : (I164 (1000) 25).toInt = (I23 (1000) 25 : Int32).toInt := congrArg Int32.toInt ((((hkI164.get (1000) 25 rfl)).trans (hkI120.get (1000) 25 rfl)).trans (hkI38.get (1000) 25 rfl))
                  have pw169 : (I164 (1000) 27).toInt = (Ia9 (1000) 27 : Int32).toInt := congrArg Int32.toInt ((((((hkI164.get (1000) 27 rfl)).trans (hkI120.get (1000) 27 rfl)).trans (hkI38.get (1000) 27 rfl)).trans (hkI23.get (1000) 27 rfl)).trans (hkI13.get (1000) 27 rfl))
                  have pw170 : (I164 (1000) 29).toInt = (I120 (1000) 29 : Int32).toInt := congrArg Int32.toInt ((hkI164.get (1000) 29 rfl))
                  have pw171 : (I164 (1000) 31).toInt = (Ia9 (1000) 31 : Int32).toInt := congrArg Int32.toInt ((((((hkI164.get (1000) 31 rfl)).trans (hkI120.get (1000) 31 rfl)).trans (hkI38.get (1000) 31 rfl)).trans (hkI23.get (1000) 31 rfl)).trans (hkI13.get (1000) 31 rfl))
                  have pv172 : pN 10 = 1 ∧ pB 10 = 1 := by decide
                  have po173 := xI164.2
                  refine lv_aload_n hx hb dX10_test_108 rfl (lv_at hl 4 rfl) ?_
                  refine lv_dup hx hb dX10_test_109 rfl ?_
                  refine m_geti (1000) 25 hx hb hts hown hE oc10 hM hJ.1 rfl (by decide) rfl tb_1202 dX10_test_110 ?_
                  have g174 := hI.get (1000) 25 (lo := 0) (hi := 100000) rfl
                  have z175 : I164 (1000) 25 = I23 (1000) 25 := (((hkI164.get (1000) 25 rfl)).trans (hkI120.get (1000) 25 rfl)).trans (hkI38.get (1000) 25 rfl)
                  rw [z175] at g174 ⊢
                  refine lv_iload_n hx hb dX10_test_113 rfl (lv_at hl 1 rfl) ?_
                  refine lv_if_eq (tgt := 121) hx hb dX10_test_114 (by decide) (fun c176 => ?_) (fun c176 => ?_)
                  · have hc176 := c176
                    have q176 := q_eq hc176
                    refine lv_iconst (v := (2)) hx hb dX10_test_121 (by decide) ?_
                    refine lv_iadd hx hb dX10_test_122 ?_
                    refine lv_topi (fun v177 ev177 => ?_)
                    have tv177 := a_add ev177 (by omega) (by omega)
                    refine m_puti (1000) 25 hx hb hts hown hE oc10 hM hS hJ.1 rfl (by decide) rfl rfl rfl rfl tb_1202 dX10_test_123 (fun H locs I178 eI178 hM hS => ?_)
                    subst eI178
                    have hI := hI.put (n := 1000) (k := 25) (v := v177) (lo := 0) (hi := 100000) rfl (by first | omega | decide)
                    have hK := hK.put (n := 1000) (k := 25) (v := v177) (by first | rfl | simp [inR])
                    refine lv_iconst (v := (1)) hx hb dX10_test_126 (by decide) ?_
                    refine lv_istore_n (lv' := [(1, .int (1)), (4, .int (r34)), (3, .int (r31)), (2, .int (x2_9)), (0, .ref (ad (1000)))]) hx hb dX10_test_127 rfl hl (by decide) rfl (fun ls hl => ?_)
                    refine lv_goto (tgt := 199) hx hb dX10_test_128 (by decide) ?_
                    refine lv_goto (tgt := 9) hx hb dX10_test_199 (by decide) ?_
                    have pw179 : ((u2 I164 (1000) 25 (v177)) (1000) 24).toInt = (Ia9 (1000) 24 : Int32).toInt := congrArg Int32.toInt (((((((show (u2 I164 (1000) 25 (v177)) (1000) 24 = I164 (1000) 24 from by simp [u2_v])).trans (hkI164.get (1000) 24 rfl)).trans (hkI120.get (1000) 24 rfl)).trans (hkI38.get (1000) 24 rfl)).trans (hkI23.get (1000) 24 rfl)).trans (hkI13.get (1000) 24 rfl))
                    have pw180 : ((u2 I164 (1000) 25 (v177)) (1000) 25).toInt = (v177 : Int32).toInt := congrArg Int32.toInt ((show (u2 I164 (1000) 25 (v177)) (1000) 25 = v177 from by simp [u2_v]))
                    have pw181 : ((u2 I164 (1000) 25 (v177)) (1000) 26).toInt = (I164 (1000) 26 : Int32).toInt := congrArg Int32.toInt ((show (u2 I164 (1000) 25 (v177)) (1000) 26 = I164 (1000) 26 from by simp [u2_v]))
                    have pw182 : ((u2 I164 (1000) 25 (v177)) (1000) 27).toInt = (Ia9 (1000) 27 : Int32).toInt := congrArg Int32.toInt (((((((show (u2 I164 (1000) 25 (v177)) (1000) 27 = I164 (1000) 27 from by simp [u2_v])).trans (hkI164.get (1000) 27 rfl)).trans (hkI120.get (1000) 27 rfl)).trans (hkI38.get (1000) 27 rfl)).trans (hkI23.get (1000) 27 rfl)).trans (hkI13.get (1000) 27 rfl))
                    have pw183 : ((u2 I164 (1000) 25 (v177)) (1000) 29).toInt = (I120 (1000) 29 : Int32).toInt := congrArg Int32.toInt (((show (u2 I164 (1000) 25 (v177)) (1000) 29 = I164 (1000) 29 from by simp [u2_v])).trans (hkI164.get (1000) 29 rfl))
                    have pw184 : ((u2 I164 (1000) 25 (v177)) (1000) 31).toInt = (Ia9 (1000) 31 : Int32).toInt := congrArg Int32.toInt (((((((show (u2 I164 (1000) 25 (v177)) (1000) 31 = I164 (1000) 31 from by simp [u2_v])).trans (hkI164.get (1000) 31 rfl)).trans (hkI120.get (1000) 31 rfl)).trans (hkI38.get (1000) 31 rfl)).trans (hkI23.get (1000) 31 rfl)).trans (hkI13.get (1000) 31 rfl))
                    have pw185 : ((u2 I164 (1000) 25 (v177)) (1000) 32).toInt = (I164 (1000) 32 : Int32).toInt := congrArg Int32.toInt ((show (u2 I164 (1000) 25 (v177)) (1000) 32 = I164 (1000) 32 from by simp [u2_v]))
                    replace hC := CT.link (I2 := (u2 I164 (1000) 25 (v177))) hC (((show (u2 I164 (1000) 25 (v177)) 1035 = I164 1035 from by funext zz; simp [u2_v])).trans (hkI164.getA 1035 rfl)) (((show (u2 I164 (1000) 25 (v177)) 1036 = I164 1036 from by funext zz; simp [u2_v])).trans (hkI164.getA 1036 rfl)) (by omega) (fun hz => by have w0 := xI164.1 (by omega); omega)
                    have nn186 := NS_of (I2 := (u2 I164 (1000) 25 (v177))) (I := I164) ((show (u2 I164 (1000) 25 (v177)) 1042 = I164 1042 from by funext zz; simp [u2_v])) (by omega)
                    have gP9 := hI.get 1000 25 (lo := 0) (hi := 100000) rfl
                    have gO9 := hI.get 1000 32 (lo := 0) (hi := 402) rfl
                    exact ih9 (x2_9) (1) (u2 I164 (1000) 25 (v177)) L165 _ _ ls hI hK (by first | omega | decide) (by first | omega | decide) (by omega) (fun hz => by have w0 := xI164.1 (by omega); omega) (by rw [show NB (u2 I164 (1000) 25 (v177)) + (1 - (1 : Int32).toInt).toNat = dd from by omega]; exact hC) (by omega) hM hS (lv_sub hl [3, 0, 4] rfl)
                  · have hc176 := c176
                    have q176 := q_ne hc176
                    have sg187 := slr31 (by omega)
                    refine lv_iconst (v := (3)) hx hb dX10_test_117 (by decide) ?_
                    refine lv_goto (tgt := 122) hx hb dX10_test_118 (by decide) ?_
                    refine lv_iadd hx hb dX10_test_122 ?_
                    refine lv_topi (fun v188 ev188 => ?_)
                    have tv188 := a_add ev188 (by omega) (by omega)
                    refine m_puti (1000) 25 hx hb hts hown hE oc10 hM hS hJ.1 rfl (by decide) rfl rfl rfl rfl tb_1202 dX10_test_123 (fun H locs I189 eI189 hM hS => ?_)
                    subst eI189
                    have hI := hI.put (n := 1000) (k := 25) (v := v188) (lo := 0) (hi := 100000) rfl (by first | omega | decide)
                    have hK := hK.put (n := 1000) (k := 25) (v := v188) (by first | rfl | simp [inR])
                    refine lv_iconst (v := (1)) hx hb dX10_test_126 (by decide) ?_
                    refine lv_istore_n (lv' := [(1, .int (1)), (4, .int (r34)), (3, .int (r31)), (2, .int (x2_9)), (0, .ref (ad (1000)))]) hx hb dX10_test_127 rfl hl (by decide) rfl (fun ls hl => ?_)
                    refine lv_goto (tgt := 199) hx hb dX10_test_128 (by decide) ?_
                    refine lv_goto (tgt := 9) hx hb dX10_test_199 (by decide) ?_
                    have pw190 : ((u2 I164 (1000) 25 (v188)) (1000) 24).toInt = (Ia9 (1000) 24 : Int32).toInt := congrArg Int32.toInt (((((((show (u2 I164 (1000) 25 (v188)) (1000) 24 = I164 (1000) 24 from by simp [u2_v])).trans (hkI164.get (1000) 24 rfl)).trans (hkI120.get (1000) 24 rfl)).trans (hkI38.get (1000) 24 rfl)).trans (hkI23.get (1000) 24 rfl)).trans (hkI13.get (1000) 24 rfl))
                    have pw191 : ((u2 I164 (1000) 25 (v188)) (1000) 25).toInt = (v188 : Int32).toInt := congrArg Int32.toInt ((show (u2 I164 (1000) 25 (v188)) (1000) 25 = v188 from by simp [u2_v]))
                    have pw192 : ((u2 I164 (1000) 25 (v188)) (1000) 26).toInt = (I164 (1000) 26 : Int32).toInt := congrArg Int32.toInt ((show (u2 I164 (1000) 25 (v188)) (1000) 26 = I164 (1000) 26 from by simp [u2_v]))
                    have pw193 : ((u2 I164 (1000) 25 (v188)) (1000) 27).toInt = (Ia9 (1000) 27 : Int32).toInt := congrArg Int32.toInt (((((((show (u2 I164 (1000) 25 (v188)) (1000) 27 = I164 (1000) 27 from by simp [u2_v])).trans (hkI164.get (1000) 27 rfl)).trans (hkI120.get (1000) 27 rfl)).trans (hkI38.get (1000) 27 rfl)).trans (hkI23.get (1000) 27 rfl)).trans (hkI13.get (1000) 27 rfl))
                    have pw194 : ((u2 I164 (1000) 25 (v188)) (1000) 29).toInt = (I120 (1000) 29 : Int32).toInt := congrArg Int32.toInt (((show (u2 I164 (1000) 25 (v188)) (1000) 29 = I164 (1000) 29 from by simp [u2_v])).trans (hkI164.get (1000) 29 rfl))
                    have pw195 : ((u2 I164 (1000) 25 (v188)) (1000) 31).toInt = (Ia9 (1000) 31 : Int32).toInt := congrArg Int32.toInt (((((((show (u2 I164 (1000) 25 (v188)) (1000) 31 = I164 (1000) 31 from by simp [u2_v])).trans (hkI164.get (1000) 31 rfl)).trans (hkI120.get (1000) 31 rfl)).trans (hkI38.get (1000) 31 rfl)).trans (hkI23.get (1000) 31 rfl)).trans (hkI13.get (1000) 31 rfl))
                    have pw196 : ((u2 I164 (1000) 25 (v188)) (1000) 32).toInt = (I164 (1000) 32 : Int32).toInt := congrArg Int32.toInt ((show (u2 I164 (1000) 25 (v188)) (1000) 32 = I164 (1000) 32 from by simp [u2_v]))
                    replace hC := CT.link (I2 := (u2 I164 (1000) 25 (v188))) hC (((show (u2 I164 (1000) 25 (v188)) 1035 = I164 1035 from by funext zz; simp [u2_v])).trans (hkI164.getA 1035 rfl)) (((show (u2 I164 (1000) 25 (v188)) 1036 = I164 1036 from by funext zz; simp [u2_v])).trans (hkI164.getA 1036 rfl)) (by omega) (fun hz => by have w0 := xI164.1 (by omega); omega)
                    have nn197 := NS_of (I2 := (u2 I164 (1000) 25 (v188))) (I := I164) ((show (u2 I164 (1000) 25 (v188)) 1042 = I164 1042 from by funext zz; simp [u2_v])) (by omega)
                    have gP9 := hI.get 1000 25 (lo := 0) (hi := 100000) rfl
                    have gO9 := hI.get 1000 32 (lo := 0) (hi := 402) rfl
                    exact ih9 (x2_9) (1) (u2 I164 (1000) 25 (v188)) L165 _ _ ls hI hK (by first | omega | decide) (by first | omega | decide) (by omega) (fun hz => by have w0 := xI164.1 (by omega); omega) (by rw [show NB (u2 I164 (1000) 25 (v188)) + (1 - (1 : Int32).toInt).toNat = dd from by omega]; exact hC) (by omega) hM hS (lv_sub hl [3, 0, 4] rfl)
            · have hc46 := c46
              have q46 := q_eq hc46
              refine lv_iload hx hb dX10_test_77 (lv_at hl 0 rfl) ?_
              refine lv_if_eq (tgt := 131) hx hb dX10_test_79 (by decide) (fun c198 => ?_) (fun c198 => ?_)
              · have hc198 := c198
                have q198 := q_eq hc198
                refine lv_aload_n hx hb dX10_test_131 rfl (lv_at hl 4 rfl) ?_
                refine lv_bipush (v := (11)) hx hb dX10_test_132 (by decide) ?_
                refine m_callv (m_runV (1000) (As := [.int (11)]) (rest := []) hx hb hml hown hts hE hM hS hA ce_X10_answers tb_1594 (V_X10_answers l D A ad ns I38 L39 G (11) hJ hI (by decide) (fun hz => by omega)) rfl rfl ⟨Nat.le_of_ble_eq_true rfl, Nat.le_of_ble_eq_true rfl⟩ hJ.1 rfl rfl (by decide) rfl hl.1 rfl (Nat.le_of_ble_eq_true rfl) dX10_test_134 ⟨Nat.le_of_ble_eq_true rfl, Nat.le_of_ble_eq_true rfl⟩) hS (fun u H locs hw hM hS => ?_)
                obtain ⟨I199, L200, rfl, hI, hkI199, xI199⟩ := hw
                have hM : Mem D A ad ns I199 L200 G H := hM
                have hK := hK.trans hkI199 rfl
                have g201 := hI.get 1000 32 (lo := 0) (hi := 402) rfl
                have pw202 : (I199 (1000) 24).toInt = (Ia9 (1000) 24 : Int32).toInt := congrArg Int32.toInt (((((hkI199.get (1000) 24 rfl)).trans (hkI38.get (1000) 24 rfl)).trans (hkI23.get (1000) 24 rfl)).trans (hkI13.get (1000) 24 rfl))
                have pw203 : (I199 (1000) 25).toInt = (I23 (1000) 25 : Int32).toInt := congrArg Int32.toInt (((hkI199.get (1000) 25 rfl)).trans (hkI38.get (1000) 25 rfl))
                have pw204 : (I199 (1000) 26).toInt = (Ia9 (1000) 26 : Int32).toInt := congrArg Int32.toInt (((((hkI199.get (1000) 26 rfl)).trans (hkI38.get (1000) 26 rfl)).trans (hkI23.get (1000) 26 rfl)).trans (hkI13.get (1000) 26 rfl))
                have pw205 : (I199 (1000) 27).toInt = (Ia9 (1000) 27 : Int32).toInt := congrArg Int32.toInt (((((hkI199.get (1000) 27 rfl)).trans (hkI38.get (1000) 27 rfl)).trans (hkI23.get (1000) 27 rfl)).trans (hkI13.get (1000) 27 rfl))
                have pw206 : (I199 (1000) 31).toInt = (Ia9 (1000) 31 : Int32).toInt := congrArg Int32.toInt (((((hkI199.get (1000) 31 rfl)).trans (hkI38.get (1000) 31 rfl)).trans (hkI23.get (1000) 31 rfl)).trans (hkI13.get (1000) 31 rfl))
                replace hC := CT.comp (n1 := NB I38 + 1) (by rw [show NB I38 + 1 = dd from by omega]; exact hC) (xI199.2.2.2) (by omega) (by omega) (by omega) (by omega) (fun hz => by omega)
                obtain ⟨dd, hdd⟩ : ∃ z : Nat, z = NB I199 + 1 := ⟨_, rfl⟩
                rw [← hdd] at hC
                refine lv_aload_n hx hb dX10_test_137 rfl (lv_at hl 4 rfl) ?_
                refine m_calli (m_runV (1000) (As := []) (rest := []) hx hb hml hown hts hE hM hS hA ce_X10_top tb_1598 (V_X10_top l D A ad ns I199 L200 G hJ hI) rfl rfl ⟨Nat.le_of_ble_eq_true rfl, Nat.le_of_ble_eq_true rfl⟩ hJ.1 rfl rfl (by decide) rfl hl.1 rfl (Nat.le_of_ble_eq_true rfl) dX10_test_138 ⟨Nat.le_of_ble_eq_true rfl, Nat.le_of_ble_eq_true rfl⟩) hS (fun r207 u H locs hw hM hS => ?_)
                obtain ⟨rfl, xr207⟩ := hw
                have hM : Mem D A ad ns I199 L200 G H := hM
                refine lv_bipush (v := (12)) hx hb dX10_test_141 (by decide) ?_
                refine lv_icmp_ne (tgt := 197) hx hb dX10_test_143 (by decide) (fun c208 => ?_) (fun c208 => ?_)
                · have hc208 := c208
                  have q208 := q_ne hc208
                  refine lv_iconst (v := (0)) hx hb dX10_test_197 (by decide) ?_
                  refine lv_istore_n (lv' := [(2, .int (0)), (4, .int (r34)), (3, .int (r31)), (1, .int (x1_9)), (0, .ref (ad (1000)))]) hx hb dX10_test_198 rfl hl (by decide) rfl (fun ls hl => ?_)
                  refine lv_goto (tgt := 9) hx hb dX10_test_199 (by decide) ?_
                  have gP9 := hI.get 1000 25 (lo := 0) (hi := 100000) rfl
                  have gO9 := hI.get 1000 32 (lo := 0) (hi := 402) rfl
                  exact ih9 (0) (x1_9) I199 L200 _ _ ls hI hK (by first | omega | decide) (by first | omega | decide) (by omega) (fun hz => by omega) (by rw [show NB I199 + (1 - (x1_9 : Int32).toInt).toNat = dd from by omega]; exact hC) (by omega) hM hS (lv_sub hl [0, 3, 4] rfl)
                · have hc208 := c208
                  have q208 := q_eq hc208
                  have htk := top_k xr207 c208 (by decide)
                  have htp := htk.2.2
                  have hpv : pN 12 = 0 ∧ pB 12 = 0 := by decide
                  refine lv_aload_n hx hb dX10_test_146 rfl (lv_at hl 4 rfl) ?_
                  refine m_calli (m_runV (1000) (As := []) (rest := []) hx hb hml hown hts hE hM hS hA ce_X10_sign tb_1510 (V_X10_sign l D A ad ns I199 L200 G hJ hI) rfl rfl ⟨Nat.le_of_ble_eq_true rfl, Nat.le_of_ble_eq_true rfl⟩ hJ.1 rfl rfl (by decide) rfl hl.1 rfl (Nat.le_of_ble_eq_true rfl) dX10_test_147 ⟨Nat.le_of_ble_eq_true rfl, Nat.le_of_ble_eq_true rfl⟩) hS (fun r209 u H locs hw hM hS => ?_)
                  obtain ⟨rfl, xr209⟩ := hw
                  have hM : Mem D A ad ns I199 L200 G H := hM
                  have g210 := hI.get 1000 24 (lo := 0) (hi := 400) rfl
                  have g211 := hI.get 1000 25 (lo := 0) (hi := 100000) rfl
                  refine lv_bipush (v := (93)) hx hb dX10_test_150 (by decide) ?_
                  refine lv_icmp_eq (tgt := 164) hx hb dX10_test_152 (by decide) (fun c212 => ?_) (fun c212 => ?_)
                  · have hc212 := c212
                    have q212 := q_eq hc212
                    have sg213 := xr209.2.2 (by omega)
                    refine lv_aload_n hx hb dX10_test_164 rfl (lv_at hl 4 rfl) ?_
                    refine lv_dup hx hb dX10_test_165 rfl ?_
                    refine m_geti (1000) 25 hx hb hts hown hE oc10 hM hJ.1 rfl (by decide) rfl tb_1202 dX10_test_166 ?_
                    have g214 := hI.get (1000) 25 (lo := 0) (hi := 100000) rfl
                    have z215 : I199 (1000) 25 = I23 (1000) 25 := ((hkI199.get (1000) 25 rfl)).trans (hkI38.get (1000) 25 rfl)
                    rw [z215] at g214 ⊢
                    refine lv_iconst (v := (1)) hx hb dX10_test_169 (by decide) ?_
                    refine lv_iadd hx hb dX10_test_170 ?_
                    refine lv_topi (fun v216 ev216 => ?_)
                    have tv216 := a_add ev216 (by omega) (by omega)
                    refine m_puti (1000) 25 hx hb hts hown hE oc10 hM hS hJ.1 rfl (by decide) rfl rfl rfl rfl tb_1202 dX10_test_171 (fun H locs I217 eI217 hM hS => ?_)
                    subst eI217
                    have hI := hI.put (n := 1000) (k := 25) (v := v216) (lo := 0) (hi := 100000) rfl (by first | omega | decide)
                    have hK := hK.put (n := 1000) (k := 25) (v := v216) (by first | rfl | simp [inR])
                    refine lv_aload_n hx hb dX10_test_174 rfl (lv_at hl 4 rfl) ?_
                    refine lv_dup hx hb dX10_test_175 rfl ?_
                    refine m_geti (1000) 32 hx hb hts hown hE oc10 hM hJ.1 rfl (by decide) rfl tb_1209 dX10_test_176 ?_
                    have g218 := hI.get (1000) 32 (lo := 0) (hi := 402) rfl
                    have z219 : (u2 I199 (1000) 25 (v216)) (1000) 32 = I199 (1000) 32 := (show (u2 I199 (1000) 25 (v216)) (1000) 32 = I199 (1000) 32 from by simp [u2_v])
                    rw [z219] at g218 ⊢
                    refine lv_iconst (v := (1)) hx hb dX10_test_179 (by decide) ?_
                    refine lv_isub hx hb dX10_test_180 ?_
                    refine lv_topi (fun v220 ev220 => ?_)
                    have tv220 := a_sub ev220 (by omega) (by omega)
                    refine m_puti (1000) 32 hx hb hts hown hE oc10 hM hS hJ.1 rfl (by decide) rfl rfl rfl rfl tb_1209 dX10_test_181 (fun H locs I221 eI221 hM hS => ?_)
                    subst eI221
                    have hI := hI.put (n := 1000) (k := 32) (v := v220) (lo := 0) (hi := 402) rfl (by first | omega | decide)
                    have hK := hK.put (n := 1000) (k := 32) (v := v220) (by first | rfl | simp [inR])
                    have pw222 : ((u2 (u2 I199 (1000) 25 (v216)) (1000) 32 (v220)) (1000) 24).toInt = (Ia9 (1000) 24 : Int32).toInt := congrArg Int32.toInt ((((((show (u2 (u2 I199 (1000) 25 (v216)) (1000) 32 (v220)) (1000) 24 = I199 (1000) 24 from by simp [u2_v])).trans (hkI199.get (1000) 24 rfl)).trans (hkI38.get (1000) 24 rfl)).trans (hkI23.get (1000) 24 rfl)).trans (hkI13.get (1000) 24 rfl))
                    have pw223 : ((u2 (u2 I199 (1000) 25 (v216)) (1000) 32 (v220)) (1000) 25).toInt = (v216 : Int32).toInt := congrArg Int32.toInt ((show (u2 (u2 I199 (1000) 25 (v216)) (1000) 32 (v220)) (1000) 25 = v216 from by simp [u2_v]))
                    have pw224 : ((u2 (u2 I199 (1000) 25 (v216)) (1000) 32 (v220)) (1000) 26).toInt = (Ia9 (1000) 26 : Int32).toInt := congrArg Int32.toInt ((((((show (u2 (u2 I199 (1000) 25 (v216)) (1000) 32 (v220)) (1000) 26 = I199 (1000) 26 from by simp [u2_v])).trans (hkI199.get (1000) 26 rfl)).trans (hkI38.get (1000) 26 rfl)).trans (hkI23.get (1000) 26 rfl)).trans (hkI13.get (1000) 26 rfl))
                    have pw225 : ((u2 (u2 I199 (1000) 25 (v216)) (1000) 32 (v220)) (1000) 27).toInt = (Ia9 (1000) 27 : Int32).toInt := congrArg Int32.toInt ((((((show (u2 (u2 I199 (1000) 25 (v216)) (1000) 32 (v220)) (1000) 27 = I199 (1000) 27 from by simp [u2_v])).trans (hkI199.get (1000) 27 rfl)).trans (hkI38.get (1000) 27 rfl)).trans (hkI23.get (1000) 27 rfl)).trans (hkI13.get (1000) 27 rfl))
                    have pw226 : ((u2 (u2 I199 (1000) 25 (v216)) (1000) 32 (v220)) (1000) 29).toInt = (I199 (1000) 29 : Int32).toInt := congrArg Int32.toInt ((show (u2 (u2 I199 (1000) 25 (v216)) (1000) 32 (v220)) (1000) 29 = I199 (1000) 29 from by simp [u2_v]))
                    have pw227 : ((u2 (u2 I199 (1000) 25 (v216)) (1000) 32 (v220)) (1000) 31).toInt = (Ia9 (1000) 31 : Int32).toInt := congrArg Int32.toInt ((((((show (u2 (u2 I199 (1000) 25 (v216)) (1000) 32 (v220)) (1000) 31 = I199 (1000) 31 from by simp [u2_v])).trans (hkI199.get (1000) 31 rfl)).trans (hkI38.get (1000) 31 rfl)).trans (hkI23.get (1000) 31 rfl)).trans (hkI13.get (1000) 31 rfl))
                    have pw228 : ((u2 (u2 I199 (1000) 25 (v216)) (1000) 32 (v220)) (1000) 32).toInt = (v220 : Int32).toInt := congrArg Int32.toInt ((show (u2 (u2 I199 (1000) 25 (v216)) (1000) 32 (v220)) (1000) 32 = v220 from by simp [u2_v]))
                    have hpk := pop_k (I := I199) (I2 := (u2 (u2 I199 (1000) 25 (v216)) (1000) 32 (v220))) htk.1 htk.2.1 ((show (u2 (u2 I199 (1000) 25 (v216)) (1000) 32 (v220)) 1042 = I199 1042 from by funext zz; simp [u2_v])) (by omega)
                    refine lv_aload_n hx hb dX10_test_184 rfl (lv_at hl 4 rfl) ?_
                    refine lv_dup hx hb dX10_test_185 rfl ?_
                    refine m_geti (1000) 30 hx hb hts hown hE oc10 hM hJ.1 rfl (by decide) rfl tb_1207 dX10_test_186 ?_
                    have z229 : (u2 (u2 I199 (1000) 25 (v216)) (1000) 32 (v220)) (1000) 30 = I199 (1000) 30 := (show (u2 (u2 I199 (1000) 25 (v216)) (1000) 32 (v220)) (1000) 30 = I199 (1000) 30 from by simp [u2_v])
                    rw [z229]
                    refine lv_iconst (v := (1)) hx hb dX10_test_189 (by decide) ?_
                    refine lv_isub hx hb dX10_test_190 ?_
                    refine lv_topi (fun v230 ev230 => ?_)
                    refine m_puti (1000) 30 hx hb hts hown hE oc10 hM hS hJ.1 rfl (by decide) rfl rfl rfl rfl tb_1207 dX10_test_191 (fun H locs I231 eI231 hM hS => ?_)
                    subst eI231
                    have hI := hI.putF (n := 1000) (k := 30) (v := v230) rfl
                    have hK := hK.put (n := 1000) (k := 30) (v := v230) (by first | rfl | simp [inR])
                    refine lv_goto (tgt := 199) hx hb dX10_test_194 (by decide) ?_
                    refine lv_goto (tgt := 9) hx hb dX10_test_199 (by decide) ?_
                    have pw232 : ((u2 (u2 (u2 I199 (1000) 25 (v216)) (1000) 32 (v220)) (1000) 30 (v230)) (1000) 24).toInt = (Ia9 (1000) 24 : Int32).toInt := congrArg Int32.toInt ((((((show (u2 (u2 (u2 I199 (1000) 25 (v216)) (1000) 32 (v220)) (1000) 30 (v230)) (1000) 24 = I199 (1000) 24 from by simp [u2_v])).trans (hkI199.get (1000) 24 rfl)).trans (hkI38.get (1000) 24 rfl)).trans (hkI23.get (1000) 24 rfl)).trans (hkI13.get (1000) 24 rfl))
                    have pw233 : ((u2 (u2 (u2 I199 (1000) 25 (v216)) (1000) 32 (v220)) (1000) 30 (v230)) (1000) 25).toInt = (v216 : Int32).toInt := congrArg Int32.toInt ((show (u2 (u2 (u2 I199 (1000) 25 (v216)) (1000) 32 (v220)) (1000) 30 (v230)) (1000) 25 = v216 from by simp [u2_v]))
                    have pw234 : ((u2 (u2 (u2 I199 (1000) 25 (v216)) (1000) 32 (v220)) (1000) 30 (v230)) (1000) 26).toInt = (Ia9 (1000) 26 : Int32).toInt := congrArg Int32.toInt ((((((show (u2 (u2 (u2 I199 (1000) 25 (v216)) (1000) 32 (v220)) (1000) 30 (v230)) (1000) 26 = I199 (1000) 26 from by simp [u2_v])).trans (hkI199.get (1000) 26 rfl)).trans (hkI38.get (1000) 26 rfl)).trans (hkI23.get (1000) 26 rfl)).trans (hkI13.get (1000) 26 rfl))
                    have pw235 : ((u2 (u2 (u2 I199 (1000) 25 (v216)) (1000) 32 (v220)) (1000) 30 (v230)) (1000) 27).toInt = (Ia9 (1000) 27 : Int32).toInt := congrArg Int32.toInt ((((((show (u2 (u2 (u2 I199 (1000) 25 (v216)) (1000) 32 (v220)) (1000) 30 (v230)) (1000) 27 = I199 (1000) 27 from by simp [u2_v])).trans (hkI199.get (1000) 27 rfl)).trans (hkI38.get (1000) 27 rfl)).trans (hkI23.get (1000) 27 rfl)).trans (hkI13.get (1000) 27 rfl))
                    have pw236 : ((u2 (u2 (u2 I199 (1000) 25 (v216)) (1000) 32 (v220)) (1000) 30 (v230)) (1000) 29).toInt = (I199 (1000) 29 : Int32).toInt := congrArg Int32.toInt ((show (u2 (u2 (u2 I199 (1000) 25 (v216)) (1000) 32 (v220)) (1000) 30 (v230)) (1000) 29 = I199 (1000) 29 from by simp [u2_v]))
                    have pw237 : ((u2 (u2 (u2 I199 (1000) 25 (v216)) (1000) 32 (v220)) (1000) 30 (v230)) (1000) 31).toInt = (Ia9 (1000) 31 : Int32).toInt := congrArg Int32.toInt ((((((show (u2 (u2 (u2 I199 (1000) 25 (v216)) (1000) 32 (v220)) (1000) 30 (v230)) (1000) 31 = I199 (1000) 31 from by simp [u2_v])).trans (hkI199.get (1000) 31 rfl)).trans (hkI38.get (1000) 31 rfl)).trans (hkI23.get (1000) 31 rfl)).trans (hkI13.get (1000) 31 rfl))
                    have pw238 : ((u2 (u2 (u2 I199 (1000) 25 (v216)) (1000) 32 (v220)) (1000) 30 (v230)) (1000) 32).toInt = (v220 : Int32).toInt := congrArg Int32.toInt ((show (u2 (u2 (u2 I199 (1000) 25 (v216)) (1000) 32 (v220)) (1000) 30 (v230)) (1000) 32 = v220 from by simp [u2_v]))
                    replace hC := CT.link (I2 := (u2 (u2 (u2 I199 (1000) 25 (v216)) (1000) 32 (v220)) (1000) 30 (v230))) hC ((show (u2 (u2 (u2 I199 (1000) 25 (v216)) (1000) 32 (v220)) (1000) 30 (v230)) 1035 = I199 1035 from by funext zz; simp [u2_v])) ((show (u2 (u2 (u2 I199 (1000) 25 (v216)) (1000) 32 (v220)) (1000) 30 (v230)) 1036 = I199 1036 from by funext zz; simp [u2_v])) (by omega) (fun hz => by omega)
                    have nn239 := NS_of (I2 := (u2 (u2 (u2 I199 (1000) 25 (v216)) (1000) 32 (v220)) (1000) 30 (v230))) (I := (u2 (u2 I199 (1000) 25 (v216)) (1000) 32 (v220))) ((show (u2 (u2 (u2 I199 (1000) 25 (v216)) (1000) 32 (v220)) (1000) 30 (v230)) 1042 = (u2 (u2 I199 (1000) 25 (v216)) (1000) 32 (v220)) 1042 from by funext zz; simp [u2_v])) (by omega)
                    have gP9 := hI.get 1000 25 (lo := 0) (hi := 100000) rfl
                    have gO9 := hI.get 1000 32 (lo := 0) (hi := 402) rfl
                    exact ih9 (x2_9) (x1_9) (u2 (u2 (u2 I199 (1000) 25 (v216)) (1000) 32 (v220)) (1000) 30 (v230)) L200 _ _ ls hI hK (by first | omega | decide) (by first | omega | decide) (by omega) (fun hz => by omega) (by rw [show NB (u2 (u2 (u2 I199 (1000) 25 (v216)) (1000) 32 (v220)) (1000) 30 (v230)) + (1 - (x1_9 : Int32).toInt).toNat = dd from by omega]; exact hC) (by omega) hM hS (lv_sub hl [2, 3, 4] rfl)
                  · have hc212 := c212
                    have q212 := q_ne hc212
                    refine lv_aload_n hx hb dX10_test_155 rfl (lv_at hl 4 rfl) ?_
                    refine lv_iconst (v := (0)) hx hb dX10_test_156 (by decide) ?_
                    refine lv_aload_n hx hb dX10_test_157 rfl (lv_at hl 4 rfl) ?_
                    refine m_geti (1000) 25 hx hb hts hown hE oc10 hM hJ.1 rfl (by decide) rfl tb_1202 dX10_test_158 ?_
                    have g240 := hI.get (1000) 25 (lo := 0) (hi := 100000) rfl
                    have z241 : I199 (1000) 25 = I23 (1000) 25 := ((hkI199.get (1000) 25 rfl)).trans (hkI38.get (1000) 25 rfl)
                    rw [z241] at g240 ⊢
                    refine m_callv (m_runV (1000) (As := [.int (0), .int (I23 (1000) 25)]) (rest := []) hx hb hml hown hts hE hM hS hA ce_X10_fails tb_1521 (V_X10_fails l D A ad ns I199 L200 G (0) (I23 (1000) 25) hJ hI (by first | omega | decide) (by first | omega | decide)) rfl rfl ⟨Nat.le_of_ble_eq_true rfl, Nat.le_of_ble_eq_true rfl⟩ hJ.1 rfl rfl (by decide) rfl hl.1 rfl (Nat.le_of_ble_eq_true rfl) dX10_test_161 ⟨Nat.le_of_ble_eq_true rfl, Nat.le_of_ble_eq_true rfl⟩) hS (fun u H locs hw hM hS => ?_)
                    obtain ⟨I242, L243, rfl, hI, hkI242, xI242⟩ := hw
                    have hM : Mem D A ad ns I242 L243 G H := hM
                    have hK := hK.trans hkI242 rfl
                    have pw244 : (I242 (1000) 24).toInt = (Ia9 (1000) 24 : Int32).toInt := congrArg Int32.toInt ((((((hkI242.get (1000) 24 rfl)).trans (hkI199.get (1000) 24 rfl)).trans (hkI38.get (1000) 24 rfl)).trans (hkI23.get (1000) 24 rfl)).trans (hkI13.get (1000) 24 rfl))
                    have pw245 : (I242 (1000) 25).toInt = (I23 (1000) 25 : Int32).toInt := congrArg Int32.toInt ((((hkI242.get (1000) 25 rfl)).trans (hkI199.get (1000) 25 rfl)).trans (hkI38.get (1000) 25 rfl))
                    have pw246 : (I242 (1000) 27).toInt = (Ia9 (1000) 27 : Int32).toInt := congrArg Int32.toInt ((((((hkI242.get (1000) 27 rfl)).trans (hkI199.get (1000) 27 rfl)).trans (hkI38.get (1000) 27 rfl)).trans (hkI23.get (1000) 27 rfl)).trans (hkI13.get (1000) 27 rfl))
                    have pw247 : (I242 (1000) 29).toInt = (I199 (1000) 29 : Int32).toInt := congrArg Int32.toInt ((hkI242.get (1000) 29 rfl))
                    have pw248 : (I242 (1000) 31).toInt = (Ia9 (1000) 31 : Int32).toInt := congrArg Int32.toInt ((((((hkI242.get (1000) 31 rfl)).trans (hkI199.get (1000) 31 rfl)).trans (hkI38.get (1000) 31 rfl)).trans (hkI23.get (1000) 31 rfl)).trans (hkI13.get (1000) 31 rfl))
                    have pw249 : (I242 (1000) 32).toInt = (I199 (1000) 32 : Int32).toInt := congrArg Int32.toInt ((hkI242.get (1000) 32 rfl))
                    refine lv_aload_n hx hb dX10_test_164 rfl (lv_at hl 4 rfl) ?_
                    refine lv_dup hx hb dX10_test_165 rfl ?_
                    refine m_geti (1000) 25 hx hb hts hown hE oc10 hM hJ.1 rfl (by decide) rfl tb_1202 dX10_test_166 ?_
                    have g250 := hI.get (1000) 25 (lo := 0) (hi := 100000) rfl
                    have z251 : I242 (1000) 25 = I23 (1000) 25 := (((hkI242.get (1000) 25 rfl)).trans (hkI199.get (1000) 25 rfl)).trans (hkI38.get (1000) 25 rfl)
                    rw [z251] at g250 ⊢
                    refine lv_iconst (v := (1)) hx hb dX10_test_169 (by decide) ?_
                    refine lv_iadd hx hb dX10_test_170 ?_
                    refine lv_topi (fun v252 ev252 => ?_)
                    have tv252 := a_add ev252 (by omega) (by omega)
                    refine m_puti (1000) 25 hx hb hts hown hE oc10 hM hS hJ.1 rfl (by decide) rfl rfl rfl rfl tb_1202 dX10_test_171 (fun H locs I253 eI253 hM hS => ?_)
                    subst eI253
                    have hI := hI.put (n := 1000) (k := 25) (v := v252) (lo := 0) (hi := 100000) rfl (by first | omega | decide)
                    have hK := hK.put (n := 1000) (k := 25) (v := v252) (by first | rfl | simp [inR])
                    refine lv_aload_n hx hb dX10_test_174 rfl (lv_at hl 4 rfl) ?_
                    refine lv_dup hx hb dX10_test_175 rfl ?_
                    refine m_geti (1000) 32 hx hb hts hown hE oc10 hM hJ.1 rfl (by decide) rfl tb_1209 dX10_test_176 ?_
                    have g254 := hI.get (1000) 32 (lo := 0) (hi := 402) rfl
                    have z255 : (u2 I242 (1000) 25 (v252)) (1000) 32 = I199 (1000) 32 := ((show (u2 I242 (1000) 25 (v252)) (1000) 32 = I242 (1000) 32 from by simp [u2_v])).trans (hkI242.get (1000) 32 rfl)
                    rw [z255] at g254 ⊢
                    refine lv_iconst (v := (1)) hx hb dX10_test_179 (by decide) ?_
                    refine lv_isub hx hb dX10_test_180 ?_
                    refine lv_topi (fun v256 ev256 => ?_)
                    have tv256 := a_sub ev256 (by omega) (by omega)
                    refine m_puti (1000) 32 hx hb hts hown hE oc10 hM hS hJ.1 rfl (by decide) rfl rfl rfl rfl tb_1209 dX10_test_181 (fun H locs I257 eI257 hM hS => ?_)
                    subst eI257
                    have hI := hI.put (n := 1000) (k := 32) (v := v256) (lo := 0) (hi := 402) rfl (by first | omega | decide)
                    have hK := hK.put (n := 1000) (k := 32) (v := v256) (by first | rfl | simp [inR])
                    have pw258 : ((u2 (u2 I242 (1000) 25 (v252)) (1000) 32 (v256)) (1000) 24).toInt = (Ia9 (1000) 24 : Int32).toInt := congrArg Int32.toInt (((((((show (u2 (u2 I242 (1000) 25 (v252)) (1000) 32 (v256)) (1000) 24 = I242 (1000) 24 from by simp [u2_v])).trans (hkI242.get (1000) 24 rfl)).trans (hkI199.get (1000) 24 rfl)).trans (hkI38.get (1000) 24 rfl)).trans (hkI23.get (1000) 24 rfl)).trans (hkI13.get (1000) 24 rfl))
                    have pw259 : ((u2 (u2 I242 (1000) 25 (v252)) (1000) 32 (v256)) (1000) 25).toInt = (v252 : Int32).toInt := congrArg Int32.toInt ((show (u2 (u2 I242 (1000) 25 (v252)) (1000) 32 (v256)) (1000) 25 = v252 from by simp [u2_v]))
                    have pw260 : ((u2 (u2 I242 (1000) 25 (v252)) (1000) 32 (v256)) (1000) 26).toInt = (I242 (1000) 26 : Int32).toInt := congrArg Int32.toInt ((show (u2 (u2 I242 (1000) 25 (v252)) (1000) 32 (v256)) (1000) 26 = I242 (1000) 26 from by simp [u2_v]))
                    have pw261 : ((u2 (u2 I242 (1000) 25 (v252)) (1000) 32 (v256)) (1000) 27).toInt = (Ia9 (1000) 27 : Int32).toInt := congrArg Int32.toInt (((((((show (u2 (u2 I242 (1000) 25 (v252)) (1000) 32 (v256)) (1000) 27 = I242 (1000) 27 from by simp [u2_v])).trans (hkI242.get (1000) 27 rfl)).trans (hkI199.get (1000) 27 rfl)).trans (hkI38.get (1000) 27 rfl)).trans (hkI23.get (1000) 27 rfl)).trans (hkI13.get (1000) 27 rfl))
                    have pw262 : ((u2 (u2 I242 (1000) 25 (v252)) (1000) 32 (v256)) (1000) 29).toInt = (I199 (1000) 29 : Int32).toInt := congrArg Int32.toInt (((show (u2 (u2 I242 (1000) 25 (v252)) (1000) 32 (v256)) (1000) 29 = I242 (1000) 29 from by simp [u2_v])).trans (hkI242.get (1000) 29 rfl))
                    have pw263 : ((u2 (u2 I242 (1000) 25 (v252)) (1000) 32 (v256)) (1000) 31).toInt = (Ia9 (1000) 31 : Int32).toInt := congrArg Int32.toInt (((((((show (u2 (u2 I242 (1000) 25 (v252)) (1000) 32 (v256)) (1000) 31 = I242 (1000) 31 from by simp [u2_v])).trans (hkI242.get (1000) 31 rfl)).trans (hkI199.get (1000) 31 rfl)).trans (hkI38.get (1000) 31 rfl)).trans (hkI23.get (1000) 31 rfl)).trans (hkI13.get (1000) 31 rfl))
                    have pw264 : ((u2 (u2 I242 (1000) 25 (v252)) (1000) 32 (v256)) (1000) 32).toInt = (v256 : Int32).toInt := congrArg Int32.toInt ((show (u2 (u2 I242 (1000) 25 (v252)) (1000) 32 (v256)) (1000) 32 = v256 from by simp [u2_v]))
                    have hpk := pop_k (I := I199) (I2 := (u2 (u2 I242 (1000) 25 (v252)) (1000) 32 (v256))) htk.1 htk.2.1 (((show (u2 (u2 I242 (1000) 25 (v252)) (1000) 32 (v256)) 1042 = I242 1042 from by funext zz; simp [u2_v])).trans (hkI242.getA 1042 rfl)) (by omega)
                    refine lv_aload_n hx hb dX10_test_184 rfl (lv_at hl 4 rfl) ?_
                    refine lv_dup hx hb dX10_test_185 rfl ?_
                    refine m_geti (1000) 30 hx hb hts hown hE oc10 hM hJ.1 rfl (by decide) rfl tb_1207 dX10_test_186 ?_
                    have z265 : (u2 (u2 I242 (1000) 25 (v252)) (1000) 32 (v256)) (1000) 30 = I199 (1000) 30 := ((show (u2 (u2 I242 (1000) 25 (v252)) (1000) 32 (v256)) (1000) 30 = I242 (1000) 30 from by simp [u2_v])).trans (hkI242.get (1000) 30 rfl)
                    rw [z265]
                    refine lv_iconst (v := (1)) hx hb dX10_test_189 (by decide) ?_
                    refine lv_isub hx hb dX10_test_190 ?_
                    refine lv_topi (fun v266 ev266 => ?_)
                    refine m_puti (1000) 30 hx hb hts hown hE oc10 hM hS hJ.1 rfl (by decide) rfl rfl rfl rfl tb_1207 dX10_test_191 (fun H locs I267 eI267 hM hS => ?_)
                    subst eI267
                    have hI := hI.putF (n := 1000) (k := 30) (v := v266) rfl
                    have hK := hK.put (n := 1000) (k := 30) (v := v266) (by first | rfl | simp [inR])
                    refine lv_goto (tgt := 199) hx hb dX10_test_194 (by decide) ?_
                    refine lv_goto (tgt := 9) hx hb dX10_test_199 (by decide) ?_
                    have pw268 : ((u2 (u2 (u2 I242 (1000) 25 (v252)) (1000) 32 (v256)) (1000) 30 (v266)) (1000) 24).toInt = (Ia9 (1000) 24 : Int32).toInt := congrArg Int32.toInt (((((((show (u2 (u2 (u2 I242 (1000) 25 (v252)) (1000) 32 (v256)) (1000) 30 (v266)) (1000) 24 = I242 (1000) 24 from by simp [u2_v])).trans (hkI242.get (1000) 24 rfl)).trans (hkI199.get (1000) 24 rfl)).trans (hkI38.get (1000) 24 rfl)).trans (hkI23.get (1000) 24 rfl)).trans (hkI13.get (1000) 24 rfl))
                    have pw269 : ((u2 (u2 (u2 I242 (1000) 25 (v252)) (1000) 32 (v256)) (1000) 30 (v266)) (1000) 25).toInt = (v252 : Int32).toInt := congrArg Int32.toInt ((show (u2 (u2 (u2 I242 (1000) 25 (v252)) (1000) 32 (v256)) (1000) 30 (v266)) (1000) 25 = v252 from by simp [u2_v]))
                    have pw270 : ((u2 (u2 (u2 I242 (1000) 25 (v252)) (1000) 32 (v256)) (1000) 30 (v266)) (1000) 26).toInt = (I242 (1000) 26 : Int32).toInt := congrArg Int32.toInt ((show (u2 (u2 (u2 I242 (1000) 25 (v252)) (1000) 32 (v256)) (1000) 30 (v266)) (1000) 26 = I242 (1000) 26 from by simp [u2_v]))
                    have pw271 : ((u2 (u2 (u2 I242 (1000) 25 (v252)) (1000) 32 (v256)) (1000) 30 (v266)) (1000) 27).toInt = (Ia9 (1000) 27 : Int32).toInt := congrArg Int32.toInt (((((((show (u2 (u2 (u2 I242 (1000) 25 (v252)) (1000) 32 (v256)) (1000) 30 (v266)) (1000) 27 = I242 (1000) 27 from by simp [u2_v])).trans (hkI242.get (1000) 27 rfl)).trans (hkI199.get (1000) 27 rfl)).trans (hkI38.get (1000) 27 rfl)).trans (hkI23.get (1000) 27 rfl)).trans (hkI13.get (1000) 27 rfl))
                    have pw272 : ((u2 (u2 (u2 I242 (1000) 25 (v252)) (1000) 32 (v256)) (1000) 30 (v266)) (1000) 29).toInt = (I199 (1000) 29 : Int32).toInt := congrArg Int32.toInt (((show (u2 (u2 (u2 I242 (1000) 25 (v252)) (1000) 32 (v256)) (1000) 30 (v266)) (1000) 29 = I242 (1000) 29 from by simp [u2_v])).trans (hkI242.get (1000) 29 rfl))
                    have pw273 : ((u2 (u2 (u2 I242 (1000) 25 (v252)) (1000) 32 (v256)) (1000) 30 (v266)) (1000) 31).toInt = (Ia9 (1000) 31 : Int32).toInt := congrArg Int32.toInt (((((((show (u2 (u2 (u2 I242 (1000) 25 (v252)) (1000) 32 (v256)) (1000) 30 (v266)) (1000) 31 = I242 (1000) 31 from by simp [u2_v])).trans (hkI242.get (1000) 31 rfl)).trans (hkI199.get (1000) 31 rfl)).trans (hkI38.get (1000) 31 rfl)).trans (hkI23.get (1000) 31 rfl)).trans (hkI13.get (1000) 31 rfl))
                    have pw274 : ((u2 (u2 (u2 I242 (1000) 25 (v252)) (1000) 32 (v256)) (1000) 30 (v266)) (1000) 32).toInt = (v256 : Int32).toInt := congrArg Int32.toInt ((show (u2 (u2 (u2 I242 (1000) 25 (v252)) (1000) 32 (v256)) (1000) 30 (v266)) (1000) 32 = v256 from by simp [u2_v]))
                    replace hC := CT.link (I2 := (u2 (u2 (u2 I242 (1000) 25 (v252)) (1000) 32 (v256)) (1000) 30 (v266))) hC (((show (u2 (u2 (u2 I242 (1000) 25 (v252)) (1000) 32 (v256)) (1000) 30 (v266)) 1035 = I242 1035 from by funext zz; simp [u2_v])).trans (hkI242.getA 1035 rfl)) (((show (u2 (u2 (u2 I242 (1000) 25 (v252)) (1000) 32 (v256)) (1000) 30 (v266)) 1036 = I242 1036 from by funext zz; simp [u2_v])).trans (hkI242.getA 1036 rfl)) (by omega) (fun hz => by have w0 := xI242.1 (by omega); exact w0.elim)
                    have nn275 := NS_of (I2 := (u2 (u2 (u2 I242 (1000) 25 (v252)) (1000) 32 (v256)) (1000) 30 (v266))) (I := (u2 (u2 I242 (1000) 25 (v252)) (1000) 32 (v256))) ((show (u2 (u2 (u2 I242 (1000) 25 (v252)) (1000) 32 (v256)) (1000) 30 (v266)) 1042 = (u2 (u2 I242 (1000) 25 (v252)) (1000) 32 (v256)) 1042 from by funext zz; simp [u2_v])) (by omega)
                    have gP9 := hI.get 1000 25 (lo := 0) (hi := 100000) rfl
                    have gO9 := hI.get 1000 32 (lo := 0) (hi := 402) rfl
                    exact ih9 (x2_9) (x1_9) (u2 (u2 (u2 I242 (1000) 25 (v252)) (1000) 32 (v256)) (1000) 30 (v266)) L243 _ _ ls hI hK (by first | omega | decide) (by first | omega | decide) (by omega) (fun hz => by have w0 := xI242.1 (by omega); exact w0.elim) (by rw [show NB (u2 (u2 (u2 I242 (1000) 25 (v252)) (1000) 32 (v256)) (1000) 30 (v266)) + (1 - (x1_9 : Int32).toInt).toNat = dd from by omega]; exact hC) (by omega) hM hS (lv_sub hl [2, 3, 4] rfl)
              · have hc198 := c198
                have q198 := q_ne hc198
                have sg276 := slr34 (by omega)
                refine lv_iload hx hb dX10_test_82 (lv_at hl 0 rfl) ?_
                refine lv_if_eq (tgt := 93) hx hb dX10_test_84 (by decide) (fun c277 => ?_) (fun c277 => ?_)
                · have hc277 := c277
                  have q277 := q_eq hc277
                  refine lv_aload_n hx hb dX10_test_93 rfl (lv_at hl 4 rfl) ?_
                  refine lv_iload_n hx hb dX10_test_94 rfl (lv_at hl 1 rfl) ?_
                  refine lv_if_eq (tgt := 103) hx hb dX10_test_95 (by decide) (fun c278 => ?_) (fun c278 => ?_)
                  · have hc278 := c278
                    have q278 := q_eq hc278
                    refine lv_bipush (v := (11)) hx hb dX10_test_103 (by decide) ?_
                    refine m_callv (m_runV (1000) (As := [.int (11)]) (rest := []) hx hb hml hown hts hE hM hS hA ce_X10_opens tb_1586 (V_X10_opens l D A ad ns I38 L39 G (11) hJ hI (by first | omega | decide) (by omega)) rfl rfl ⟨Nat.le_of_ble_eq_true rfl, Nat.le_of_ble_eq_true rfl⟩ hJ.1 rfl rfl (by decide) rfl hl.1 rfl (Nat.le_of_ble_eq_true rfl) dX10_test_105 ⟨Nat.le_of_ble_eq_true rfl, Nat.le_of_ble_eq_true rfl⟩) hS (fun u H locs hw hM hS => ?_)
                    obtain ⟨I279, L280, rfl, hI, hkI279, xI279⟩ := hw
                    have hM : Mem D A ad ns I279 L280 G H := hM
                    have hK := hK.trans hkI279 rfl
                    have g281 := hI.get 1000 32 (lo := 0) (hi := 402) rfl
                    have pw282 : (I279 (1000) 24).toInt = (Ia9 (1000) 24 : Int32).toInt := congrArg Int32.toInt (((((hkI279.get (1000) 24 rfl)).trans (hkI38.get (1000) 24 rfl)).trans (hkI23.get (1000) 24 rfl)).trans (hkI13.get (1000) 24 rfl))
                    have pw283 : (I279 (1000) 25).toInt = (I23 (1000) 25 : Int32).toInt := congrArg Int32.toInt (((hkI279.get (1000) 25 rfl)).trans (hkI38.get (1000) 25 rfl))
                    have pw284 : (I279 (1000) 27).toInt = (Ia9 (1000) 27 : Int32).toInt := congrArg Int32.toInt (((((hkI279.get (1000) 27 rfl)).trans (hkI38.get (1000) 27 rfl)).trans (hkI23.get (1000) 27 rfl)).trans (hkI13.get (1000) 27 rfl))
                    have pw285 : (I279 (1000) 29).toInt = (I38 (1000) 29 : Int32).toInt := congrArg Int32.toInt ((hkI279.get (1000) 29 rfl))
                    have pw286 : (I279 (1000) 31).toInt = (Ia9 (1000) 31 : Int32).toInt := congrArg Int32.toInt (((((hkI279.get (1000) 31 rfl)).trans (hkI38.get (1000) 31 rfl)).trans (hkI23.get (1000) 31 rfl)).trans (hkI13.get (1000) 31 rfl))
                    have pv287 : pN 11 = 1 ∧ pB 11 = 1 := by decide
                    have po288 := xI279.2
                    refine lv_aload_n hx hb dX10_test_108 rfl (lv_at hl 4 rfl) ?_
                    refine lv_dup hx hb dX10_test_109 rfl ?_
                    refine m_geti (1000) 25 hx hb hts hown hE oc10 hM hJ.1 rfl (by decide) rfl tb_1202 dX10_test_110 ?_
                    have g289 := hI.get (1000) 25 (lo := 0) (hi := 100000) rfl
                    have z290 : I279 (1000) 25 = I23 (1000) 25 := ((hkI279.get (1000) 25 rfl)).trans (hkI38.get (1000) 25 rfl)
                    rw [z290] at g289 ⊢
                    refine lv_iload_n hx hb dX10_test_113 rfl (lv_at hl 1 rfl) ?_
                    refine lv_if_eq (tgt := 121) hx hb dX10_test_114 (by decide) (fun c291 => ?_) (fun c291 => ?_)
                    · have hc291 := c291
                      have q291 := q_eq hc291
                      refine lv_iconst (v := (2)) hx hb dX10_test_121 (by decide) ?_
                      refine lv_iadd hx hb dX10_test_122 ?_
                      refine lv_topi (fun v292 ev292 => ?_)
                      have tv292 := a_add ev292 (by omega) (by omega)
                      refine m_puti (1000) 25 hx hb hts hown hE oc10 hM hS hJ.1 rfl (by decide) rfl rfl rfl rfl tb_1202 dX10_test_123 (fun H locs I293 eI293 hM hS => ?_)
                      subst eI293
                      have hI := hI.put (n := 1000) (k := 25) (v := v292) (lo := 0) (hi := 100000) rfl (by first | omega | decide)
                      have hK := hK.put (n := 1000) (k := 25) (v := v292) (by first | rfl | simp [inR])
                      refine lv_iconst (v := (1)) hx hb dX10_test_126 (by decide) ?_
                      refine lv_istore_n (lv' := [(1, .int (1)), (4, .int (r34)), (3, .int (r31)), (2, .int (x2_9)), (0, .ref (ad (1000)))]) hx hb dX10_test_127 rfl hl (by decide) rfl (fun ls hl => ?_)
                      refine lv_goto (tgt := 199) hx hb dX10_test_128 (by decide) ?_
                      refine lv_goto (tgt := 9) hx hb dX10_test_199 (by decide) ?_
                      have pw294 : ((u2 I279 (1000) 25 (v292)) (1000) 24).toInt = (Ia9 (1000) 24 : Int32).toInt := congrArg Int32.toInt ((((((show (u2 I279 (1000) 25 (v292)) (1000) 24 = I279 (1000) 24 from by simp [u2_v])).trans (hkI279.get (1000) 24 rfl)).trans (hkI38.get (1000) 24 rfl)).trans (hkI23.get (1000) 24 rfl)).trans (hkI13.get (1000) 24 rfl))
                      have pw295 : ((u2 I279 (1000) 25 (v292)) (1000) 25).toInt = (v292 : Int32).toInt := congrArg Int32.toInt ((show (u2 I279 (1000) 25 (v292)) (1000) 25 = v292 from by simp [u2_v]))
                      have pw296 : ((u2 I279 (1000) 25 (v292)) (1000) 26).toInt = (I279 (1000) 26 : Int32).toInt := congrArg Int32.toInt ((show (u2 I279 (1000) 25 (v292)) (1000) 26 = I279 (1000) 26 from by simp [u2_v]))
                      have pw297 : ((u2 I279 (1000) 25 (v292)) (1000) 27).toInt = (Ia9 (1000) 27 : Int32).toInt := congrArg Int32.toInt ((((((show (u2 I279 (1000) 25 (v292)) (1000) 27 = I279 (1000) 27 from by simp [u2_v])).trans (hkI279.get (1000) 27 rfl)).trans (hkI38.get (1000) 27 rfl)).trans (hkI23.get (1000) 27 rfl)).trans (hkI13.get (1000) 27 rfl))
                      have pw298 : ((u2 I279 (1000) 25 (v292)) (1000) 29).toInt = (I38 (1000) 29 : Int32).toInt := congrArg Int32.toInt (((show (u2 I279 (1000) 25 (v292)) (1000) 29 = I279 (1000) 29 from by simp [u2_v])).trans (hkI279.get (1000) 29 rfl))
                      have pw299 : ((u2 I279 (1000) 25 (v292)) (1000) 31).toInt = (Ia9 (1000) 31 : Int32).toInt := congrArg Int32.toInt ((((((show (u2 I279 (1000) 25 (v292)) (1000) 31 = I279 (1000) 31 from by simp [u2_v])).trans (hkI279.get (1000) 31 rfl)).trans (hkI38.get (1000) 31 rfl)).trans (hkI23.get (1000) 31 rfl)).trans (hkI13.get (1000) 31 rfl))
                      have pw300 : ((u2 I279 (1000) 25 (v292)) (1000) 32).toInt = (I279 (1000) 32 : Int32).toInt := congrArg Int32.toInt ((show (u2 I279 (1000) 25 (v292)) (1000) 32 = I279 (1000) 32 from by simp [u2_v]))
                      replace hC := CT.link (I2 := (u2 I279 (1000) 25 (v292))) hC (((show (u2 I279 (1000) 25 (v292)) 1035 = I279 1035 from by funext zz; simp [u2_v])).trans (hkI279.getA 1035 rfl)) (((show (u2 I279 (1000) 25 (v292)) 1036 = I279 1036 from by funext zz; simp [u2_v])).trans (hkI279.getA 1036 rfl)) (by omega) (fun hz => by have w0 := xI279.1 (by omega); omega)
                      have nn301 := NS_of (I2 := (u2 I279 (1000) 25 (v292))) (I := I279) ((show (u2 I279 (1000) 25 (v292)) 1042 = I279 1042 from by funext zz; simp [u2_v])) (by omega)
                      have gP9 := hI.get 1000 25 (lo := 0) (hi := 100000) rfl
                      have gO9 := hI.get 1000 32 (lo := 0) (hi := 402) rfl
                      exact ih9 (x2_9) (1) (u2 I279 (1000) 25 (v292)) L280 _ _ ls hI hK (by first | omega | decide) (by first | omega | decide) (by omega) (fun hz => by have w0 := xI279.1 (by omega); omega) (by rw [show NB (u2 I279 (1000) 25 (v292)) + (1 - (1 : Int32).toInt).toNat = dd from by omega]; exact hC) (by omega) hM hS (lv_sub hl [3, 0, 4] rfl)
                    · have hc291 := c291
                      have q291 := q_ne hc291
                      have sg302 := slr31 (by omega)
                      refine lv_iconst (v := (3)) hx hb dX10_test_117 (by decide) ?_
                      refine lv_goto (tgt := 122) hx hb dX10_test_118 (by decide) ?_
                      refine lv_iadd hx hb dX10_test_122 ?_
                      refine lv_topi (fun v303 ev303 => ?_)
                      have tv303 := a_add ev303 (by omega) (by omega)
                      refine m_puti (1000) 25 hx hb hts hown hE oc10 hM hS hJ.1 rfl (by decide) rfl rfl rfl rfl tb_1202 dX10_test_123 (fun H locs I304 eI304 hM hS => ?_)
                      subst eI304
                      have hI := hI.put (n := 1000) (k := 25) (v := v303) (lo := 0) (hi := 100000) rfl (by first | omega | decide)
                      have hK := hK.put (n := 1000) (k := 25) (v := v303) (by first | rfl | simp [inR])
                      refine lv_iconst (v := (1)) hx hb dX10_test_126 (by decide) ?_
                      refine lv_istore_n (lv' := [(1, .int (1)), (4, .int (r34)), (3, .int (r31)), (2, .int (x2_9)), (0, .ref (ad (1000)))]) hx hb dX10_test_127 rfl hl (by decide) rfl (fun ls hl => ?_)
                      refine lv_goto (tgt := 199) hx hb dX10_test_128 (by decide) ?_
                      refine lv_goto (tgt := 9) hx hb dX10_test_199 (by decide) ?_
                      have pw305 : ((u2 I279 (1000) 25 (v303)) (1000) 24).toInt = (Ia9 (1000) 24 : Int32).toInt := congrArg Int32.toInt ((((((show (u2 I279 (1000) 25 (v303)) (1000) 24 = I279 (1000) 24 from by simp [u2_v])).trans (hkI279.get (1000) 24 rfl)).trans (hkI38.get (1000) 24 rfl)).trans (hkI23.get (1000) 24 rfl)).trans (hkI13.get (1000) 24 rfl))
                      have pw306 : ((u2 I279 (1000) 25 (v303)) (1000) 25).toInt = (v303 : Int32).toInt := congrArg Int32.toInt ((show (u2 I279 (1000) 25 (v303)) (1000) 25 = v303 from by simp [u2_v]))
                      have pw307 : ((u2 I279 (1000) 25 (v303)) (1000) 26).toInt = (I279 (1000) 26 : Int32).toInt := congrArg Int32.toInt ((show (u2 I279 (1000) 25 (v303)) (1000) 26 = I279 (1000) 26 from by simp [u2_v]))
                      have pw308 : ((u2 I279 (1000) 25 (v303)) (1000) 27).toInt = (Ia9 (1000) 27 : Int32).toInt := congrArg Int32.toInt ((((((show (u2 I279 (1000) 25 (v303)) (1000) 27 = I279 (1000) 27 from by simp [u2_v])).trans (hkI279.get (1000) 27 rfl)).trans (hkI38.get (1000) 27 rfl)).trans (hkI23.get (1000) 27 rfl)).trans (hkI13.get (1000) 27 rfl))
                      have pw309 : ((u2 I279 (1000) 25 (v303)) (1000) 29).toInt = (I38 (1000) 29 : Int32).toInt := congrArg Int32.toInt (((show (u2 I279 (1000) 25 (v303)) (1000) 29 = I279 (1000) 29 from by simp [u2_v])).trans (hkI279.get (1000) 29 rfl))
                      have pw310 : ((u2 I279 (1000) 25 (v303)) (1000) 31).toInt = (Ia9 (1000) 31 : Int32).toInt := congrArg Int32.toInt ((((((show (u2 I279 (1000) 25 (v303)) (1000) 31 = I279 (1000) 31 from by simp [u2_v])).trans (hkI279.get (1000) 31 rfl)).trans (hkI38.get (1000) 31 rfl)).trans (hkI23.get (1000) 31 rfl)).trans (hkI13.get (1000) 31 rfl))
                      have pw311 : ((u2 I279 (1000) 25 (v303)) (1000) 32).toInt = (I279 (1000) 32 : Int32).toInt := congrArg Int32.toInt ((show (u2 I279 (1000) 25 (v303)) (1000) 32 = I279 (1000) 32 from by simp [u2_v]))
                      replace hC := CT.link (I2 := (u2 I279 (1000) 25 (v303))) hC (((show (u2 I279 (1000) 25 (v303)) 1035 = I279 1035 from by funext zz; simp [u2_v])).trans (hkI279.getA 1035 rfl)) (((show (u2 I279 (1000) 25 (v303)) 1036 = I279 1036 from by funext zz; simp [u2_v])).trans (hkI279.getA 1036 rfl)) (by omega) (fun hz => by have w0 := xI279.1 (by omega); omega)
                      have nn312 := NS_of (I2 := (u2 I279 (1000) 25 (v303))) (I := I279) ((show (u2 I279 (1000) 25 (v303)) 1042 = I279 1042 from by funext zz; simp [u2_v])) (by omega)
                      have gP9 := hI.get 1000 25 (lo := 0) (hi := 100000) rfl
                      have gO9 := hI.get 1000 32 (lo := 0) (hi := 402) rfl
                      exact ih9 (x2_9) (1) (u2 I279 (1000) 25 (v303)) L280 _ _ ls hI hK (by first | omega | decide) (by first | omega | decide) (by omega) (fun hz => by have w0 := xI279.1 (by omega); omega) (by rw [show NB (u2 I279 (1000) 25 (v303)) + (1 - (1 : Int32).toInt).toNat = dd from by omega]; exact hC) (by omega) hM hS (lv_sub hl [3, 0, 4] rfl)
                  · have hc278 := c278
                    have q278 := q_ne hc278
                    have sg313 := slr31 (by omega)
                    refine lv_bipush (v := (10)) hx hb dX10_test_98 (by decide) ?_
                    refine lv_goto (tgt := 105) hx hb dX10_test_100 (by decide) ?_
                    refine m_callv (m_runV (1000) (As := [.int (10)]) (rest := []) hx hb hml hown hts hE hM hS hA ce_X10_opens tb_1586 (V_X10_opens l D A ad ns I38 L39 G (10) hJ hI (by first | omega | decide) (by omega)) rfl rfl ⟨Nat.le_of_ble_eq_true rfl, Nat.le_of_ble_eq_true rfl⟩ hJ.1 rfl rfl (by decide) rfl hl.1 rfl (Nat.le_of_ble_eq_true rfl) dX10_test_105 ⟨Nat.le_of_ble_eq_true rfl, Nat.le_of_ble_eq_true rfl⟩) hS (fun u H locs hw hM hS => ?_)
                    obtain ⟨I314, L315, rfl, hI, hkI314, xI314⟩ := hw
                    have hM : Mem D A ad ns I314 L315 G H := hM
                    have hK := hK.trans hkI314 rfl
                    have g316 := hI.get 1000 32 (lo := 0) (hi := 402) rfl
                    have pw317 : (I314 (1000) 24).toInt = (Ia9 (1000) 24 : Int32).toInt := congrArg Int32.toInt (((((hkI314.get (1000) 24 rfl)).trans (hkI38.get (1000) 24 rfl)).trans (hkI23.get (1000) 24 rfl)).trans (hkI13.get (1000) 24 rfl))
                    have pw318 : (I314 (1000) 25).toInt = (I23 (1000) 25 : Int32).toInt := congrArg Int32.toInt (((hkI314.get (1000) 25 rfl)).trans (hkI38.get (1000) 25 rfl))
                    have pw319 : (I314 (1000) 27).toInt = (Ia9 (1000) 27 : Int32).toInt := congrArg Int32.toInt (((((hkI314.get (1000) 27 rfl)).trans (hkI38.get (1000) 27 rfl)).trans (hkI23.get (1000) 27 rfl)).trans (hkI13.get (1000) 27 rfl))
                    have pw320 : (I314 (1000) 29).toInt = (I38 (1000) 29 : Int32).toInt := congrArg Int32.toInt ((hkI314.get (1000) 29 rfl))
                    have pw321 : (I314 (1000) 31).toInt = (Ia9 (1000) 31 : Int32).toInt := congrArg Int32.toInt (((((hkI314.get (1000) 31 rfl)).trans (hkI38.get (1000) 31 rfl)).trans (hkI23.get (1000) 31 rfl)).trans (hkI13.get (1000) 31 rfl))
                    have pv322 : pN 10 = 1 ∧ pB 10 = 1 := by decide
                    have po323 := xI314.2
                    refine lv_aload_n hx hb dX10_test_108 rfl (lv_at hl 4 rfl) ?_
                    refine lv_dup hx hb dX10_test_109 rfl ?_
                    refine m_geti (1000) 25 hx hb hts hown hE oc10 hM hJ.1 rfl (by decide) rfl tb_1202 dX10_test_110 ?_
                    have g324 := hI.get (1000) 25 (lo := 0) (hi := 100000) rfl
                    have z325 : I314 (1000) 25 = I23 (1000) 25 := ((hkI314.get (1000) 25 rfl)).trans (hkI38.get (1000) 25 rfl)
                    rw [z325] at g324 ⊢
                    refine lv_iload_n hx hb dX10_test_113 rfl (lv_at hl 1 rfl) ?_
                    refine lv_if_eq (tgt := 121) hx hb dX10_test_114 (by decide) (fun c326 => ?_) (fun c326 => ?_)
                    · have hc326 := c326
                      have q326 := q_eq hc326
                      refine lv_iconst (v := (2)) hx hb dX10_test_121 (by decide) ?_
                      refine lv_iadd hx hb dX10_test_122 ?_
                      refine lv_topi (fun v327 ev327 => ?_)
                      have tv327 := a_add ev327 (by omega) (by omega)
                      refine m_puti (1000) 25 hx hb hts hown hE oc10 hM hS hJ.1 rfl (by decide) rfl rfl rfl rfl tb_1202 dX10_test_123 (fun H locs I328 eI328 hM hS => ?_)
                      subst eI328
                      have hI := hI.put (n := 1000) (k := 25) (v := v327) (lo := 0) (hi := 100000) rfl (by first | omega | decide)
                      have hK := hK.put (n := 1000) (k := 25) (v := v327) (by first | rfl | simp [inR])
                      refine lv_iconst (v := (1)) hx hb dX10_test_126 (by decide) ?_
                      refine lv_istore_n (lv' := [(1, .int (1)), (4, .int (r34)), (3, .int (r31)), (2, .int (x2_9)), (0, .ref (ad (1000)))]) hx hb dX10_test_127 rfl hl (by decide) rfl (fun ls hl => ?_)
                      refine lv_goto (tgt := 199) hx hb dX10_test_128 (by decide) ?_
                      refine lv_goto (tgt := 9) hx hb dX10_test_199 (by decide) ?_
                      have pw329 : ((u2 I314 (1000) 25 (v327)) (1000) 24).toInt = (Ia9 (1000) 24 : Int32).toInt := congrArg Int32.toInt ((((((show (u2 I314 (1000) 25 (v327)) (1000) 24 = I314 (1000) 24 from by simp [u2_v])).trans (hkI314.get (1000) 24 rfl)).trans (hkI38.get (1000) 24 rfl)).trans (hkI23.get (1000) 24 rfl)).trans (hkI13.get (1000) 24 rfl))
                      have pw330 : ((u2 I314 (1000) 25 (v327)) (1000) 25).toInt = (v327 : Int32).toInt := congrArg Int32.toInt ((show (u2 I314 (1000) 25 (v327)) (1000) 25 = v327 from by simp [u2_v]))
                      have pw331 : ((u2 I314 (1000) 25 (v327)) (1000) 26).toInt = (I314 (1000) 26 : Int32).toInt := congrArg Int32.toInt ((show (u2 I314 (1000) 25 (v327)) (1000) 26 = I314 (1000) 26 from by simp [u2_v]))
                      have pw332 : ((u2 I314 (1000) 25 (v327)) (1000) 27).toInt = (Ia9 (1000) 27 : Int32).toInt := congrArg Int32.toInt ((((((show (u2 I314 (1000) 25 (v327)) (1000) 27 = I314 (1000) 27 from by simp [u2_v])).trans (hkI314.get (1000) 27 rfl)).trans (hkI38.get (1000) 27 rfl)).trans (hkI23.get (1000) 27 rfl)).trans (hkI13.get (1000) 27 rfl))
                      have pw333 : ((u2 I314 (1000) 25 (v327)) (1000) 29).toInt = (I38 (1000) 29 : Int32).toInt := congrArg Int32.toInt (((show (u2 I314 (1000) 25 (v327)) (1000) 29 = I314 (1000) 29 from by simp [u2_v])).trans (hkI314.get (1000) 29 rfl))
                      have pw334 : ((u2 I314 (1000) 25 (v327)) (1000) 31).toInt = (Ia9 (1000) 31 : Int32).toInt := congrArg Int32.toInt ((((((show (u2 I314 (1000) 25 (v327)) (1000) 31 = I314 (1000) 31 from by simp [u2_v])).trans (hkI314.get (1000) 31 rfl)).trans (hkI38.get (1000) 31 rfl)).trans (hkI23.get (1000) 31 rfl)).trans (hkI13.get (1000) 31 rfl))
                      have pw335 : ((u2 I314 (1000) 25 (v327)) (1000) 32).toInt = (I314 (1000) 32 : Int32).toInt := congrArg Int32.toInt ((show (u2 I314 (1000) 25 (v327)) (1000) 32 = I314 (1000) 32 from by simp [u2_v]))
                      replace hC := CT.link (I2 := (u2 I314 (1000) 25 (v327))) hC (((show (u2 I314 (1000) 25 (v327)) 1035 = I314 1035 from by funext zz; simp [u2_v])).trans (hkI314.getA 1035 rfl)) (((show (u2 I314 (1000) 25 (v327)) 1036 = I314 1036 from by funext zz; simp [u2_v])).trans (hkI314.getA 1036 rfl)) (by omega) (fun hz => by have w0 := xI314.1 (by omega); omega)
                      have nn336 := NS_of (I2 := (u2 I314 (1000) 25 (v327))) (I := I314) ((show (u2 I314 (1000) 25 (v327)) 1042 = I314 1042 from by funext zz; simp [u2_v])) (by omega)
                      have gP9 := hI.get 1000 25 (lo := 0) (hi := 100000) rfl
                      have gO9 := hI.get 1000 32 (lo := 0) (hi := 402) rfl
                      exact ih9 (x2_9) (1) (u2 I314 (1000) 25 (v327)) L315 _ _ ls hI hK (by first | omega | decide) (by first | omega | decide) (by omega) (fun hz => by have w0 := xI314.1 (by omega); omega) (by rw [show NB (u2 I314 (1000) 25 (v327)) + (1 - (1 : Int32).toInt).toNat = dd from by omega]; exact hC) (by omega) hM hS (lv_sub hl [3, 0, 4] rfl)
                    · have hc326 := c326
                      have q326 := q_ne hc326
                      have sg337 := slr31 (by omega)
                      refine lv_iconst (v := (3)) hx hb dX10_test_117 (by decide) ?_
                      refine lv_goto (tgt := 122) hx hb dX10_test_118 (by decide) ?_
                      refine lv_iadd hx hb dX10_test_122 ?_
                      refine lv_topi (fun v338 ev338 => ?_)
                      have tv338 := a_add ev338 (by omega) (by omega)
                      refine m_puti (1000) 25 hx hb hts hown hE oc10 hM hS hJ.1 rfl (by decide) rfl rfl rfl rfl tb_1202 dX10_test_123 (fun H locs I339 eI339 hM hS => ?_)
                      subst eI339
                      have hI := hI.put (n := 1000) (k := 25) (v := v338) (lo := 0) (hi := 100000) rfl (by first | omega | decide)
                      have hK := hK.put (n := 1000) (k := 25) (v := v338) (by first | rfl | simp [inR])
                      refine lv_iconst (v := (1)) hx hb dX10_test_126 (by decide) ?_
                      refine lv_istore_n (lv' := [(1, .int (1)), (4, .int (r34)), (3, .int (r31)), (2, .int (x2_9)), (0, .ref (ad (1000)))]) hx hb dX10_test_127 rfl hl (by decide) rfl (fun ls hl => ?_)
                      refine lv_goto (tgt := 199) hx hb dX10_test_128 (by decide) ?_
                      refine lv_goto (tgt := 9) hx hb dX10_test_199 (by decide) ?_
                      have pw340 : ((u2 I314 (1000) 25 (v338)) (1000) 24).toInt = (Ia9 (1000) 24 : Int32).toInt := congrArg Int32.toInt ((((((show (u2 I314 (1000) 25 (v338)) (1000) 24 = I314 (1000) 24 from by simp [u2_v])).trans (hkI314.get (1000) 24 rfl)).trans (hkI38.get (1000) 24 rfl)).trans (hkI23.get (1000) 24 rfl)).trans (hkI13.get (1000) 24 rfl))
                      have pw341 : ((u2 I314 (1000) 25 (v338)) (1000) 25).toInt = (v338 : Int32).toInt := congrArg Int32.toInt ((show (u2 I314 (1000) 25 (v338)) (1000) 25 = v338 from by simp [u2_v]))
                      have pw342 : ((u2 I314 (1000) 25 (v338)) (1000) 26).toInt = (I314 (1000) 26 : Int32).toInt := congrArg Int32.toInt ((show (u2 I314 (1000) 25 (v338)) (1000) 26 = I314 (1000) 26 from by simp [u2_v]))
                      have pw343 : ((u2 I314 (1000) 25 (v338)) (1000) 27).toInt = (Ia9 (1000) 27 : Int32).toInt := congrArg Int32.toInt ((((((show (u2 I314 (1000) 25 (v338)) (1000) 27 = I314 (1000) 27 from by simp [u2_v])).trans (hkI314.get (1000) 27 rfl)).trans (hkI38.get (1000) 27 rfl)).trans (hkI23.get (1000) 27 rfl)).trans (hkI13.get (1000) 27 rfl))
                      have pw344 : ((u2 I314 (1000) 25 (v338)) (1000) 29).toInt = (I38 (1000) 29 : Int32).toInt := congrArg Int32.toInt (((show (u2 I314 (1000) 25 (v338)) (1000) 29 = I314 (1000) 29 from by simp [u2_v])).trans (hkI314.get (1000) 29 rfl))
                      have pw345 : ((u2 I314 (1000) 25 (v338)) (1000) 31).toInt = (Ia9 (1000) 31 : Int32).toInt := congrArg Int32.toInt ((((((show (u2 I314 (1000) 25 (v338)) (1000) 31 = I314 (1000) 31 from by simp [u2_v])).trans (hkI314.get (1000) 31 rfl)).trans (hkI38.get (1000) 31 rfl)).trans (hkI23.get (1000) 31 rfl)).trans (hkI13.get (1000) 31 rfl))
                      have pw346 : ((u2 I314 (1000) 25 (v338)) (1000) 32).toInt = (I314 (1000) 32 : Int32).toInt := congrArg Int32.toInt ((show (u2 I314 (1000) 25 (v338)) (1000) 32 = I314 (1000) 32 from by simp [u2_v]))
                      replace hC := CT.link (I2 := (u2 I314 (1000) 25 (v338))) hC (((show (u2 I314 (1000) 25 (v338)) 1035 = I314 1035 from by funext zz; simp [u2_v])).trans (hkI314.getA 1035 rfl)) (((show (u2 I314 (1000) 25 (v338)) 1036 = I314 1036 from by funext zz; simp [u2_v])).trans (hkI314.getA 1036 rfl)) (by omega) (fun hz => by have w0 := xI314.1 (by omega); omega)
                      have nn347 := NS_of (I2 := (u2 I314 (1000) 25 (v338))) (I := I314) ((show (u2 I314 (1000) 25 (v338)) 1042 = I314 1042 from by funext zz; simp [u2_v])) (by omega)
                      have gP9 := hI.get 1000 25 (lo := 0) (hi := 100000) rfl
                      have gO9 := hI.get 1000 32 (lo := 0) (hi := 402) rfl
                      exact ih9 (x2_9) (1) (u2 I314 (1000) 25 (v338)) L315 _ _ ls hI hK (by first | omega | decide) (by first | omega | decide) (by omega) (fun hz => by have w0 := xI314.1 (by omega); omega) (by rw [show NB (u2 I314 (1000) 25 (v338)) + (1 - (1 : Int32).toInt).toNat = dd from by omega]; exact hC) (by omega) hM hS (lv_sub hl [3, 0, 4] rfl)
                · have hc277 := c277
                  have q277 := q_ne hc277
                  have sg348 := slr34 (by omega)
                  refine lv_aload_n hx hb dX10_test_87 rfl (lv_at hl 4 rfl) ?_
                  refine lv_bipush (v := (11)) hx hb dX10_test_88 (by decide) ?_
                  refine m_callv (m_runV (1000) (As := [.int (11)]) (rest := []) hx hb hml hown hts hE hM hS hA ce_X10_answers tb_1594 (V_X10_answers l D A ad ns I38 L39 G (11) hJ hI (by decide) (fun hz => by omega)) rfl rfl ⟨Nat.le_of_ble_eq_true rfl, Nat.le_of_ble_eq_true rfl⟩ hJ.1 rfl rfl (by decide) rfl hl.1 rfl (Nat.le_of_ble_eq_true rfl) dX10_test_90 ⟨Nat.le_of_ble_eq_true rfl, Nat.le_of_ble_eq_true rfl⟩) hS (fun u H locs hw hM hS => ?_)
                  obtain ⟨I349, L350, rfl, hI, hkI349, xI349⟩ := hw
                  have hM : Mem D A ad ns I349 L350 G H := hM
                  have hK := hK.trans hkI349 rfl
                  have g351 := hI.get 1000 32 (lo := 0) (hi := 402) rfl
                  have pw352 : (I349 (1000) 24).toInt = (Ia9 (1000) 24 : Int32).toInt := congrArg Int32.toInt (((((hkI349.get (1000) 24 rfl)).trans (hkI38.get (1000) 24 rfl)).trans (hkI23.get (1000) 24 rfl)).trans (hkI13.get (1000) 24 rfl))
                  have pw353 : (I349 (1000) 25).toInt = (I23 (1000) 25 : Int32).toInt := congrArg Int32.toInt (((hkI349.get (1000) 25 rfl)).trans (hkI38.get (1000) 25 rfl))
                  have pw354 : (I349 (1000) 26).toInt = (Ia9 (1000) 26 : Int32).toInt := congrArg Int32.toInt (((((hkI349.get (1000) 26 rfl)).trans (hkI38.get (1000) 26 rfl)).trans (hkI23.get (1000) 26 rfl)).trans (hkI13.get (1000) 26 rfl))
                  have pw355 : (I349 (1000) 27).toInt = (Ia9 (1000) 27 : Int32).toInt := congrArg Int32.toInt (((((hkI349.get (1000) 27 rfl)).trans (hkI38.get (1000) 27 rfl)).trans (hkI23.get (1000) 27 rfl)).trans (hkI13.get (1000) 27 rfl))
                  have pw356 : (I349 (1000) 31).toInt = (Ia9 (1000) 31 : Int32).toInt := congrArg Int32.toInt (((((hkI349.get (1000) 31 rfl)).trans (hkI38.get (1000) 31 rfl)).trans (hkI23.get (1000) 31 rfl)).trans (hkI13.get (1000) 31 rfl))
                  replace hC := CT.comp (n1 := NB I38 + 1) (by rw [show NB I38 + 1 = dd from by omega]; exact hC) (xI349.2.2.2) (by omega) (by omega) (by omega) (by omega) (fun hz => by omega)
                  obtain ⟨dd, hdd⟩ : ∃ z : Nat, z = NB I349 + 1 := ⟨_, rfl⟩
                  rw [← hdd] at hC
                  refine lv_aload_n hx hb dX10_test_93 rfl (lv_at hl 4 rfl) ?_
                  refine lv_iload_n hx hb dX10_test_94 rfl (lv_at hl 1 rfl) ?_
                  refine lv_if_eq (tgt := 103) hx hb dX10_test_95 (by decide) (fun c357 => ?_) (fun c357 => ?_)
                  · have hc357 := c357
                    have q357 := q_eq hc357
                    refine lv_bipush (v := (11)) hx hb dX10_test_103 (by decide) ?_
                    refine m_callv (m_runV (1000) (As := [.int (11)]) (rest := []) hx hb hml hown hts hE hM hS hA ce_X10_opens tb_1586 (V_X10_opens l D A ad ns I349 L350 G (11) hJ hI (by first | omega | decide) (by omega)) rfl rfl ⟨Nat.le_of_ble_eq_true rfl, Nat.le_of_ble_eq_true rfl⟩ hJ.1 rfl rfl (by decide) rfl hl.1 rfl (Nat.le_of_ble_eq_true rfl) dX10_test_105 ⟨Nat.le_of_ble_eq_true rfl, Nat.le_of_ble_eq_true rfl⟩) hS (fun u H locs hw hM hS => ?_)
                    obtain ⟨I358, L359, rfl, hI, hkI358, xI358⟩ := hw
                    have hM : Mem D A ad ns I358 L359 G H := hM
                    have hK := hK.trans hkI358 rfl
                    have g360 := hI.get 1000 32 (lo := 0) (hi := 402) rfl
                    have pw361 : (I358 (1000) 24).toInt = (Ia9 (1000) 24 : Int32).toInt := congrArg Int32.toInt ((((((hkI358.get (1000) 24 rfl)).trans (hkI349.get (1000) 24 rfl)).trans (hkI38.get (1000) 24 rfl)).trans (hkI23.get (1000) 24 rfl)).trans (hkI13.get (1000) 24 rfl))
                    have pw362 : (I358 (1000) 25).toInt = (I23 (1000) 25 : Int32).toInt := congrArg Int32.toInt ((((hkI358.get (1000) 25 rfl)).trans (hkI349.get (1000) 25 rfl)).trans (hkI38.get (1000) 25 rfl))
                    have pw363 : (I358 (1000) 27).toInt = (Ia9 (1000) 27 : Int32).toInt := congrArg Int32.toInt ((((((hkI358.get (1000) 27 rfl)).trans (hkI349.get (1000) 27 rfl)).trans (hkI38.get (1000) 27 rfl)).trans (hkI23.get (1000) 27 rfl)).trans (hkI13.get (1000) 27 rfl))
                    have pw364 : (I358 (1000) 29).toInt = (I349 (1000) 29 : Int32).toInt := congrArg Int32.toInt ((hkI358.get (1000) 29 rfl))
                    have pw365 : (I358 (1000) 31).toInt = (Ia9 (1000) 31 : Int32).toInt := congrArg Int32.toInt ((((((hkI358.get (1000) 31 rfl)).trans (hkI349.get (1000) 31 rfl)).trans (hkI38.get (1000) 31 rfl)).trans (hkI23.get (1000) 31 rfl)).trans (hkI13.get (1000) 31 rfl))
                    have pv366 : pN 11 = 1 ∧ pB 11 = 1 := by decide
                    have po367 := xI358.2
                    refine lv_aload_n hx hb dX10_test_108 rfl (lv_at hl 4 rfl) ?_
                    refine lv_dup hx hb dX10_test_109 rfl ?_
                    refine m_geti (1000) 25 hx hb hts hown hE oc10 hM hJ.1 rfl (by decide) rfl tb_1202 dX10_test_110 ?_
                    have g368 := hI.get (1000) 25 (lo := 0) (hi := 100000) rfl
                    have z369 : I358 (1000) 25 = I23 (1000) 25 := (((hkI358.get (1000) 25 rfl)).trans (hkI349.get (1000) 25 rfl)).trans (hkI38.get (1000) 25 rfl)
                    rw [z369] at g368 ⊢
                    refine lv_iload_n hx hb dX10_test_113 rfl (lv_at hl 1 rfl) ?_
                    refine lv_if_eq (tgt := 121) hx hb dX10_test_114 (by decide) (fun c370 => ?_) (fun c370 => ?_)
                    · have hc370 := c370
                      have q370 := q_eq hc370
                      refine lv_iconst (v := (2)) hx hb dX10_test_121 (by decide) ?_
                      refine lv_iadd hx hb dX10_test_122 ?_
                      refine lv_topi (fun v371 ev371 => ?_)
                      have tv371 := a_add ev371 (by omega) (by omega)
                      refine m_puti (1000) 25 hx hb hts hown hE oc10 hM hS hJ.1 rfl (by decide) rfl rfl rfl rfl tb_1202 dX10_test_123 (fun H locs I372 eI372 hM hS => ?_)
                      subst eI372
                      have hI := hI.put (n := 1000) (k := 25) (v := v371) (lo := 0) (hi := 100000) rfl (by first | omega | decide)
                      have hK := hK.put (n := 1000) (k := 25) (v := v371) (by first | rfl | simp [inR])
                      refine lv_iconst (v := (1)) hx hb dX10_test_126 (by decide) ?_
                      refine lv_istore_n (lv' := [(1, .int (1)), (4, .int (r34)), (3, .int (r31)), (2, .int (x2_9)), (0, .ref (ad (1000)))]) hx hb dX10_test_127 rfl hl (by decide) rfl (fun ls hl => ?_)
                      refine lv_goto (tgt := 199) hx hb dX10_test_128 (by decide) ?_
                      refine lv_goto (tgt := 9) hx hb dX10_test_199 (by decide) ?_
                      have pw373 : ((u2 I358 (1000) 25 (v371)) (1000) 24).toInt = (Ia9 (1000) 24 : Int32).toInt := congrArg Int32.toInt (((((((show (u2 I358 (1000) 25 (v371)) (1000) 24 = I358 (1000) 24 from by simp [u2_v])).trans (hkI358.get (1000) 24 rfl)).trans (hkI349.get (1000) 24 rfl)).trans (hkI38.get (1000) 24 rfl)).trans (hkI23.get (1000) 24 rfl)).trans (hkI13.get (1000) 24 rfl))
                      have pw374 : ((u2 I358 (1000) 25 (v371)) (1000) 25).toInt = (v371 : Int32).toInt := congrArg Int32.toInt ((show (u2 I358 (1000) 25 (v371)) (1000) 25 = v371 from by simp [u2_v]))
                      have pw375 : ((u2 I358 (1000) 25 (v371)) (1000) 26).toInt = (I358 (1000) 26 : Int32).toInt := congrArg Int32.toInt ((show (u2 I358 (1000) 25 (v371)) (1000) 26 = I358 (1000) 26 from by simp [u2_v]))
                      have pw376 : ((u2 I358 (1000) 25 (v371)) (1000) 27).toInt = (Ia9 (1000) 27 : Int32).toInt := congrArg Int32.toInt (((((((show (u2 I358 (1000) 25 (v371)) (1000) 27 = I358 (1000) 27 from by simp [u2_v])).trans (hkI358.get (1000) 27 rfl)).trans (hkI349.get (1000) 27 rfl)).trans (hkI38.get (1000) 27 rfl)).trans (hkI23.get (1000) 27 rfl)).trans (hkI13.get (1000) 27 rfl))
                      have pw377 : ((u2 I358 (1000) 25 (v371)) (1000) 29).toInt = (I349 (1000) 29 : Int32).toInt := congrArg Int32.toInt (((show (u2 I358 (1000) 25 (v371)) (1000) 29 = I358 (1000) 29 from by simp [u2_v])).trans (hkI358.get (1000) 29 rfl))
                      have pw378 : ((u2 I358 (1000) 25 (v371)) (1000) 31).toInt = (Ia9 (1000) 31 : Int32).toInt := congrArg Int32.toInt (((((((show (u2 I358 (1000) 25 (v371)) (1000) 31 = I358 (1000) 31 from by simp [u2_v])).trans (hkI358.get (1000) 31 rfl)).trans (hkI349.get (1000) 31 rfl)).trans (hkI38.get (1000) 31 rfl)).trans (hkI23.get (1000) 31 rfl)).trans (hkI13.get (1000) 31 rfl))
                      have pw379 : ((u2 I358 (1000) 25 (v371)) (1000) 32).toInt = (I358 (1000) 32 : Int32).toInt := congrArg Int32.toInt ((show (u2 I358 (1000) 25 (v371)) (1000) 32 = I358 (1000) 32 from by simp [u2_v]))
                      replace hC := CT.link (I2 := (u2 I358 (1000) 25 (v371))) hC (((show (u2 I358 (1000) 25 (v371)) 1035 = I358 1035 from by funext zz; simp [u2_v])).trans (hkI358.getA 1035 rfl)) (((show (u2 I358 (1000) 25 (v371)) 1036 = I358 1036 from by funext zz; simp [u2_v])).trans (hkI358.getA 1036 rfl)) (by omega) (fun hz => by have w0 := xI358.1 (by omega); omega)
                      have nn380 := NS_of (I2 := (u2 I358 (1000) 25 (v371))) (I := I358) ((show (u2 I358 (1000) 25 (v371)) 1042 = I358 1042 from by funext zz; simp [u2_v])) (by omega)
                      have gP9 := hI.get 1000 25 (lo := 0) (hi := 100000) rfl
                      have gO9 := hI.get 1000 32 (lo := 0) (hi := 402) rfl
                      exact ih9 (x2_9) (1) (u2 I358 (1000) 25 (v371)) L359 _ _ ls hI hK (by first | omega | decide) (by first | omega | decide) (by omega) (fun hz => by have w0 := xI358.1 (by omega); omega) (by rw [show NB (u2 I358 (1000) 25 (v371)) + (1 - (1 : Int32).toInt).toNat = dd from by omega]; exact hC) (by omega) hM hS (lv_sub hl [3, 0, 4] rfl)
                    · have hc370 := c370
                      have q370 := q_ne hc370
                      have sg381 := slr31 (by omega)
                      refine lv_iconst (v := (3)) hx hb dX10_test_117 (by decide) ?_
                      refine lv_goto (tgt := 122) hx hb dX10_test_118 (by decide) ?_
                      refine lv_iadd hx hb dX10_test_122 ?_
                      refine lv_topi (fun v382 ev382 => ?_)
                      have tv382 := a_add ev382 (by omega) (by omega)
                      refine m_puti (1000) 25 hx hb hts hown hE oc10 hM hS hJ.1 rfl (by decide) rfl rfl rfl rfl tb_1202 dX10_test_123 (fun H locs I383 eI383 hM hS => ?_)
                      subst eI383
                      have hI := hI.put (n := 1000) (k := 25) (v := v382) (lo := 0) (hi := 100000) rfl (by first | omega | decide)
                      have hK := hK.put (n := 1000) (k := 25) (v := v382) (by first | rfl | simp [inR])
                      refine lv_iconst (v := (1)) hx hb dX10_test_126 (by decide) ?_
                      refine lv_istore_n (lv' := [(1, .int (1)), (4, .int (r34)), (3, .int (r31)), (2, .int (x2_9)), (0, .ref (ad (1000)))]) hx hb dX10_test_127 rfl hl (by decide) rfl (fun ls hl => ?_)
                      refine lv_goto (tgt := 199) hx hb dX10_test_128 (by decide) ?_
                      refine lv_goto (tgt := 9) hx hb dX10_test_199 (by decide) ?_
                      have pw384 : ((u2 I358 (1000) 25 (v382)) (1000) 24).toInt = (Ia9 (1000) 24 : Int32).toInt := congrArg Int32.toInt (((((((show (u2 I358 (1000) 25 (v382)) (1000) 24 = I358 (1000) 24 from by simp [u2_v])).trans (hkI358.get (1000) 24 rfl)).trans (hkI349.get (1000) 24 rfl)).trans (hkI38.get (1000) 24 rfl)).trans (hkI23.get (1000) 24 rfl)).trans (hkI13.get (1000) 24 rfl))
                      have pw385 : ((u2 I358 (1000) 25 (v382)) (1000) 25).toInt = (v382 : Int32).toInt := congrArg Int32.toInt ((show (u2 I358 (1000) 25 (v382)) (1000) 25 = v382 from by simp [u2_v]))
                      have pw386 : ((u2 I358 (1000) 25 (v382)) (1000) 26).toInt = (I358 (1000) 26 : Int32).toInt := congrArg Int32.toInt ((show (u2 I358 (1000) 25 (v382)) (1000) 26 = I358 (1000) 26 from by simp [u2_v]))
                      have pw387 : ((u2 I358 (1000) 25 (v382)) (1000) 27).toInt = (Ia9 (1000) 27 : Int32).toInt := congrArg Int32.toInt (((((((show (u2 I358 (1000) 25 (v382)) (1000) 27 = I358 (1000) 27 from by simp [u2_v])).trans (hkI358.get (1000) 27 rfl)).trans (hkI349.get (1000) 27 rfl)).trans (hkI38.get (1000) 27 rfl)).trans (hkI23.get (1000) 27 rfl)).trans (hkI13.get (1000) 27 rfl))
                      have pw388 : ((u2 I358 (1000) 25 (v382)) (1000) 29).toInt = (I349 (1000) 29 : Int32).toInt := congrArg Int32.toInt (((show (u2 I358 (1000) 25 (v382)) (1000) 29 = I358 (1000) 29 from by simp [u2_v])).trans (hkI358.get (1000) 29 rfl))
                      have pw389 : ((u2 I358 (1000) 25 (v382)) (1000) 31).toInt = (Ia9 (1000) 31 : Int32).toInt := congrArg Int32.toInt (((((((show (u2 I358 (1000) 25 (v382)) (1000) 31 = I358 (1000) 31 from by simp [u2_v])).trans (hkI358.get (1000) 31 rfl)).trans (hkI349.get (1000) 31 rfl)).trans (hkI38.get (1000) 31 rfl)).trans (hkI23.get (1000) 31 rfl)).trans (hkI13.get (1000) 31 rfl))
                      have pw390 : ((u2 I358 (1000) 25 (v382)) (1000) 32).toInt = (I358 (1000) 32 : Int32).toInt := congrArg Int32.toInt ((show (u2 I358 (1000) 25 (v382)) (1000) 32 = I358 (1000) 32 from by simp [u2_v]))
                      replace hC := CT.link (I2 := (u2 I358 (1000) 25 (v382))) hC (((show (u2 I358 (1000) 25 (v382)) 1035 = I358 1035 from by funext zz; simp [u2_v])).trans (hkI358.getA 1035 rfl)) (((show (u2 I358 (1000) 25 (v382)) 1036 = I358 1036 from by funext zz; simp [u2_v])).trans (hkI358.getA 1036 rfl)) (by omega) (fun hz => by have w0 := xI358.1 (by omega); omega)
                      have nn391 := NS_of (I2 := (u2 I358 (1000) 25 (v382))) (I := I358) ((show (u2 I358 (1000) 25 (v382)) 1042 = I358 1042 from by funext zz; simp [u2_v])) (by omega)
                      have gP9 := hI.get 1000 25 (lo := 0) (hi := 100000) rfl
                      have gO9 := hI.get 1000 32 (lo := 0) (hi := 402) rfl
                      exact ih9 (x2_9) (1) (u2 I358 (1000) 25 (v382)) L359 _ _ ls hI hK (by first | omega | decide) (by first | omega | decide) (by omega) (fun hz => by have w0 := xI358.1 (by omega); omega) (by rw [show NB (u2 I358 (1000) 25 (v382)) + (1 - (1 : Int32).toInt).toNat = dd from by omega]; exact hC) (by omega) hM hS (lv_sub hl [3, 0, 4] rfl)
                  · have hc357 := c357
                    have q357 := q_ne hc357
                    have sg392 := slr31 (by omega)
                    refine lv_bipush (v := (10)) hx hb dX10_test_98 (by decide) ?_
                    refine lv_goto (tgt := 105) hx hb dX10_test_100 (by decide) ?_
                    refine m_callv (m_runV (1000) (As := [.int (10)]) (rest := []) hx hb hml hown hts hE hM hS hA ce_X10_opens tb_1586 (V_X10_opens l D A ad ns I349 L350 G (10) hJ hI (by first | omega | decide) (by omega)) rfl rfl ⟨Nat.le_of_ble_eq_true rfl, Nat.le_of_ble_eq_true rfl⟩ hJ.1 rfl rfl (by decide) rfl hl.1 rfl (Nat.le_of_ble_eq_true rfl) dX10_test_105 ⟨Nat.le_of_ble_eq_true rfl, Nat.le_of_ble_eq_true rfl⟩) hS (fun u H locs hw hM hS => ?_)
                    obtain ⟨I393, L394, rfl, hI, hkI393, xI393⟩ := hw
                    have hM : Mem D A ad ns I393 L394 G H := hM
                    have hK := hK.trans hkI393 rfl
                    have g395 := hI.get 1000 32 (lo := 0) (hi := 402) rfl
                    have pw396 : (I393 (1000) 24).toInt = (Ia9 (1000) 24 : Int32).toInt := congrArg Int32.toInt ((((((hkI393.get (1000) 24 rfl)).trans (hkI349.get (1000) 24 rfl)).trans (hkI38.get (1000) 24 rfl)).trans (hkI23.get (1000) 24 rfl)).trans (hkI13.get (1000) 24 rfl))
                    have pw397 : (I393 (1000) 25).toInt = (I23 (1000) 25 : Int32).toInt := congrArg Int32.toInt ((((hkI393.get (1000) 25 rfl)).trans (hkI349.get (1000) 25 rfl)).trans (hkI38.get (1000) 25 rfl))
                    have pw398 : (I393 (1000) 27).toInt = (Ia9 (1000) 27 : Int32).toInt := congrArg Int32.toInt ((((((hkI393.get (1000) 27 rfl)).trans (hkI349.get (1000) 27 rfl)).trans (hkI38.get (1000) 27 rfl)).trans (hkI23.get (1000) 27 rfl)).trans (hkI13.get (1000) 27 rfl))
                    have pw399 : (I393 (1000) 29).toInt = (I349 (1000) 29 : Int32).toInt := congrArg Int32.toInt ((hkI393.get (1000) 29 rfl))
                    have pw400 : (I393 (1000) 31).toInt = (Ia9 (1000) 31 : Int32).toInt := congrArg Int32.toInt ((((((hkI393.get (1000) 31 rfl)).trans (hkI349.get (1000) 31 rfl)).trans (hkI38.get (1000) 31 rfl)).trans (hkI23.get (1000) 31 rfl)).trans (hkI13.get (1000) 31 rfl))
                    have pv401 : pN 10 = 1 ∧ pB 10 = 1 := by decide
                    have po402 := xI393.2
                    refine lv_aload_n hx hb dX10_test_108 rfl (lv_at hl 4 rfl) ?_
                    refine lv_dup hx hb dX10_test_109 rfl ?_
                    refine m_geti (1000) 25 hx hb hts hown hE oc10 hM hJ.1 rfl (by decide) rfl tb_1202 dX10_test_110 ?_
                    have g403 := hI.get (1000) 25 (lo := 0) (hi := 100000) rfl
                    have z404 : I393 (1000) 25 = I23 (1000) 25 := (((hkI393.get (1000) 25 rfl)).trans (hkI349.get (1000) 25 rfl)).trans (hkI38.get (1000) 25 rfl)
                    rw [z404] at g403 ⊢
                    refine lv_iload_n hx hb dX10_test_113 rfl (lv_at hl 1 rfl) ?_
                    refine lv_if_eq (tgt := 121) hx hb dX10_test_114 (by decide) (fun c405 => ?_) (fun c405 => ?_)
                    · have hc405 := c405
                      have q405 := q_eq hc405
                      refine lv_iconst (v := (2)) hx hb dX10_test_121 (by decide) ?_
                      refine lv_iadd hx hb dX10_test_122 ?_
                      refine lv_topi (fun v406 ev406 => ?_)
                      have tv406 := a_add ev406 (by omega) (by omega)
                      refine m_puti (1000) 25 hx hb hts hown hE oc10 hM hS hJ.1 rfl (by decide) rfl rfl rfl rfl tb_1202 dX10_test_123 (fun H locs I407 eI407 hM hS => ?_)
                      subst eI407
                      have hI := hI.put (n := 1000) (k := 25) (v := v406) (lo := 0) (hi := 100000) rfl (by first | omega | decide)
                      have hK := hK.put (n := 1000) (k := 25) (v := v406) (by first | rfl | simp [inR])
                      refine lv_iconst (v := (1)) hx hb dX10_test_126 (by decide) ?_
                      refine lv_istore_n (lv' := [(1, .int (1)), (4, .int (r34)), (3, .int (r31)), (2, .int (x2_9)), (0, .ref (ad (1000)))]) hx hb dX10_test_127 rfl hl (by decide) rfl (fun ls hl => ?_)
                      refine lv_goto (tgt := 199) hx hb dX10_test_128 (by decide) ?_
                      refine lv_goto (tgt := 9) hx hb dX10_test_199 (by decide) ?_
                      have pw408 : ((u2 I393 (1000) 25 (v406)) (1000) 24).toInt = (Ia9 (1000) 24 : Int32).toInt := congrArg Int32.toInt (((((((show (u2 I393 (1000) 25 (v406)) (1000) 24 = I393 (1000) 24 from by simp [u2_v])).trans (hkI393.get (1000) 24 rfl)).trans (hkI349.get (1000) 24 rfl)).trans (hkI38.get (1000) 24 rfl)).trans (hkI23.get (1000) 24 rfl)).trans (hkI13.get (1000) 24 rfl))
                      have pw409 : ((u2 I393 (1000) 25 (v406)) (1000) 25).toInt = (v406 : Int32).toInt := congrArg Int32.toInt ((show (u2 I393 (1000) 25 (v406)) (1000) 25 = v406 from by simp [u2_v]))
                      have pw410 : ((u2 I393 (1000) 25 (v406)) (1000) 26).toInt = (I393 (1000) 26 : Int32).toInt := congrArg Int32.toInt ((show (u2 I393 (1000) 25 (v406)) (1000) 26 = I393 (1000) 26 from by simp [u2_v]))
                      have pw411 : ((u2 I393 (1000) 25 (v406)) (1000) 27).toInt = (Ia9 (1000) 27 : Int32).toInt := congrArg Int32.toInt (((((((show (u2 I393 (1000) 25 (v406)) (1000) 27 = I393 (1000) 27 from by simp [u2_v])).trans (hkI393.get (1000) 27 rfl)).trans (hkI349.get (1000) 27 rfl)).trans (hkI38.get (1000) 27 rfl)).trans (hkI23.get (1000) 27 rfl)).trans (hkI13.get (1000) 27 rfl))
                      have pw412 : ((u2 I393 (1000) 25 (v406)) (1000) 29).toInt = (I349 (1000) 29 : Int32).toInt := congrArg Int32.toInt (((show (u2 I393 (1000) 25 (v406)) (1000) 29 = I393 (1000) 29 from by simp [u2_v])).trans (hkI393.get (1000) 29 rfl))
                      have pw413 : ((u2 I393 (1000) 25 (v406)) (1000) 31).toInt = (Ia9 (1000) 31 : Int32).toInt := congrArg Int32.toInt (((((((show (u2 I393 (1000) 25 (v406)) (1000) 31 = I393 (1000) 31 from by simp [u2_v])).trans (hkI393.get (1000) 31 rfl)).trans (hkI349.get (1000) 31 rfl)).trans (hkI38.get (1000) 31 rfl)).trans (hkI23.get (1000) 31 rfl)).trans (hkI13.get (1000) 31 rfl))
                      have pw414 : ((u2 I393 (1000) 25 (v406)) (1000) 32).toInt = (I393 (1000) 32 : Int32).toInt := congrArg Int32.toInt ((show (u2 I393 (1000) 25 (v406)) (1000) 32 = I393 (1000) 32 from by simp [u2_v]))
                      replace hC := CT.link (I2 := (u2 I393 (1000) 25 (v406))) hC (((show (u2 I393 (1000) 25 (v406)) 1035 = I393 1035 from by funext zz; simp [u2_v])).trans (hkI393.getA 1035 rfl)) (((show (u2 I393 (1000) 25 (v406)) 1036 = I393 1036 from by funext zz; simp [u2_v])).trans (hkI393.getA 1036 rfl)) (by omega) (fun hz => by have w0 := xI393.1 (by omega); omega)
                      have nn415 := NS_of (I2 := (u2 I393 (1000) 25 (v406))) (I := I393) ((show (u2 I393 (1000) 25 (v406)) 1042 = I393 1042 from by funext zz; simp [u2_v])) (by omega)
                      have gP9 := hI.get 1000 25 (lo := 0) (hi := 100000) rfl
                      have gO9 := hI.get 1000 32 (lo := 0) (hi := 402) rfl
                      exact ih9 (x2_9) (1) (u2 I393 (1000) 25 (v406)) L394 _ _ ls hI hK (by first | omega | decide) (by first | omega | decide) (by omega) (fun hz => by have w0 := xI393.1 (by omega); omega) (by rw [show NB (u2 I393 (1000) 25 (v406)) + (1 - (1 : Int32).toInt).toNat = dd from by omega]; exact hC) (by omega) hM hS (lv_sub hl [3, 0, 4] rfl)
                    · have hc405 := c405
                      have q405 := q_ne hc405
                      have sg416 := slr31 (by omega)
                      refine lv_iconst (v := (3)) hx hb dX10_test_117 (by decide) ?_
                      refine lv_goto (tgt := 122) hx hb dX10_test_118 (by decide) ?_
                      refine lv_iadd hx hb dX10_test_122 ?_
                      refine lv_topi (fun v417 ev417 => ?_)
                      have tv417 := a_add ev417 (by omega) (by omega)
                      refine m_puti (1000) 25 hx hb hts hown hE oc10 hM hS hJ.1 rfl (by decide) rfl rfl rfl rfl tb_1202 dX10_test_123 (fun H locs I418 eI418 hM hS => ?_)
                      subst eI418
                      have hI := hI.put (n := 1000) (k := 25) (v := v417) (lo := 0) (hi := 100000) rfl (by first | omega | decide)
                      have hK := hK.put (n := 1000) (k := 25) (v := v417) (by first | rfl | simp [inR])
                      refine lv_iconst (v := (1)) hx hb dX10_test_126 (by decide) ?_
                      refine lv_istore_n (lv' := [(1, .int (1)), (4, .int (r34)), (3, .int (r31)), (2, .int (x2_9)), (0, .ref (ad (1000)))]) hx hb dX10_test_127 rfl hl (by decide) rfl (fun ls hl => ?_)
                      refine lv_goto (tgt := 199) hx hb dX10_test_128 (by decide) ?_
                      refine lv_goto (tgt := 9) hx hb dX10_test_199 (by decide) ?_
                      have pw419 : ((u2 I393 (1000) 25 (v417)) (1000) 24).toInt = (Ia9 (1000) 24 : Int32).toInt := congrArg Int32.toInt (((((((show (u2 I393 (1000) 25 (v417)) (1000) 24 = I393 (1000) 24 from by simp [u2_v])).trans (hkI393.get (1000) 24 rfl)).trans (hkI349.get (1000) 24 rfl)).trans (hkI38.get (1000) 24 rfl)).trans (hkI23.get (1000) 24 rfl)).trans (hkI13.get (1000) 24 rfl))
                      have pw420 : ((u2 I393 (1000) 25 (v417)) (1000) 25).toInt = (v417 : Int32).toInt := congrArg Int32.toInt ((show (u2 I393 (1000) 25 (v417)) (1000) 25 = v417 from by simp [u2_v]))
                      have pw421 : ((u2 I393 (1000) 25 (v417)) (1000) 26).toInt = (I393 (1000) 26 : Int32).toInt := congrArg Int32.toInt ((show (u2 I393 (1000) 25 (v417)) (1000) 26 = I393 (1000) 26 from by simp [u2_v]))
                      have pw422 : ((u2 I393 (1000) 25 (v417)) (1000) 27).toInt = (Ia9 (1000) 27 : Int32).toInt := congrArg Int32.toInt (((((((show (u2 I393 (1000) 25 (v417)) (1000) 27 = I393 (1000) 27 from by simp [u2_v])).trans (hkI393.get (1000) 27 rfl)).trans (hkI349.get (1000) 27 rfl)).trans (hkI38.get (1000) 27 rfl)).trans (hkI23.get (1000) 27 rfl)).trans (hkI13.get (1000) 27 rfl))
                      have pw423 : ((u2 I393 (1000) 25 (v417)) (1000) 29).toInt = (I349 (1000) 29 : Int32).toInt := congrArg Int32.toInt (((show (u2 I393 (1000) 25 (v417)) (1000) 29 = I393 (1000) 29 from by simp [u2_v])).trans (hkI393.get (1000) 29 rfl))
                      have pw424 : ((u2 I393 (1000) 25 (v417)) (1000) 31).toInt = (Ia9 (1000) 31 : Int32).toInt := congrArg Int32.toInt (((((((show (u2 I393 (1000) 25 (v417)) (1000) 31 = I393 (1000) 31 from by simp [u2_v])).trans (hkI393.get (1000) 31 rfl)).trans (hkI349.get (1000) 31 rfl)).trans (hkI38.get (1000) 31 rfl)).trans (hkI23.get (1000) 31 rfl)).trans (hkI13.get (1000) 31 rfl))
                      have pw425 : ((u2 I393 (1000) 25 (v417)) (1000) 32).toInt = (I393 (1000) 32 : Int32).toInt := congrArg Int32.toInt ((show (u2 I393 (1000) 25 (v417)) (1000) 32 = I393 (1000) 32 from by simp [u2_v]))
                      replace hC := CT.link (I2 := (u2 I393 (1000) 25 (v417))) hC (((show (u2 I393 (1000) 25 (v417)) 1035 = I393 1035 from by funext zz; simp [u2_v])).trans (hkI393.getA 1035 rfl)) (((show (u2 I393 (1000) 25 (v417)) 1036 = I393 1036 from by funext zz; simp [u2_v])).trans (hkI393.getA 1036 rfl)) (by omega) (fun hz => by have w0 := xI393.1 (by omega); omega)
                      have nn426 := NS_of (I2 := (u2 I393 (1000) 25 (v417))) (I := I393) ((show (u2 I393 (1000) 25 (v417)) 1042 = I393 1042 from by funext zz; simp [u2_v])) (by omega)
                      have gP9 := hI.get 1000 25 (lo := 0) (hi := 100000) rfl
                      have gO9 := hI.get 1000 32 (lo := 0) (hi := 402) rfl
                      exact ih9 (x2_9) (1) (u2 I393 (1000) 25 (v417)) L394 _ _ ls hI hK (by first | omega | decide) (by first | omega | decide) (by omega) (fun hz => by have w0 := xI393.1 (by omega); omega) (by rw [show NB (u2 I393 (1000) 25 (v417)) + (1 - (1 : Int32).toInt).toNat = dd from by omega]; exact hC) (by omega) hM hS (lv_sub hl [3, 0, 4] rfl)
          · have hc12 := c12
            have q12 := q_ne hc12
            refine lv_aload_n hx hb dX10_test_24 rfl (lv_at hl 2 rfl) ?_
            refine m_calli (m_runV (1000) (As := []) (rest := []) hx hb hml hown hts hE hM hS hA ce_X10_fact tb_1581 (V_X10_fact l D A ad ns Ia9 La9 G hJ hI (by omega) (fun hz => by omega) (by omega)) rfl rfl ⟨Nat.le_of_ble_eq_true rfl, Nat.le_of_ble_eq_true rfl⟩ hJ.1 rfl rfl (by decide) rfl hl.1 rfl (Nat.le_of_ble_eq_true rfl) dX10_test_25 ⟨Nat.le_of_ble_eq_true rfl, Nat.le_of_ble_eq_true rfl⟩) hS (fun r427 u H locs hw hM hS => ?_)
            obtain ⟨I428, L429, rfl, hI, hkI428, xr427⟩ := hw
            have hM : Mem D A ad ns I428 L429 G H := hM
            have hK := hK.trans hkI428 rfl
            have pw430 : (I428 (1000) 24).toInt = (Ia9 (1000) 24 : Int32).toInt := congrArg Int32.toInt ((hkI428.get (1000) 24 rfl))
            have pw431 : (I428 (1000) 27).toInt = (Ia9 (1000) 27 : Int32).toInt := congrArg Int32.toInt ((hkI428.get (1000) 27 rfl))
            have g432 := hI0.get 1000 27 (lo := 0) (hi := 5) rfl
            have g433 := hI0.get 1000 29 (lo := 0) (hi := 300) rfl
            have hrn := tn (i := r427) (by omega)
            replace hC : CT I I428 0 (NB I428 + r427.toNatClampNeg) := by
              rcases (show r427.toInt = 0 ∨ r427.toInt = 1 by omega) with hz | hz
              · exact CT.comp (n1 := NB Ia9) (by rw [show NB Ia9 = dd from by omega]; exact hC) (by rw [show NB I428 + r427.toNatClampNeg = NB I428 from by omega]; exact xr427.2.2.2.2.2.2.2.2.1 hz) (by omega) (by omega) (by omega) (by omega) (fun hy => (xr427.2.2.2.2.2.2.2.1 hy).1)
              · exact CT.comp (n1 := NB Ia9) (by rw [show NB Ia9 = dd from by omega]; exact hC) (by rw [show NB I428 + r427.toNatClampNeg = NB I428 + 1 from by omega]; exact xr427.2.2.2.2.2.2.2.2.2 hz) (by omega) (by omega) (by omega) (by omega) (fun hy => (xr427.2.2.2.2.2.2.2.1 hy).1)
            obtain ⟨dd, hdd⟩ : ∃ z : Nat, z = NB I428 + r427.toNatClampNeg := ⟨_, rfl⟩
            rw [← hdd] at hC
            refine lv_if_ne (tgt := 35) hx hb dX10_test_28 (by decide) (fun c434 => ?_) (fun c434 => ?_)
            · have hc434 := c434
              have q434 := q_ne hc434
              refine lv_iconst (v := (0)) hx hb dX10_test_35 (by decide) ?_
              refine lv_istore_n (lv' := [(1, .int (0)), (2, .int (x2_9)), (0, .ref (ad (1000)))]) hx hb dX10_test_36 rfl hl (by decide) rfl (fun ls hl => ?_)
              refine lv_goto (tgt := 9) hx hb dX10_test_37 (by decide) ?_
              have gP9 := hI.get 1000 25 (lo := 0) (hi := 100000) rfl
              have gO9 := hI.get 1000 32 (lo := 0) (hi := 402) rfl
              exact ih9 (x2_9) (0) I428 L429 _ _ ls hI hK (by first | omega | decide) (by first | omega | decide) (by omega) (fun hz => by have w0 := xr427.2.2.2.2.2.2.2.1 (by omega); omega) (by rw [show NB I428 + (1 - (0 : Int32).toInt).toNat = dd from by omega]; exact hC) (by omega) hM hS (lv_sub hl [1, 0, 2] rfl)
            · have hc434 := c434
              have q434 := q_eq hc434
              refine lv_iconst (v := (1)) hx hb dX10_test_31 (by decide) ?_
              refine lv_goto (tgt := 36) hx hb dX10_test_32 (by decide) ?_
              refine lv_istore_n (lv' := [(1, .int (1)), (2, .int (x2_9)), (0, .ref (ad (1000)))]) hx hb dX10_test_36 rfl hl (by decide) rfl (fun ls hl => ?_)
              refine lv_goto (tgt := 9) hx hb dX10_test_37 (by decide) ?_
              have gP9 := hI.get 1000 25 (lo := 0) (hi := 100000) rfl
              have gO9 := hI.get 1000 32 (lo := 0) (hi := 402) rfl
              exact ih9 (x2_9) (1) I428 L429 _ _ ls hI hK (by first | omega | decide) (by first | omega | decide) (by omega) (fun hz => by have w0 := xr427.2.2.2.2.2.2.2.1 (by omega); omega) (by rw [show NB I428 + (1 - (1 : Int32).toInt).toNat = dd from by omega]; exact hC) (by omega) hM hS (lv_sub hl [1, 0, 2] rfl)
  exact loop9 (_ + 1) (1) (1) (u2 I (1000) 32 (0)) L _ _ ls hI hK (by first | omega | decide) (by first | omega | decide) (by omega) (fun hz => by have w0 := hPI (by omega); omega) (by rw [show NB (u2 I (1000) 32 (0)) + (1 - (1 : Int32).toInt).toNat = dd from by omega]; exact hC) (Nat.lt_succ_self _) hM hS (lv_sub hl [0, 1, 2] rfl)
