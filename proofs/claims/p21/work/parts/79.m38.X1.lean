set_option maxHeartbeats 4000000 in
set_option maxRecDepth 20000 in
theorem V_X8_turnTowards_100_v (l : Launch) (D : va_G) (A : Nat → Prop) (ad : Nat → Nat) (ns : List Nat) (I : MI) (L : ML) (G : MG) (a0 : Int32) (a1 : Int32) (hG : SGC ns G) (hI : INV I) (hrs : 0 ≤ (I 107 (48 + (a0).toNatClampNeg)).toInt ∧ (I 107 (48 + (a0).toNatClampNeg)).toInt ≤ 7) (hrr : 0 ≤ (I 107 (120 + (a0).toNatClampNeg)).toInt ∧ (I 107 (120 + (a0).toNatClampNeg)).toInt ≤ 4) (ha0 : 0 ≤ a0.toInt ∧ a0.toInt ≤ 23) (ha1 : 0 ≤ a1.toInt ∧ a1.toInt ≤ 7) : Met l yX8_turnTowards (wd yX8_turnTowards cX8_turnTowards 7 none) ({ frames := 1, cells := 0, slots := 0, locals := 23 }) (va_Pc [.ref (ad (100)), .int a0, .int a1] (PM D A ad ns I L G)) (va_Qv (fun u => ∃ I2 L2, u = (ad, ns, I2, L2, G) ∧ INV I2 ∧ Kp [(107, 108)] [] I I2 ∧ (EqV (stV (cF 100 I) 9 (a0).toNatClampNeg (Int32.ofInt (trn (cF 100 I 9 (a0).toNatClampNeg).toInt (cF 100 I 12 (a0).toNatClampNeg).toInt a1.toInt))) (cF 100 I2))) (BM D A) A) 0 0 A := by
  refine m_ofW (by decide) (Nat.le_of_ble_eq_true rfl) ?_
  intro p e s m below meth c ls args hC hE hM hA hS hl
  obtain ⟨hx, hb, hml, hown, hts, hr, hlocks, hin⟩ := hC
  have k0 : (0 : Int32).toInt = 0 := by decide
  have k2 : (2 : Int32).toInt = 2 := by decide
  have k4 : (4 : Int32).toInt = 4 := by decide
  have k5 : (5 : Int32).toInt = 5 := by decide
  have k7 : (7 : Int32).toInt = 7 := by decide
  have k8 : (8 : Int32).toInt = 8 := by decide
  have hK : Kp [(107, 108)] [] I I := Kp.rf
  have hl : lv_has ls 7 [(0, .ref (ad (100))), (1, .int (a0)), (2, .int (a1))] := hl
  refine lv_aload_n hx hb dX8_turnTowards_0 rfl (lv_at hl 0 rfl) ?_
  refine lv_iload_n hx hb dX8_turnTowards_1 rfl (lv_at hl 1 rfl) ?_
  refine lv_iconst (v := (2)) hx hb dX8_turnTowards_2 (by decide) ?_
  refine m_calli (m_runV (100) (As := [.int (a0), .int (2)]) (rest := []) hx hb hml hown hts hE hM hS hA ce_X8_ofMirror tb_792 (V_X8_ofMirror_100_l l D A ad ns I L G (a0) (2) hG hI (by first | omega | decide) (by first | omega | decide)) rfl rfl ⟨Nat.le_of_ble_eq_true rfl, Nat.le_of_ble_eq_true rfl⟩ (hG.1 100 (by decide)) rfl rfl (by decide) rfl hl.1 rfl (Nat.le_of_ble_eq_true rfl) dX8_turnTowards_3 ⟨Nat.le_of_ble_eq_true rfl, Nat.le_of_ble_eq_true rfl⟩) hS (fun r1 u H locs hw hM hS => ?_)
  obtain ⟨rfl, xr1⟩ := hw
  have hM : Mem D A ad ns I L G H := hM
  rw [show (2 : Int32).toNatClampNeg = 2 from rfl, show 24 * 2 = 48 from rfl] at xr1
  have ho0 := congrArg Int32.toInt xr1
  have hr0 : 0 ≤ (r1).toInt ∧ (r1).toInt ≤ 7 := by have := hrs; omega
  refine lv_istore_n (lv' := [(3, .int (r1)), (0, .ref (ad (100))), (1, .int (a0)), (2, .int (a1))]) hx hb dX8_turnTowards_6 rfl hl (by decide) rfl (fun ls hl => ?_)
  refine lv_aload_n hx hb dX8_turnTowards_7 rfl (lv_at hl 1 rfl) ?_
  refine lv_iload_n hx hb dX8_turnTowards_8 rfl (lv_at hl 2 rfl) ?_
  refine lv_iconst (v := (5)) hx hb dX8_turnTowards_9 (by decide) ?_
  refine m_calli (m_runV (100) (As := [.int (a0), .int (5)]) (rest := []) hx hb hml hown hts hE hM hS hA ce_X8_ofMirror tb_792 (V_X8_ofMirror_100_l l D A ad ns I L G (a0) (5) hG hI (by first | omega | decide) (by first | omega | decide)) rfl rfl ⟨Nat.le_of_ble_eq_true rfl, Nat.le_of_ble_eq_true rfl⟩ (hG.1 100 (by decide)) rfl rfl (by decide) rfl hl.1 rfl (Nat.le_of_ble_eq_true rfl) dX8_turnTowards_10 ⟨Nat.le_of_ble_eq_true rfl, Nat.le_of_ble_eq_true rfl⟩) hS (fun r2 u H locs hw hM hS => ?_)
  obtain ⟨rfl, xr2⟩ := hw
  have hM : Mem D A ad ns I L G H := hM
  rw [show (5 : Int32).toNatClampNeg = 5 from rfl, show 24 * 5 = 120 from rfl] at xr2
  have ho1 := congrArg Int32.toInt xr2
  have hr1 : 0 ≤ (r2).toInt ∧ (r2).toInt ≤ 4 := by have := hrr; omega
  refine lv_istore (lv' := [(4, .int (r2)), (3, .int (r1)), (0, .ref (ad (100))), (1, .int (a0)), (2, .int (a1))]) hx hb dX8_turnTowards_13 hl (by decide) rfl (fun ls hl => ?_)
  refine lv_iload_n hx hb dX8_turnTowards_15 rfl (lv_at hl 4 rfl) ?_
  refine lv_iload_n hx hb dX8_turnTowards_16 rfl (lv_at hl 1 rfl) ?_
  refine lv_isub hx hb dX8_turnTowards_17 ?_
  refine lv_topi (fun v3 ev3 => ?_)
  have tv3 := a_sub ev3 (by omega) (by omega)
  refine lv_bipush (v := (7)) hx hb dX8_turnTowards_18 (by decide) ?_
  refine lv_iand hx hb dX8_turnTowards_20 ?_
  refine lv_topi (fun v4 ev4 => ?_)
  have tv4 := a_and (c := 7) ev4 (by decide) (by decide)
  have mv4 := and7m (x := v3) (by omega) ev4
  refine lv_istore (lv' := [(5, .int (v4)), (4, .int (r2)), (3, .int (r1)), (0, .ref (ad (100))), (1, .int (a0)), (2, .int (a1))]) hx hb dX8_turnTowards_21 hl (by decide) rfl (fun ls hl => ?_)
  refine lv_iload hx hb dX8_turnTowards_23 (lv_at hl 0 rfl) ?_
  refine lv_iconst (v := (4)) hx hb dX8_turnTowards_25 (by decide) ?_
  refine lv_icmp_gt (tgt := 39) hx hb dX8_turnTowards_26 (by decide) (fun c5 => ?_) (fun c5 => ?_)
  · have hc5 := c5
    have q5 := q_lt hc5
    refine lv_bipush (v := (8)) hx hb dX8_turnTowards_39 (by decide) ?_
    refine lv_iload hx hb dX8_turnTowards_41 (lv_at hl 0 rfl) ?_
    refine lv_isub hx hb dX8_turnTowards_43 ?_
    refine lv_topi (fun v6 ev6 => ?_)
    have tv6 := a_sub ev6 (by omega) (by omega)
    refine lv_iload hx hb dX8_turnTowards_44 (lv_at hl 1 rfl) ?_
    refine va_mmin hx hb (hml.trans hl.1.symm) hown (hts _ tb_793) (hts _ tb_794) (hts _ tb_18) (hts _ tb_795) (Nat.le_of_ble_eq_true rfl) (Nat.le_of_ble_eq_true rfl) (Nat.le_of_ble_eq_true rfl) (Nat.le_of_ble_eq_true rfl) dX8_turnTowards_46 ?_
    refine lv_topi (fun v7 ev7 => ?_)
    have tv7 := a_min ev7
    refine lv_ineg hx hb dX8_turnTowards_49 ?_
    refine lv_topi (fun v8 ev8 => ?_)
    have tv8 := a_neg ev8 (by omega)
    refine lv_istore (lv' := [(6, .int (v8)), (5, .int (v4)), (4, .int (r2)), (3, .int (r1)), (0, .ref (ad (100))), (1, .int (a0)), (2, .int (a1))]) hx hb dX8_turnTowards_50 hl (by decide) rfl (fun ls hl => ?_)
    refine lv_aload_n hx hb dX8_turnTowards_52 rfl (lv_at hl 4 rfl) ?_
    refine lv_iload_n hx hb dX8_turnTowards_53 rfl (lv_at hl 5 rfl) ?_
    refine lv_iconst (v := (2)) hx hb dX8_turnTowards_54 (by decide) ?_
    refine lv_iload_n hx hb dX8_turnTowards_55 rfl (lv_at hl 3 rfl) ?_
    refine lv_iload hx hb dX8_turnTowards_56 (lv_at hl 0 rfl) ?_
    refine lv_iadd hx hb dX8_turnTowards_58 ?_
    refine lv_topi (fun v9 ev9 => ?_)
    have tv9 := a_add ev9 (by omega) (by omega)
    refine lv_bipush (v := (7)) hx hb dX8_turnTowards_59 (by decide) ?_
    refine lv_iand hx hb dX8_turnTowards_61 ?_
    refine lv_topi (fun v10 ev10 => ?_)
    have tv10 := a_and (c := 7) ev10 (by decide) (by decide)
    have mv10 := and7m (x := v9) (by omega) ev10
    refine m_callv (m_runV (100) (As := [.int (a0), .int (2), .int (v10)]) (rest := []) hx hb hml hown hts hE hM hS hA ce_X8_setMirror tb_499 (V_X8_setMirror_100_t l D A ad ns I L G (a0) (2) (v10) hG hI (by first | omega | decide) (by first | omega | decide)) rfl rfl ⟨Nat.le_of_ble_eq_true rfl, Nat.le_of_ble_eq_true rfl⟩ (hG.1 100 (by decide)) rfl rfl (by decide) rfl hl.1 rfl (Nat.le_of_ble_eq_true rfl) dX8_turnTowards_62 ⟨Nat.le_of_ble_eq_true rfl, Nat.le_of_ble_eq_true rfl⟩) hS (fun u H locs hw hM hS => ?_)
    obtain ⟨I11, L12, rfl, hI, hkI11, xI11⟩ := hw
    have hM : Mem D A ad ns I11 L12 G H := hM
    have hK := hK.trans hkI11 rfl
    exact m_vret hx hb hr hlocks hM hS (Nat.le_of_ble_eq_true rfl) (Nat.le_of_ble_eq_true rfl) ⟨_, _, rfl, hI, hK, (by have hn : v10 = Int32.ofInt (trn (cF 100 I 9 (a0).toNatClampNeg).toInt (cF 100 I 12 (a0).toNatClampNeg).toInt a1.toInt) := Int32.toInt_inj.mp (by rw [i32 (c := Int32.ofInt (trn (cF 100 I 9 (a0).toNatClampNeg).toInt (cF 100 I 12 (a0).toNatClampNeg).toInt a1.toInt)) (by unfold trn; (repeat' split) <;> omega) rfl]; show _ = trn (I 107 (48 + (a0).toNatClampNeg)).toInt (I 107 (120 + (a0).toNatClampNeg)).toInt a1.toInt; unfold trn; (repeat' split) <;> omega); rw [← hn]; exact xI11)⟩ dX8_turnTowards_65
  · have hc5 := c5
    have q5 := q_nlt hc5
    refine lv_iload hx hb dX8_turnTowards_29 (lv_at hl 0 rfl) ?_
    refine lv_iload hx hb dX8_turnTowards_31 (lv_at hl 1 rfl) ?_
    refine va_mmin hx hb (hml.trans hl.1.symm) hown (hts _ tb_793) (hts _ tb_794) (hts _ tb_18) (hts _ tb_795) (Nat.le_of_ble_eq_true rfl) (Nat.le_of_ble_eq_true rfl) (Nat.le_of_ble_eq_true rfl) (Nat.le_of_ble_eq_true rfl) dX8_turnTowards_33 ?_
    refine lv_topi (fun v13 ev13 => ?_)
    have tv13 := a_min ev13
    refine lv_goto (tgt := 50) hx hb dX8_turnTowards_36 (by decide) ?_
    refine lv_istore (lv' := [(6, .int (v13)), (5, .int (v4)), (4, .int (r2)), (3, .int (r1)), (0, .ref (ad (100))), (1, .int (a0)), (2, .int (a1))]) hx hb dX8_turnTowards_50 hl (by decide) rfl (fun ls hl => ?_)
    refine lv_aload_n hx hb dX8_turnTowards_52 rfl (lv_at hl 4 rfl) ?_
    refine lv_iload_n hx hb dX8_turnTowards_53 rfl (lv_at hl 5 rfl) ?_
    refine lv_iconst (v := (2)) hx hb dX8_turnTowards_54 (by decide) ?_
    refine lv_iload_n hx hb dX8_turnTowards_55 rfl (lv_at hl 3 rfl) ?_
    refine lv_iload hx hb dX8_turnTowards_56 (lv_at hl 0 rfl) ?_
    refine lv_iadd hx hb dX8_turnTowards_58 ?_
    refine lv_topi (fun v14 ev14 => ?_)
    have tv14 := a_add ev14 (by omega) (by omega)
    refine lv_bipush (v := (7)) hx hb dX8_turnTowards_59 (by decide) ?_
    refine lv_iand hx hb dX8_turnTowards_61 ?_
    refine lv_topi (fun v15 ev15 => ?_)
    have tv15 := a_and (c := 7) ev15 (by decide) (by decide)
    have mv15 := and7m (x := v14) (by omega) ev15
    refine m_callv (m_runV (100) (As := [.int (a0), .int (2), .int (v15)]) (rest := []) hx hb hml hown hts hE hM hS hA ce_X8_setMirror tb_499 (V_X8_setMirror_100_t l D A ad ns I L G (a0) (2) (v15) hG hI (by first | omega | decide) (by first | omega | decide)) rfl rfl ⟨Nat.le_of_ble_eq_true rfl, Nat.le_of_ble_eq_true rfl⟩ (hG.1 100 (by decide)) rfl rfl (by decide) rfl hl.1 rfl (Nat.le_of_ble_eq_true rfl) dX8_turnTowards_62 ⟨Nat.le_of_ble_eq_true rfl, Nat.le_of_ble_eq_true rfl⟩) hS (fun u H locs hw hM hS => ?_)
    obtain ⟨I16, L17, rfl, hI, hkI16, xI16⟩ := hw
    have hM : Mem D A ad ns I16 L17 G H := hM
    have hK := hK.trans hkI16 rfl
    exact m_vret hx hb hr hlocks hM hS (Nat.le_of_ble_eq_true rfl) (Nat.le_of_ble_eq_true rfl) ⟨_, _, rfl, hI, hK, (by have hn : v15 = Int32.ofInt (trn (cF 100 I 9 (a0).toNatClampNeg).toInt (cF 100 I 12 (a0).toNatClampNeg).toInt a1.toInt) := Int32.toInt_inj.mp (by rw [i32 (c := Int32.ofInt (trn (cF 100 I 9 (a0).toNatClampNeg).toInt (cF 100 I 12 (a0).toNatClampNeg).toInt a1.toInt)) (by unfold trn; (repeat' split) <;> omega) rfl]; show _ = trn (I 107 (48 + (a0).toNatClampNeg)).toInt (I 107 (120 + (a0).toNatClampNeg)).toInt a1.toInt; unfold trn; (repeat' split) <;> omega); rw [← hn]; exact xI16)⟩ dX8_turnTowards_65
set_option maxHeartbeats 4000000 in
set_option maxRecDepth 20000 in
theorem V_X8_turnTowards_110_v (l : Launch) (D : va_G) (A : Nat → Prop) (ad : Nat → Nat) (ns : List Nat) (I : MI) (L : ML) (G : MG) (a0 : Int32) (a1 : Int32) (hG : SGC ns G) (hI : INV I) (hrs : 0 ≤ (I 117 (48 + (a0).toNatClampNeg)).toInt ∧ (I 117 (48 + (a0).toNatClampNeg)).toInt ≤ 7) (hrr : 0 ≤ (I 117 (120 + (a0).toNatClampNeg)).toInt ∧ (I 117 (120 + (a0).toNatClampNeg)).toInt ≤ 4) (ha0 : 0 ≤ a0.toInt ∧ a0.toInt ≤ 23) (ha1 : 0 ≤ a1.toInt ∧ a1.toInt ≤ 7) : Met l yX8_turnTowards (wd yX8_turnTowards cX8_turnTowards 7 none) ({ frames := 1, cells := 0, slots := 0, locals := 23 }) (va_Pc [.ref (ad (110)), .int a0, .int a1] (PM D A ad ns I L G)) (va_Qv (fun u => ∃ I2 L2, u = (ad, ns, I2, L2, G) ∧ INV I2 ∧ Kp [(117, 118)] [] I I2 ∧ (EqV (stV (cF 110 I) 9 (a0).toNatClampNeg (Int32.ofInt (trn (cF 110 I 9 (a0).toNatClampNeg).toInt (cF 110 I 12 (a0).toNatClampNeg).toInt a1.toInt))) (cF 110 I2))) (BM D A) A) 0 0 A := by
  refine m_ofW (by decide) (Nat.le_of_ble_eq_true rfl) ?_
  intro p e s m below meth c ls args hC hE hM hA hS hl
  obtain ⟨hx, hb, hml, hown, hts, hr, hlocks, hin⟩ := hC
  have k0 : (0 : Int32).toInt = 0 := by decide
  have k2 : (2 : Int32).toInt = 2 := by decide
  have k4 : (4 : Int32).toInt = 4 := by decide
  have k5 : (5 : Int32).toInt = 5 := by decide
  have k7 : (7 : Int32).toInt = 7 := by decide
  have k8 : (8 : Int32).toInt = 8 := by decide
  have hK : Kp [(117, 118)] [] I I := Kp.rf
  have hl : lv_has ls 7 [(0, .ref (ad (110))), (1, .int (a0)), (2, .int (a1))] := hl
  refine lv_aload_n hx hb dX8_turnTowards_0 rfl (lv_at hl 0 rfl) ?_
  refine lv_iload_n hx hb dX8_turnTowards_1 rfl (lv_at hl 1 rfl) ?_
  refine lv_iconst (v := (2)) hx hb dX8_turnTowards_2 (by decide) ?_
  refine m_calli (m_runV (110) (As := [.int (a0), .int (2)]) (rest := []) hx hb hml hown hts hE hM hS hA ce_X8_ofMirror tb_792 (V_X8_ofMirror_110_l l D A ad ns I L G (a0) (2) hG hI (by first | omega | decide) (by first | omega | decide)) rfl rfl ⟨Nat.le_of_ble_eq_true rfl, Nat.le_of_ble_eq_true rfl⟩ (hG.1 110 (by decide)) rfl rfl (by decide) rfl hl.1 rfl (Nat.le_of_ble_eq_true rfl) dX8_turnTowards_3 ⟨Nat.le_of_ble_eq_true rfl, Nat.le_of_ble_eq_true rfl⟩) hS (fun r1 u H locs hw hM hS => ?_)
  obtain ⟨rfl, xr1⟩ := hw
  have hM : Mem D A ad ns I L G H := hM
  rw [show (2 : Int32).toNatClampNeg = 2 from rfl, show 24 * 2 = 48 from rfl] at xr1
  have ho0 := congrArg Int32.toInt xr1
  have hr0 : 0 ≤ (r1).toInt ∧ (r1).toInt ≤ 7 := by have := hrs; omega
  refine lv_istore_n (lv' := [(3, .int (r1)), (0, .ref (ad (110))), (1, .int (a0)), (2, .int (a1))]) hx hb dX8_turnTowards_6 rfl hl (by decide) rfl (fun ls hl => ?_)
  refine lv_aload_n hx hb dX8_turnTowards_7 rfl (lv_at hl 1 rfl) ?_
  refine lv_iload_n hx hb dX8_turnTowards_8 rfl (lv_at hl 2 rfl) ?_
  refine lv_iconst (v := (5)) hx hb dX8_turnTowards_9 (by decide) ?_
  refine m_calli (m_runV (110) (As := [.int (a0), .int (5)]) (rest := []) hx hb hml hown hts hE hM hS hA ce_X8_ofMirror tb_792 (V_X8_ofMirror_110_l l D A ad ns I L G (a0) (5) hG hI (by first | omega | decide) (by first | omega | decide)) rfl rfl ⟨Nat.le_of_ble_eq_true rfl, Nat.le_of_ble_eq_true rfl⟩ (hG.1 110 (by decide)) rfl rfl (by decide) rfl hl.1 rfl (Nat.le_of_ble_eq_true rfl) dX8_turnTowards_10 ⟨Nat.le_of_ble_eq_true rfl, Nat.le_of_ble_eq_true rfl⟩) hS (fun r2 u H locs hw hM hS => ?_)
  obtain ⟨rfl, xr2⟩ := hw
  have hM : Mem D A ad ns I L G H := hM
  rw [show (5 : Int32).toNatClampNeg = 5 from rfl, show 24 * 5 = 120 from rfl] at xr2
  have ho1 := congrArg Int32.toInt xr2
  have hr1 : 0 ≤ (r2).toInt ∧ (r2).toInt ≤ 4 := by have := hrr; omega
  refine lv_istore (lv' := [(4, .int (r2)), (3, .int (r1)), (0, .ref (ad (110))), (1, .int (a0)), (2, .int (a1))]) hx hb dX8_turnTowards_13 hl (by decide) rfl (fun ls hl => ?_)
  refine lv_iload_n hx hb dX8_turnTowards_15 rfl (lv_at hl 4 rfl) ?_
  refine lv_iload_n hx hb dX8_turnTowards_16 rfl (lv_at hl 1 rfl) ?_
  refine lv_isub hx hb dX8_turnTowards_17 ?_
  refine lv_topi (fun v3 ev3 => ?_)
  have tv3 := a_sub ev3 (by omega) (by omega)
  refine lv_bipush (v := (7)) hx hb dX8_turnTowards_18 (by decide) ?_
  refine lv_iand hx hb dX8_turnTowards_20 ?_
  refine lv_topi (fun v4 ev4 => ?_)
  have tv4 := a_and (c := 7) ev4 (by decide) (by decide)
  have mv4 := and7m (x := v3) (by omega) ev4
  refine lv_istore (lv' := [(5, .int (v4)), (4, .int (r2)), (3, .int (r1)), (0, .ref (ad (110))), (1, .int (a0)), (2, .int (a1))]) hx hb dX8_turnTowards_21 hl (by decide) rfl (fun ls hl => ?_)
  refine lv_iload hx hb dX8_turnTowards_23 (lv_at hl 0 rfl) ?_
  refine lv_iconst (v := (4)) hx hb dX8_turnTowards_25 (by decide) ?_
  refine lv_icmp_gt (tgt := 39) hx hb dX8_turnTowards_26 (by decide) (fun c5 => ?_) (fun c5 => ?_)
  · have hc5 := c5
    have q5 := q_lt hc5
    refine lv_bipush (v := (8)) hx hb dX8_turnTowards_39 (by decide) ?_
    refine lv_iload hx hb dX8_turnTowards_41 (lv_at hl 0 rfl) ?_
    refine lv_isub hx hb dX8_turnTowards_43 ?_
    refine lv_topi (fun v6 ev6 => ?_)
    have tv6 := a_sub ev6 (by omega) (by omega)
    refine lv_iload hx hb dX8_turnTowards_44 (lv_at hl 1 rfl) ?_
    refine va_mmin hx hb (hml.trans hl.1.symm) hown (hts _ tb_793) (hts _ tb_794) (hts _ tb_18) (hts _ tb_795) (Nat.le_of_ble_eq_true rfl) (Nat.le_of_ble_eq_true rfl) (Nat.le_of_ble_eq_true rfl) (Nat.le_of_ble_eq_true rfl) dX8_turnTowards_46 ?_
    refine lv_topi (fun v7 ev7 => ?_)
    have tv7 := a_min ev7
    refine lv_ineg hx hb dX8_turnTowards_49 ?_
    refine lv_topi (fun v8 ev8 => ?_)
    have tv8 := a_neg ev8 (by omega)
    refine lv_istore (lv' := [(6, .int (v8)), (5, .int (v4)), (4, .int (r2)), (3, .int (r1)), (0, .ref (ad (110))), (1, .int (a0)), (2, .int (a1))]) hx hb dX8_turnTowards_50 hl (by decide) rfl (fun ls hl => ?_)
    refine lv_aload_n hx hb dX8_turnTowards_52 rfl (lv_at hl 4 rfl) ?_
    refine lv_iload_n hx hb dX8_turnTowards_53 rfl (lv_at hl 5 rfl) ?_
    refine lv_iconst (v := (2)) hx hb dX8_turnTowards_54 (by decide) ?_
    refine lv_iload_n hx hb dX8_turnTowards_55 rfl (lv_at hl 3 rfl) ?_
    refine lv_iload hx hb dX8_turnTowards_56 (lv_at hl 0 rfl) ?_
    refine lv_iadd hx hb dX8_turnTowards_58 ?_
    refine lv_topi (fun v9 ev9 => ?_)
    have tv9 := a_add ev9 (by omega) (by omega)
    refine lv_bipush (v := (7)) hx hb dX8_turnTowards_59 (by decide) ?_
    refine lv_iand hx hb dX8_turnTowards_61 ?_
    refine lv_topi (fun v10 ev10 => ?_)
    have tv10 := a_and (c := 7) ev10 (by decide) (by decide)
    have mv10 := and7m (x := v9) (by omega) ev10
    refine m_callv (m_runV (110) (As := [.int (a0), .int (2), .int (v10)]) (rest := []) hx hb hml hown hts hE hM hS hA ce_X8_setMirror tb_499 (V_X8_setMirror_110_t l D A ad ns I L G (a0) (2) (v10) hG hI (by first | omega | decide) (by first | omega | decide)) rfl rfl ⟨Nat.le_of_ble_eq_true rfl, Nat.le_of_ble_eq_true rfl⟩ (hG.1 110 (by decide)) rfl rfl (by decide) rfl hl.1 rfl (Nat.le_of_ble_eq_true rfl) dX8_turnTowards_62 ⟨Nat.le_of_ble_eq_true rfl, Nat.le_of_ble_eq_true rfl⟩) hS (fun u H locs hw hM hS => ?_)
    obtain ⟨I11, L12, rfl, hI, hkI11, xI11⟩ := hw
    have hM : Mem D A ad ns I11 L12 G H := hM
    have hK := hK.trans hkI11 rfl
    exact m_vret hx hb hr hlocks hM hS (Nat.le_of_ble_eq_true rfl) (Nat.le_of_ble_eq_true rfl) ⟨_, _, rfl, hI, hK, (by have hn : v10 = Int32.ofInt (trn (cF 110 I 9 (a0).toNatClampNeg).toInt (cF 110 I 12 (a0).toNatClampNeg).toInt a1.toInt) := Int32.toInt_inj.mp (by rw [i32 (c := Int32.ofInt (trn (cF 110 I 9 (a0).toNatClampNeg).toInt (cF 110 I 12 (a0).toNatClampNeg).toInt a1.toInt)) (by unfold trn; (repeat' split) <;> omega) rfl]; show _ = trn (I 117 (48 + (a0).toNatClampNeg)).toInt (I 117 (120 + (a0).toNatClampNeg)).toInt a1.toInt; unfold trn; (repeat' split) <;> omega); rw [← hn]; exact xI11)⟩ dX8_turnTowards_65
  · have hc5 := c5
    have q5 := q_nlt hc5
    refine lv_iload hx hb dX8_turnTowards_29 (lv_at hl 0 rfl) ?_
    refine lv_iload hx hb dX8_turnTowards_31 (lv_at hl 1 rfl) ?_
    refine va_mmin hx hb (hml.trans hl.1.symm) hown (hts _ tb_793) (hts _ tb_794) (hts _ tb_18) (hts _ tb_795) (Nat.le_of_ble_eq_true rfl) (Nat.le_of_ble_eq_true rfl) (Nat.le_of_ble_eq_true rfl) (Nat.le_of_ble_eq_true rfl) dX8_turnTowards_33 ?_
    refine lv_topi (fun v13 ev13 => ?_)
    have tv13 := a_min ev13
    refine lv_goto (tgt := 50) hx hb dX8_turnTowards_36 (by decide) ?_
    refine lv_istore (lv' := [(6, .int (v13)), (5, .int (v4)), (4, .int (r2)), (3, .int (r1)), (0, .ref (ad (110))), (1, .int (a0)), (2, .int (a1))]) hx hb dX8_turnTowards_50 hl (by decide) rfl (fun ls hl => ?_)
    refine lv_aload_n hx hb dX8_turnTowards_52 rfl (lv_at hl 4 rfl) ?_
    refine lv_iload_n hx hb dX8_turnTowards_53 rfl (lv_at hl 5 rfl) ?_
    refine lv_iconst (v := (2)) hx hb dX8_turnTowards_54 (by decide) ?_
    refine lv_iload_n hx hb dX8_turnTowards_55 rfl (lv_at hl 3 rfl) ?_
    refine lv_iload hx hb dX8_turnTowards_56 (lv_at hl 0 rfl) ?_
    refine lv_iadd hx hb dX8_turnTowards_58 ?_
    refine lv_topi (fun v14 ev14 => ?_)
    have tv14 := a_add ev14 (by omega) (by omega)
    refine lv_bipush (v := (7)) hx hb dX8_turnTowards_59 (by decide) ?_
    refine lv_iand hx hb dX8_turnTowards_61 ?_
    refine lv_topi (fun v15 ev15 => ?_)
    have tv15 := a_and (c := 7) ev15 (by decide) (by decide)
    have mv15 := and7m (x := v14) (by omega) ev15
    refine m_callv (m_runV (110) (As := [.int (a0), .int (2), .int (v15)]) (rest := []) hx hb hml hown hts hE hM hS hA ce_X8_setMirror tb_499 (V_X8_setMirror_110_t l D A ad ns I L G (a0) (2) (v15) hG hI (by first | omega | decide) (by first | omega | decide)) rfl rfl ⟨Nat.le_of_ble_eq_true rfl, Nat.le_of_ble_eq_true rfl⟩ (hG.1 110 (by decide)) rfl rfl (by decide) rfl hl.1 rfl (Nat.le_of_ble_eq_true rfl) dX8_turnTowards_62 ⟨Nat.le_of_ble_eq_true rfl, Nat.le_of_ble_eq_true rfl⟩) hS (fun u H locs hw hM hS => ?_)
    obtain ⟨I16, L17, rfl, hI, hkI16, xI16⟩ := hw
    have hM : Mem D A ad ns I16 L17 G H := hM
    have hK := hK.trans hkI16 rfl
    exact m_vret hx hb hr hlocks hM hS (Nat.le_of_ble_eq_true rfl) (Nat.le_of_ble_eq_true rfl) ⟨_, _, rfl, hI, hK, (by have hn : v15 = Int32.ofInt (trn (cF 110 I 9 (a0).toNatClampNeg).toInt (cF 110 I 12 (a0).toNatClampNeg).toInt a1.toInt) := Int32.toInt_inj.mp (by rw [i32 (c := Int32.ofInt (trn (cF 110 I 9 (a0).toNatClampNeg).toInt (cF 110 I 12 (a0).toNatClampNeg).toInt a1.toInt)) (by unfold trn; (repeat' split) <;> omega) rfl]; show _ = trn (I 117 (48 + (a0).toNatClampNeg)).toInt (I 117 (120 + (a0).toNatClampNeg)).toInt a1.toInt; unfold trn; (repeat' split) <;> omega); rw [← hn]; exact xI16)⟩ dX8_turnTowards_65
