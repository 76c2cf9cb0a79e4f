set_option maxHeartbeats 4000000 in
set_option maxRecDepth 20000 in
theorem V_X9_eyes_g (l : Launch) (D : va_G) (A : Nat → Prop) (ad : Nat → Nat) (ns : List Nat) (I : MI) (L : ML) (G : MG) (a0 : Int32) (a1 : Int32) (a2 : Int32) (hG : SGC ns G) (hI : INV I) : Met l yX9_eyes (wd yX9_eyes cX9_eyes 5 (some .int)) ({ frames := 1, cells := 0, slots := 0, locals := 22 }) (va_Pc [.ref (ad (0)), .int a0, .int a1, .int a2] (PM D A ad ns I L G)) (va_Qi (fun r u => ∃ I2 L2, u = (ad, ns, I2, L2, G) ∧ INV I2 ∧ Kp [(102, 103)] [] I I2 ∧ (SETA ((0 ≤ a0.toInt ∧ a0.toInt < (I 100 0).toInt ∧ 0 ≤ a1.toInt ∧ a1.toInt < (I 100 1).toInt) ∧ -1 ≤ a2.toInt ∧ a2.toInt ≤ 99999) r I I2 102 (24 * (a1).toNatClampNeg + (a0).toNatClampNeg) a2)) (BM D A) A) 0 0 A := by
  refine m_ofW (by decide) (Nat.le_of_ble_eq_true rfl) ?_
  intro p e s m below meth c ls args hC hE hM hA hS hl
  obtain ⟨hx, hb, hml, hown, hts, hr, hlocks, hin⟩ := hC
  have km2 : (-2 : Int32).toInt = -2 := by decide
  have km1 : (-1 : Int32).toInt = -1 := by decide
  have k0 : (0 : Int32).toInt = 0 := by decide
  have k99999 : (99999 : Int32).toInt = 99999 := by decide
  have hK : Kp [(102, 103)] [] I I := Kp.rf
  have hl : lv_has ls 5 [(0, .ref (ad (0))), (1, .int (a0)), (2, .int (a1)), (3, .int (a2))] := hl
  refine lv_aload_n hx hb dX9_eyes_0 rfl (lv_at hl 0 rfl) ?_
  refine m_getr (0) 0 (100) hx hb hts hown hE oc9 hM (hG.1 0 (by decide)) rfl (by decide) rfl (hG.2 (0, 0, 100) (by decide)) (by decide) tb_398 dX9_eyes_1 ?_
  refine lv_iload_n hx hb dX9_eyes_4 rfl (lv_at hl 1 rfl) ?_
  refine lv_iload_n hx hb dX9_eyes_5 rfl (lv_at hl 2 rfl) ?_
  refine m_calli (m_runV (100) (As := [.int (a0), .int (a1)]) (rest := []) hx hb hml hown hts hE hM hS hA ce_X8_hasCell tb_493 (V_X8_hasCell_100 l D A ad ns I L G (a0) (a1) hG hI) rfl rfl ⟨Nat.le_of_ble_eq_true rfl, Nat.le_of_ble_eq_true rfl⟩ (hG.1 100 (by decide)) rfl rfl (by decide) rfl hl.1 rfl (Nat.le_of_ble_eq_true rfl) dX9_eyes_6 ⟨Nat.le_of_ble_eq_true rfl, Nat.le_of_ble_eq_true rfl⟩) hS (fun r1 u H locs hw hM hS => ?_)
  obtain ⟨rfl, xr1⟩ := hw
  have hM : Mem D A ad ns I L G H := hM
  have yr1 := bo01 xr1
  have g2 := hI.get 100 0 (lo := 0) (hi := 24) rfl
  have g3 := hI.get 100 1 (lo := 0) (hi := 24) rfl
  refine lv_if_eq (tgt := 22) hx hb dX9_eyes_9 (by decide) (fun c4 => ?_) (fun c4 => ?_)
  · have hc4 := c4
    have q4 := xr1.f hc4
    refine lv_bipush (v := (-2)) hx hb dX9_eyes_22 (by decide) ?_
    exact m_iret hx hb hr hlocks hM hS (Nat.le_of_ble_eq_true rfl) (Nat.le_of_ble_eq_true rfl) ⟨_, _, rfl, hI, hK, (Or.inr ⟨by omega, rfl, rfl⟩)⟩ dX9_eyes_24
  · have hc4 := c4
    have q4 := xr1.t hc4
    refine lv_iload_n hx hb dX9_eyes_12 rfl (lv_at hl 3 rfl) ?_
    refine lv_iconst (v := (-1)) hx hb dX9_eyes_13 (by decide) ?_
    refine lv_ldc (v := (99999)) hx hb hown (hts _ tb_488) dX9_eyes_14 ?_
    refine m_calli (m_runS (As := [.int (a2), .int ((-1 : Int32)), .int (99999)]) (rest := []) hx hb hml hown hts hE hM hS hA ce_X9_isWithin tb_451 (V_X9_isWithin l D A ad ns I L G (a2) ((-1 : Int32)) (99999) hI) rfl rfl ⟨Nat.le_of_ble_eq_true rfl, Nat.le_of_ble_eq_true rfl⟩  rfl hl.1 rfl (Nat.le_of_ble_eq_true rfl) dX9_eyes_16 ⟨Nat.le_of_ble_eq_true rfl, Nat.le_of_ble_eq_true rfl⟩) hS (fun r5 u H locs hw hM hS => ?_)
    obtain ⟨rfl, xr5⟩ := hw
    have hM : Mem D A ad ns I L G H := hM
    have yr5 := bo01 xr5
    refine lv_if_ne (tgt := 25) hx hb dX9_eyes_19 (by decide) (fun c6 => ?_) (fun c6 => ?_)
    · have hc6 := c6
      have q6 := xr5.t hc6
      refine lv_aload_n hx hb dX9_eyes_25 rfl (lv_at hl 0 rfl) ?_
      refine m_getr (0) 0 (100) hx hb hts hown hE oc9 hM (hG.1 0 (by decide)) rfl (by decide) rfl (hG.2 (0, 0, 100) (by decide)) (by decide) tb_398 dX9_eyes_26 ?_
      refine m_getr (100) 11 (102) hx hb hts hown hE oc8 hM (hG.1 100 (by decide)) rfl (by decide) rfl (hG.2 (100, 11, 102) (by decide)) (by decide) tb_69 dX9_eyes_29 ?_
      refine lv_iload_n hx hb dX9_eyes_32 rfl (lv_at hl 1 rfl) ?_
      refine lv_iload_n hx hb dX9_eyes_33 rfl (lv_at hl 2 rfl) ?_
      refine m_calli (m_runS (As := [.int (a0), .int (a1)]) (rest := [.ref (ad (102))]) hx hb hml hown hts hE hM hS hA ce_X9_cellOf tb_494 (V_X9_cellOf l D A ad ns I L G (a0) (a1) hI (by first | omega | decide) (by first | omega | decide)) rfl rfl ⟨Nat.le_of_ble_eq_true rfl, Nat.le_of_ble_eq_true rfl⟩  rfl hl.1 rfl (Nat.le_of_ble_eq_true rfl) dX9_eyes_34 ⟨Nat.le_of_ble_eq_true rfl, Nat.le_of_ble_eq_true rfl⟩) hS (fun r7 u H locs hw hM hS => ?_)
      obtain ⟨rfl, xr7⟩ := hw
      have hM : Mem D A ad ns I L G H := hM
      refine m_iald (102) hx hb hE hM (hG.1 102 (by decide)) rfl (vp_in_iff.mpr (by omega)) dX9_eyes_37 ?_
      refine lv_istore (lv' := [(4, .int (I (102) (r7).toNatClampNeg)), (0, .ref (ad (0))), (1, .int (a0)), (2, .int (a1)), (3, .int (a2))]) hx hb dX9_eyes_38 hl (by decide) rfl (fun ls hl => ?_)
      refine lv_aload_n hx hb dX9_eyes_40 rfl (lv_at hl 1 rfl) ?_
      refine m_getr (0) 0 (100) hx hb hts hown hE oc9 hM (hG.1 0 (by decide)) rfl (by decide) rfl (hG.2 (0, 0, 100) (by decide)) (by decide) tb_398 dX9_eyes_41 ?_
      refine m_getr (100) 11 (102) hx hb hts hown hE oc8 hM (hG.1 100 (by decide)) rfl (by decide) rfl (hG.2 (100, 11, 102) (by decide)) (by decide) tb_69 dX9_eyes_44 ?_
      refine lv_iload_n hx hb dX9_eyes_47 rfl (lv_at hl 2 rfl) ?_
      refine lv_iload_n hx hb dX9_eyes_48 rfl (lv_at hl 3 rfl) ?_
      refine m_calli (m_runS (As := [.int (a0), .int (a1)]) (rest := [.ref (ad (102))]) hx hb hml hown hts hE hM hS hA ce_X9_cellOf tb_494 (V_X9_cellOf l D A ad ns I L G (a0) (a1) hI (by first | omega | decide) (by first | omega | decide)) rfl rfl ⟨Nat.le_of_ble_eq_true rfl, Nat.le_of_ble_eq_true rfl⟩  rfl hl.1 rfl (Nat.le_of_ble_eq_true rfl) dX9_eyes_49 ⟨Nat.le_of_ble_eq_true rfl, Nat.le_of_ble_eq_true rfl⟩) hS (fun r8 u H locs hw hM hS => ?_)
      obtain ⟨rfl, xr8⟩ := hw
      have hM : Mem D A ad ns I L G H := hM
      refine lv_iload_n hx hb dX9_eyes_52 rfl (lv_at hl 4 rfl) ?_
      refine m_iast (102) hx hb hE hM hS (hG.1 102 (by decide)) rfl (vp_in_iff.mpr (by omega)) dX9_eyes_53 (fun H locs I9 eI9 hM hS => ?_)
      subst eI9
      have hI := hI.putF (n := 102) (k := ((r8).toNatClampNeg)) (v := a2) rfl
      have hK := hK.put (n := 102) (k := ((r8).toNatClampNeg)) (v := a2) (by first | rfl | simp [inR])
      refine lv_iload hx hb dX9_eyes_54 (lv_at hl 0 rfl) ?_
      have ec10 : (r7).toNatClampNeg = 24 * (a1).toNatClampNeg + (a0).toNatClampNeg := by have z1 := tn (i := r7) (by omega); have z2 := tn (i := a0) (by omega); have z3 := tn (i := a1) (by omega); omega
      have ec11 : (r8).toNatClampNeg = 24 * (a1).toNatClampNeg + (a0).toNatClampNeg := by have z1 := tn (i := r8) (by omega); have z2 := tn (i := a0) (by omega); have z3 := tn (i := a1) (by omega); omega
      exact m_iret hx hb hr hlocks hM hS (Nat.le_of_ble_eq_true rfl) (Nat.le_of_ble_eq_true rfl) ⟨_, _, rfl, hI, hK, (Or.inl ⟨by omega, congrArg (I 102) ec10, congrArg (fun zz => u2 I 102 zz a2) ec11⟩)⟩ dX9_eyes_56
    · have hc6 := c6
      have q6 := xr5.f hc6
      refine lv_bipush (v := (-2)) hx hb dX9_eyes_22 (by decide) ?_
      exact m_iret hx hb hr hlocks hM hS (Nat.le_of_ble_eq_true rfl) (Nat.le_of_ble_eq_true rfl) ⟨_, _, rfl, hI, hK, (Or.inr ⟨by omega, rfl, rfl⟩)⟩ dX9_eyes_24
set_option maxHeartbeats 4000000 in
set_option maxRecDepth 20000 in
theorem V_X10_eyes_g (l : Launch) (D : va_G) (A : Nat → Prop) (ad : Nat → Nat) (ns : List Nat) (I : MI) (L : ML) (G : MG) (a0 : Int32) (a1 : Int32) (a2 : Int32) (hJ : SGM ns G) (hI : INV I) : Met l yX10_eyes (wd yX10_eyes cX10_eyes 5 (some .int)) ({ frames := 2, cells := 0, slots := 0, locals := 47 }) (va_Pc [.ref (ad (1000)), .int a0, .int a1, .int a2] (PM D A ad ns I L G)) (va_Qi (fun r u => ∃ I2 L2, u = (ad, ns, I2, L2, G) ∧ INV I2 ∧ Kp [(1003, 1004)] [] I I2 ∧ (SETA (((I 1001 0).toInt = 1 ∧ 0 ≤ a0.toInt ∧ a0.toInt < (I 1001 1).toInt ∧ 0 ≤ a1.toInt ∧ a1.toInt < (I 1001 2).toInt) ∧ -1 ≤ a2.toInt ∧ a2.toInt ≤ 99999) r I I2 1003 (24 * (a1).toNatClampNeg + (a0).toNatClampNeg) a2)) (BM D A) A) 0 0 A := by
  refine m_ofW (by decide) (Nat.le_of_ble_eq_true rfl) ?_
  intro p e s m below meth c ls args hC hE hM hA hS hl
  obtain ⟨hx, hb, hml, hown, hts, hr, hlocks, hin⟩ := hC
  have km2 : (-2 : Int32).toInt = -2 := by decide
  have k0 : (0 : Int32).toInt = 0 := by decide
  have k24 : (24 : Int32).toInt = 24 := by decide
  have klm1 : (-1 : Int64).toInt = -1 := by decide
  have kl99999 : (99999 : Int64).toInt = 99999 := by decide
  have hK : Kp [(1003, 1004)] [] I I := Kp.rf
  have hl : lv_has ls 5 [(0, .ref (ad (1000))), (1, .int (a0)), (2, .int (a1)), (3, .int (a2))] := hl
  refine lv_aload_n hx hb dX10_eyes_0 rfl (lv_at hl 0 rfl) ?_
  refine lv_iload_n hx hb dX10_eyes_1 rfl (lv_at hl 1 rfl) ?_
  refine lv_iload_n hx hb dX10_eyes_2 rfl (lv_at hl 2 rfl) ?_
  refine m_calli (m_runV (1000) (As := [.int (a0), .int (a1)]) (rest := []) hx hb hml hown hts hE hM hS hA ce_X10_isCell tb_1437 (V_X10_isCell l D A ad ns I L G (a0) (a1) hJ hI) rfl rfl ⟨Nat.le_of_ble_eq_true rfl, Nat.le_of_ble_eq_true rfl⟩ hJ.1 rfl rfl (by decide) rfl hl.1 rfl (Nat.le_of_ble_eq_true rfl) dX10_eyes_3 ⟨Nat.le_of_ble_eq_true rfl, Nat.le_of_ble_eq_true rfl⟩) hS (fun r1 u H locs hw hM hS => ?_)
  obtain ⟨rfl, xr1⟩ := hw
  have hM : Mem D A ad ns I L G H := hM
  have yr1 := bo01 xr1
  have g2 := hI.get 1001 1 (lo := 0) (hi := 24) rfl
  have g3 := hI.get 1001 2 (lo := 0) (hi := 24) rfl
  refine lv_if_eq (tgt := 23) hx hb dX10_eyes_6 (by decide) (fun c4 => ?_) (fun c4 => ?_)
  · have hc4 := c4
    have q4 := xr1.f hc4
    refine lv_bipush (v := (-2)) hx hb dX10_eyes_23 (by decide) ?_
    exact m_iret hx hb hr hlocks hM hS (Nat.le_of_ble_eq_true rfl) (Nat.le_of_ble_eq_true rfl) ⟨_, _, rfl, hI, hK, (Or.inr ⟨by omega, rfl, rfl⟩)⟩ dX10_eyes_25
  · have hc4 := c4
    have q4 := xr1.t hc4
    refine lv_iload_n hx hb dX10_eyes_9 rfl (lv_at hl 3 rfl) ?_
    refine lv_i2l hx hb dX10_eyes_10 rfl ?_
    refine lv_topl (fun v5 ev5 => ?_)
    have tv5 := q_i2l ev5
    refine lv_ldc2 (v := (-1)) hx hb hown (hts _ tb_1467) dX10_eyes_11 ?_
    refine lv_ldc2 (v := (99999)) hx hb hown (hts _ tb_1452) dX10_eyes_14 ?_
    refine m_calli (m_runS (As := [.long (v5), .long ((-1 : Int64)), .long ((99999 : Int64))]) (rest := []) hx hb hml hown hts hE hM hS hA ce_X10_in tb_1425 (V_X10_in l D A ad ns I L G (v5) ((-1 : Int64)) ((99999 : Int64)) hI) rfl rfl ⟨Nat.le_of_ble_eq_true rfl, Nat.le_of_ble_eq_true rfl⟩  rfl hl.1 rfl (Nat.le_of_ble_eq_true rfl) dX10_eyes_17 ⟨Nat.le_of_ble_eq_true rfl, Nat.le_of_ble_eq_true rfl⟩) hS (fun r6 u H locs hw hM hS => ?_)
    obtain ⟨rfl, xr6⟩ := hw
    have hM : Mem D A ad ns I L G H := hM
    have yr6 := bo01 xr6
    refine lv_if_ne (tgt := 26) hx hb dX10_eyes_20 (by decide) (fun c7 => ?_) (fun c7 => ?_)
    · have hc7 := c7
      have q7 := xr6.t hc7
      refine lv_aload_n hx hb dX10_eyes_26 rfl (lv_at hl 0 rfl) ?_
      refine m_getr (1000) 3 (1003) hx hb hts hown hE oc10 hM hJ.1 rfl (by decide) rfl (hJ.2 3 (by decide)).2 (by decide) tb_1180 dX10_eyes_27 ?_
      refine lv_bipush (v := (24)) hx hb dX10_eyes_30 (by decide) ?_
      refine lv_iload_n hx hb dX10_eyes_32 rfl (lv_at hl 2 rfl) ?_
      refine lv_imul hx hb dX10_eyes_33 ?_
      refine lv_topi (fun v8 ev8 => ?_)
      have tv8 := a_mulL (c := 24) ev8 (by decide) (by omega) (by omega)
      refine lv_iload_n hx hb dX10_eyes_34 rfl (lv_at hl 1 rfl) ?_
      refine lv_iadd hx hb dX10_eyes_35 ?_
      refine lv_topi (fun v9 ev9 => ?_)
      have tv9 := a_add ev9 (by omega) (by omega)
      refine m_iald (1003) hx hb hE hM (hJ.2 3 (by decide)).1 rfl (vp_in_iff.mpr (by omega)) dX10_eyes_36 ?_
      refine lv_istore (lv' := [(4, .int (I (1003) (v9).toNatClampNeg)), (0, .ref (ad (1000))), (1, .int (a0)), (2, .int (a1)), (3, .int (a2))]) hx hb dX10_eyes_37 hl (by decide) rfl (fun ls hl => ?_)
      refine lv_aload_n hx hb dX10_eyes_39 rfl (lv_at hl 1 rfl) ?_
      refine m_getr (1000) 3 (1003) hx hb hts hown hE oc10 hM hJ.1 rfl (by decide) rfl (hJ.2 3 (by decide)).2 (by decide) tb_1180 dX10_eyes_40 ?_
      refine lv_bipush (v := (24)) hx hb dX10_eyes_43 (by decide) ?_
      refine lv_iload_n hx hb dX10_eyes_45 rfl (lv_at hl 3 rfl) ?_
      refine lv_imul hx hb dX10_eyes_46 ?_
      refine lv_topi (fun v10 ev10 => ?_)
      have tv10 := a_mulL (c := 24) ev10 (by decide) (by omega) (by omega)
      refine lv_iload_n hx hb dX10_eyes_47 rfl (lv_at hl 2 rfl) ?_
      refine lv_iadd hx hb dX10_eyes_48 ?_
      refine lv_topi (fun v11 ev11 => ?_)
      have tv11 := a_add ev11 (by omega) (by omega)
      refine lv_iload_n hx hb dX10_eyes_49 rfl (lv_at hl 4 rfl) ?_
      refine m_iast (1003) hx hb hE hM hS (hJ.2 3 (by decide)).1 rfl (vp_in_iff.mpr (by omega)) dX10_eyes_50 (fun H locs I12 eI12 hM hS => ?_)
      subst eI12
      have hI := hI.putF (n := 1003) (k := ((v11).toNatClampNeg)) (v := a2) rfl
      have hK := hK.put (n := 1003) (k := ((v11).toNatClampNeg)) (v := a2) (by first | rfl | simp [inR])
      refine lv_iload hx hb dX10_eyes_51 (lv_at hl 0 rfl) ?_
      have ec13 : (v9).toNatClampNeg = 24 * (a1).toNatClampNeg + (a0).toNatClampNeg := by have z1 := tn (i := v9) (by omega); have z2 := tn (i := a0) (by omega); have z3 := tn (i := a1) (by omega); omega
      have ec14 : (v11).toNatClampNeg = 24 * (a1).toNatClampNeg + (a0).toNatClampNeg := by have z1 := tn (i := v11) (by omega); have z2 := tn (i := a0) (by omega); have z3 := tn (i := a1) (by omega); omega
      exact m_iret hx hb hr hlocks hM hS (Nat.le_of_ble_eq_true rfl) (Nat.le_of_ble_eq_true rfl) ⟨_, _, rfl, hI, hK, (Or.inl ⟨by omega, congrArg (I 1003) ec13, congrArg (fun zz => u2 I 1003 zz a2) ec14⟩)⟩ dX10_eyes_53
    · have hc7 := c7
      have q7 := xr6.f hc7
      refine lv_bipush (v := (-2)) hx hb dX10_eyes_23 (by decide) ?_
      exact m_iret hx hb hr hlocks hM hS (Nat.le_of_ble_eq_true rfl) (Nat.le_of_ble_eq_true rfl) ⟨_, _, rfl, hI, hK, (Or.inr ⟨by omega, rfl, rfl⟩)⟩ dX10_eyes_25
