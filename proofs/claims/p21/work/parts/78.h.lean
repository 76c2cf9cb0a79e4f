set_option maxHeartbeats 4000000 in
set_option maxRecDepth 20000 in
theorem V_X10_entry_h (l : Launch) (D : va_G) (A : Nat → Prop) (ad : Nat → Nat) (ns : List Nat) (I : MI) (L : ML) (G : MG) (a0 : Int32) (a1 : Int32) (hJ : SGM ns G) (hI : INV I) (he : Imp ((I 1000 26).toInt = 0) ((I 1000 29).toInt ≤ 299)) : Met l yX10_entry (wd yX10_entry cX10_entry 3 none) ({ frames := 0, cells := 0, slots := 0, locals := 0 }) (va_Pc [.ref (ad (1000)), .int a0, .int a1] (PM D A ad ns I L G)) (va_Qv (fun u => ∃ I2 L2, u = (ad, ns, I2, L2, G) ∧ INV I2 ∧ Kp [(1035, 1037)] [(1000, 29)] I I2 ∧ (True ∧ (I 1000 29).toInt ≤ (I2 1000 29).toInt ∧ (I2 1000 29).toInt ≤ (I 1000 29).toInt + 1 ∧ Imp ((I 1000 26).toInt = 0) ((I2 1000 29).toInt = (I 1000 29).toInt + 1) ∧ Imp ((I 1000 26).toInt ≠ 0) ((I2 1000 29).toInt = (I 1000 29).toInt) ∧ ENT I I2 a0 a1)) (BM D A) A) 0 0 A := by
  refine m_ofW (by decide) (Nat.le_of_ble_eq_true rfl) ?_
  intro p e s m below meth c ls args hC hE hM hA hS hl
  obtain ⟨hx, hb, hml, hown, hts, hr, hlocks, hin⟩ := hC
  have k0 : (0 : Int32).toInt = 0 := by decide
  have k1 : (1 : Int32).toInt = 1 := by decide
  have k300 : (300 : Int32).toInt = 300 := by decide
  have hK : Kp [(1035, 1037)] [(1000, 29)] I I := Kp.rf
  have hl : lv_has ls 3 [(0, .ref (ad (1000))), (1, .int (a0)), (2, .int (a1))] := hl
  refine lv_aload_n hx hb dX10_entry_0 rfl (lv_at hl 0 rfl) ?_
  refine m_geti (1000) 26 hx hb hts hown hE oc10 hM hJ.1 rfl (by decide) rfl tb_1203 dX10_entry_1 ?_
  refine lv_if_ne (tgt := 55) hx hb dX10_entry_4 (by decide) (fun c1 => ?_) (fun c1 => ?_)
  · have hc1 := c1
    have q1 := q_ne hc1
    exact m_vret hx hb hr hlocks hM hS (Nat.le_of_ble_eq_true rfl) (Nat.le_of_ble_eq_true rfl) ⟨_, _, rfl, hI, hK, ⟨trivial, by omega, by omega, fun hz => by omega, fun hz => by omega, fun j => ⟨by rw [if_neg (by omega)], by rw [if_neg (by omega)]⟩⟩⟩ dX10_entry_55
  · have hc1 := c1
    have q1 := q_eq hc1
    have w2 := he (by omega)
    refine lv_aload_n hx hb dX10_entry_7 rfl (lv_at hl 0 rfl) ?_
    refine m_getr (1000) 35 (1035) hx hb hts hown hE oc10 hM hJ.1 rfl (by decide) rfl (hJ.2 35 (by decide)).2 (by decide) tb_1212 dX10_entry_8 ?_
    refine lv_sipush (v := (300)) hx hb dX10_entry_11 (by decide) ?_
    refine lv_aload_n hx hb dX10_entry_14 rfl (lv_at hl 0 rfl) ?_
    refine m_geti (1000) 27 hx hb hts hown hE oc10 hM hJ.1 rfl (by decide) rfl tb_1204 dX10_entry_15 ?_
    have g3 := hI.get (1000) 27 (lo := 0) (hi := 5) rfl
    refine lv_imul hx hb dX10_entry_18 ?_
    refine lv_topi (fun v4 ev4 => ?_)
    have tv4 := a_mulL (c := 300) ev4 (by decide) (by omega) (by omega)
    refine lv_aload_n hx hb dX10_entry_19 rfl (lv_at hl 0 rfl) ?_
    refine m_geti (1000) 29 hx hb hts hown hE oc10 hM hJ.1 rfl (by decide) rfl tb_1206 dX10_entry_20 ?_
    have g5 := hI.get (1000) 29 (lo := 0) (hi := 300) rfl
    refine lv_iadd hx hb dX10_entry_23 ?_
    refine lv_topi (fun v6 ev6 => ?_)
    have tv6 := a_add ev6 (by omega) (by omega)
    refine lv_iload_n hx hb dX10_entry_24 rfl (lv_at hl 1 rfl) ?_
    refine m_iast (1035) hx hb hE hM hS (hJ.2 35 (by decide)).1 rfl (vp_in_iff.mpr (by omega)) dX10_entry_25 (fun H locs I7 eI7 hM hS => ?_)
    subst eI7
    have hI := hI.putF (n := 1035) (k := ((v6).toNatClampNeg)) (v := a0) rfl
    have hK := hK.put (n := 1035) (k := ((v6).toNatClampNeg)) (v := a0) (by first | rfl | simp [inR])
    refine lv_aload_n hx hb dX10_entry_26 rfl (lv_at hl 0 rfl) ?_
    refine m_getr (1000) 36 (1036) hx hb hts hown hE oc10 hM hJ.1 rfl (by decide) rfl (hJ.2 36 (by decide)).2 (by decide) tb_1213 dX10_entry_27 ?_
    refine lv_sipush (v := (300)) hx hb dX10_entry_30 (by decide) ?_
    refine lv_aload_n hx hb dX10_entry_33 rfl (lv_at hl 0 rfl) ?_
    refine m_geti (1000) 27 hx hb hts hown hE oc10 hM hJ.1 rfl (by decide) rfl tb_1204 dX10_entry_34 ?_
    have z8 : (u2 I (1035) ((v6).toNatClampNeg) (a0)) (1000) 27 = I (1000) 27 := (show (u2 I (1035) ((v6).toNatClampNeg) (a0)) (1000) 27 = I (1000) 27 from by simp [u2_v])
    rw [z8]
    refine lv_imul hx hb dX10_entry_37 ?_
    refine lv_topi (fun v9 ev9 => ?_)
    have tv9 := a_mulL (c := 300) ev9 (by decide) (by omega) (by omega)
    refine lv_aload_n hx hb dX10_entry_38 rfl (lv_at hl 0 rfl) ?_
    refine m_geti (1000) 29 hx hb hts hown hE oc10 hM hJ.1 rfl (by decide) rfl tb_1206 dX10_entry_39 ?_
    have z10 : (u2 I (1035) ((v6).toNatClampNeg) (a0)) (1000) 29 = I (1000) 29 := (show (u2 I (1035) ((v6).toNatClampNeg) (a0)) (1000) 29 = I (1000) 29 from by simp [u2_v])
    rw [z10]
    refine lv_iadd hx hb dX10_entry_42 ?_
    refine lv_topi (fun v11 ev11 => ?_)
    have tv11 := a_add ev11 (by omega) (by omega)
    refine lv_iload_n hx hb dX10_entry_43 rfl (lv_at hl 2 rfl) ?_
    refine m_iast (1036) hx hb hE hM hS (hJ.2 36 (by decide)).1 rfl (vp_in_iff.mpr (by omega)) dX10_entry_44 (fun H locs I12 eI12 hM hS => ?_)
    subst eI12
    have hI := hI.putF (n := 1036) (k := ((v11).toNatClampNeg)) (v := a1) rfl
    have hK := hK.put (n := 1036) (k := ((v11).toNatClampNeg)) (v := a1) (by first | rfl | simp [inR])
    refine lv_aload_n hx hb dX10_entry_45 rfl (lv_at hl 0 rfl) ?_
    refine lv_dup hx hb dX10_entry_46 rfl ?_
    refine m_geti (1000) 29 hx hb hts hown hE oc10 hM hJ.1 rfl (by decide) rfl tb_1206 dX10_entry_47 ?_
    have z13 : (u2 (u2 I (1035) ((v6).toNatClampNeg) (a0)) (1036) ((v11).toNatClampNeg) (a1)) (1000) 29 = I (1000) 29 := (show (u2 (u2 I (1035) ((v6).toNatClampNeg) (a0)) (1036) ((v11).toNatClampNeg) (a1)) (1000) 29 = I (1000) 29 from by simp [u2_v])
    rw [z13]
    refine lv_iconst (v := (1)) hx hb dX10_entry_50 (by decide) ?_
    refine lv_iadd hx hb dX10_entry_51 ?_
    refine lv_topi (fun v14 ev14 => ?_)
    have tv14 := a_add ev14 (by omega) (by omega)
    refine m_puti (1000) 29 hx hb hts hown hE oc10 hM hS hJ.1 rfl (by decide) rfl rfl rfl rfl tb_1206 dX10_entry_52 (fun H locs I15 eI15 hM hS => ?_)
    subst eI15
    have hI := hI.put (n := 1000) (k := 29) (v := v14) (lo := 0) (hi := 300) rfl (by first | omega | decide)
    have hK := hK.put (n := 1000) (k := 29) (v := v14) (by first | rfl | simp [inR])
    have pw16 : ((u2 (u2 (u2 I (1035) ((v6).toNatClampNeg) (a0)) (1036) ((v11).toNatClampNeg) (a1)) (1000) 29 (v14)) (1000) 24).toInt = (I (1000) 24 : Int32).toInt := congrArg Int32.toInt ((show (u2 (u2 (u2 I (1035) ((v6).toNatClampNeg) (a0)) (1036) ((v11).toNatClampNeg) (a1)) (1000) 29 (v14)) (1000) 24 = I (1000) 24 from by simp [u2_v]))
    have pw17 : ((u2 (u2 (u2 I (1035) ((v6).toNatClampNeg) (a0)) (1036) ((v11).toNatClampNeg) (a1)) (1000) 29 (v14)) (1000) 25).toInt = (I (1000) 25 : Int32).toInt := congrArg Int32.toInt ((show (u2 (u2 (u2 I (1035) ((v6).toNatClampNeg) (a0)) (1036) ((v11).toNatClampNeg) (a1)) (1000) 29 (v14)) (1000) 25 = I (1000) 25 from by simp [u2_v]))
    have pw18 : ((u2 (u2 (u2 I (1035) ((v6).toNatClampNeg) (a0)) (1036) ((v11).toNatClampNeg) (a1)) (1000) 29 (v14)) (1000) 26).toInt = (I (1000) 26 : Int32).toInt := congrArg Int32.toInt ((show (u2 (u2 (u2 I (1035) ((v6).toNatClampNeg) (a0)) (1036) ((v11).toNatClampNeg) (a1)) (1000) 29 (v14)) (1000) 26 = I (1000) 26 from by simp [u2_v]))
    have pw19 : ((u2 (u2 (u2 I (1035) ((v6).toNatClampNeg) (a0)) (1036) ((v11).toNatClampNeg) (a1)) (1000) 29 (v14)) (1000) 27).toInt = (I (1000) 27 : Int32).toInt := congrArg Int32.toInt ((show (u2 (u2 (u2 I (1035) ((v6).toNatClampNeg) (a0)) (1036) ((v11).toNatClampNeg) (a1)) (1000) 29 (v14)) (1000) 27 = I (1000) 27 from by simp [u2_v]))
    have pw20 : ((u2 (u2 (u2 I (1035) ((v6).toNatClampNeg) (a0)) (1036) ((v11).toNatClampNeg) (a1)) (1000) 29 (v14)) (1000) 29).toInt = (v14 : Int32).toInt := congrArg Int32.toInt ((show (u2 (u2 (u2 I (1035) ((v6).toNatClampNeg) (a0)) (1036) ((v11).toNatClampNeg) (a1)) (1000) 29 (v14)) (1000) 29 = v14 from by simp [u2_v]))
    have pw21 : ((u2 (u2 (u2 I (1035) ((v6).toNatClampNeg) (a0)) (1036) ((v11).toNatClampNeg) (a1)) (1000) 29 (v14)) (1000) 30).toInt = (I (1000) 30 : Int32).toInt := congrArg Int32.toInt ((show (u2 (u2 (u2 I (1035) ((v6).toNatClampNeg) (a0)) (1036) ((v11).toNatClampNeg) (a1)) (1000) 29 (v14)) (1000) 30 = I (1000) 30 from by simp [u2_v]))
    have pw22 : ((u2 (u2 (u2 I (1035) ((v6).toNatClampNeg) (a0)) (1036) ((v11).toNatClampNeg) (a1)) (1000) 29 (v14)) (1000) 31).toInt = (I (1000) 31 : Int32).toInt := congrArg Int32.toInt ((show (u2 (u2 (u2 I (1035) ((v6).toNatClampNeg) (a0)) (1036) ((v11).toNatClampNeg) (a1)) (1000) 29 (v14)) (1000) 31 = I (1000) 31 from by simp [u2_v]))
    have pw23 : ((u2 (u2 (u2 I (1035) ((v6).toNatClampNeg) (a0)) (1036) ((v11).toNatClampNeg) (a1)) (1000) 29 (v14)) (1000) 32).toInt = (I (1000) 32 : Int32).toInt := congrArg Int32.toInt ((show (u2 (u2 (u2 I (1035) ((v6).toNatClampNeg) (a0)) (1036) ((v11).toNatClampNeg) (a1)) (1000) 29 (v14)) (1000) 32 = I (1000) 32 from by simp [u2_v]))
    exact m_vret hx hb hr hlocks hM hS (Nat.le_of_ble_eq_true rfl) (Nat.le_of_ble_eq_true rfl) ⟨_, _, rfl, hI, hK, ⟨trivial, by omega, by omega, fun hz => by omega, fun hz => by omega, fun j => ENT_put (by omega) (by omega) (by omega) j⟩⟩ dX10_entry_55
set_option maxHeartbeats 4000000 in
set_option maxRecDepth 20000 in
theorem V_X10_value_h (l : Launch) (D : va_G) (A : Nat → Prop) (ad : Nat → Nat) (ns : List Nat) (I : MI) (L : ML) (G : MG) (hJ : SGM ns G) (hI : INV I) (hp : (I 1000 25).toInt ≤ 400) (hPI : Imp ((I 1000 26).toInt = 0) (0 ≤ (I 1000 31).toInt ∧ (I 1000 31).toInt ≤ 60 ∧ 3 * (I 1000 29).toInt ≤ 6 * (I 1000 31).toInt + (I 1000 25).toInt)) (hbt : BTM I) : Met l yX10_value (wd yX10_value cX10_value 3 none) ({ frames := 5, cells := 0, slots := 0, locals := 109 }) (va_Pc [.ref (ad (1000))] (PM D A ad ns I L G)) (va_Qv (fun u => ∃ I2 L2, u = (ad, ns, I2, L2, G) ∧ INV I2 ∧ Kp [(1035, 1037)] [(1000, 25), (1000, 26), (1000, 29), (1000, 31)] I I2 ∧ ((EXP (TM I) I I2 7 ∧ KF I I2) ∧ (I 1000 25).toInt ≤ (I2 1000 25).toInt ∧ (I2 1000 25).toInt ≤ 400 ∧ (I 1000 29).toInt ≤ (I2 1000 29).toInt ∧ Imp ((I2 1000 26).toInt = 0) ((I 1000 26).toInt = 0 ∧ (I2 1000 31).toInt = (I 1000 31).toInt + 1 ∧ (I2 1000 31).toInt ≤ 60 ∧ (I2 1000 29).toInt = (I 1000 29).toInt + 1) ∧ CT I I2 0 1)) (BM D A) A) 0 0 A := by
  refine m_ofW (by decide) (Nat.le_of_ble_eq_true rfl) ?_
  intro p e s m below meth c ls args hC hE hM hA hS hl
  obtain ⟨hx, hb, hml, hown, hts, hr, hlocks, hin⟩ := hC
  have k0 : (0 : Int32).toInt = 0 := by decide
  have k1 : (1 : Int32).toInt = 1 := by decide
  have k99999 : (99999 : Int32).toInt = 99999 := by decide
  have hC := CT.rf I 0
  have hI0 := hI
  have hT := TM_ok hI
  have gRL := hI.get 1000 29 (lo := 0) (hi := 300) rfl
  have hRL := RC_len (J := I) gRL.1
  have gPP := hI.get 1000 25 (lo := 0) (hi := 100000) rfl
  have hK : Kp [(1035, 1037)] [(1000, 25), (1000, 26), (1000, 29), (1000, 31)] I I := Kp.rf
  have hl : lv_has ls 3 [(0, .ref (ad (1000)))] := hl
  refine lv_aload_n hx hb dX10_value_0 rfl (lv_at hl 0 rfl) ?_
  refine m_callv (m_runV (1000) (As := []) (rest := []) hx hb hml hown hts hE hM hS hA ce_X10_blanks tb_1506 (V_X10_blanks_h l D A ad ns I L G hJ hI (by omega)) rfl rfl ⟨Nat.le_of_ble_eq_true rfl, Nat.le_of_ble_eq_true rfl⟩ hJ.1 rfl rfl (by decide) rfl hl.1 rfl (Nat.le_of_ble_eq_true rfl) dX10_value_1 ⟨Nat.le_of_ble_eq_true rfl, Nat.le_of_ble_eq_true rfl⟩) hS (fun u H locs hw hM hS => ?_)
  obtain ⟨I1, L2, rfl, hI, hkI1, xI1⟩ := hw
  have hM : Mem D A ad ns I1 L2 G H := hM
  have hK := hK.trans hkI1 rfl
  have pw3 : (I1 (1000) 24).toInt = (I (1000) 24 : Int32).toInt := congrArg Int32.toInt ((hkI1.get (1000) 24 rfl))
  have pw4 : (I1 (1000) 26).toInt = (I (1000) 26 : Int32).toInt := congrArg Int32.toInt ((hkI1.get (1000) 26 rfl))
  have pw5 : (I1 (1000) 27).toInt = (I (1000) 27 : Int32).toInt := congrArg Int32.toInt ((hkI1.get (1000) 27 rfl))
  have pw6 : (I1 (1000) 29).toInt = (I (1000) 29 : Int32).toInt := congrArg Int32.toInt ((hkI1.get (1000) 29 rfl))
  have pw7 : (I1 (1000) 30).toInt = (I (1000) 30 : Int32).toInt := congrArg Int32.toInt ((hkI1.get (1000) 30 rfl))
  have pw8 : (I1 (1000) 31).toInt = (I (1000) 31 : Int32).toInt := congrArg Int32.toInt ((hkI1.get (1000) 31 rfl))
  have pw9 : (I1 (1000) 32).toInt = (I (1000) 32 : Int32).toInt := congrArg Int32.toInt ((hkI1.get (1000) 32 rfl))
  have nw10 := xI1.1
  refine lv_aload_n hx hb dX10_value_4 rfl (lv_at hl 0 rfl) ?_
  refine m_geti (1000) 25 hx hb hts hown hE oc10 hM hJ.1 rfl (by decide) rfl tb_1202 dX10_value_5 ?_
  have g11 := hI.get (1000) 25 (lo := 0) (hi := 100000) rfl
  refine lv_istore_n (lv' := [(1, .int (I1 (1000) 25)), (0, .ref (ad (1000)))]) hx hb dX10_value_8 rfl hl (by decide) rfl (fun ls hl => ?_)
  refine lv_aload_n hx hb dX10_value_9 rfl (lv_at hl 1 rfl) ?_
  refine m_calli (m_runV (1000) (As := []) (rest := []) hx hb hml hown hts hE hM hS hA ce_X10_isDigit tb_1529 (V_X10_isDigit_h l D A ad ns I1 L2 G hJ hI) rfl rfl ⟨Nat.le_of_ble_eq_true rfl, Nat.le_of_ble_eq_true rfl⟩ hJ.1 rfl rfl (by decide) rfl hl.1 rfl (Nat.le_of_ble_eq_true rfl) dX10_value_10 ⟨Nat.le_of_ble_eq_true rfl, Nat.le_of_ble_eq_true rfl⟩) hS (fun r12 u H locs hw hM hS => ?_)
  obtain ⟨rfl, xr12⟩ := hw
  have hM : Mem D A ad ns I1 L2 G H := hM
  have g13 := hI.get 1000 24 (lo := 0) (hi := 400) rfl
  have g14 := hI.get 1000 25 (lo := 0) (hi := 100000) rfl
  have sx15 := xr12.1
  rw [show TM I1 = TM I from (TM_of (hK.getA 1034 rfl) (hK.get 1000 24 rfl))] at sx15
  refine lv_if_eq (tgt := 36) hx hb dX10_value_13 (by decide) (fun c16 => ?_) (fun c16 => ?_)
  · have hc16 := c16
    have q16 := q_eq hc16
    have sc17 := sx15.n (by omega)
    refine lv_iconst (v := (0)) hx hb dX10_value_36 (by decide) ?_
    refine lv_istore_n (lv' := [(2, .int (0)), (1, .int (I1 (1000) 25)), (0, .ref (ad (1000)))]) hx hb dX10_value_37 rfl hl (by decide) rfl (fun ls hl => ?_)
    have loop38 : ∀ (n : Nat) (x2_38 : Int32) (H : Heap) (locs : List Loc) (ls : Array Slot), (0 ≤ x2_38.toInt ∧ x2_38.toInt ≤ 13) → (∀ k : Nat, k < (x2_38).toNatClampNeg → wq (TM I) (I1 1000 25).toNatClampNeg (rwd k) = false) → (13 - x2_38.toInt).toNat < n → Mem D A ad ns I1 L2 G H → va_S A s.heap H locs → lv_has ls 3 [(2, .int (x2_38)), (1, .int (I1 (1000) 25)), (0, .ref (ad (1000)))] → W p l e ({ frames := 5, cells := 0, slots := 0, locals := 109 } : Room) s m args below meth c H locs 0 0 (MQ below (va_Qv (fun u => ∃ I2 L2, u = (ad, ns, I2, L2, G) ∧ INV I2 ∧ Kp [(1035, 1037)] [(1000, 25), (1000, 26), (1000, 29), (1000, 31)] I I2 ∧ ((EXP (TM I) I I2 7 ∧ KF I I2) ∧ (I 1000 25).toInt ≤ (I2 1000 25).toInt ∧ (I2 1000 25).toInt ≤ 400 ∧ (I 1000 29).toInt ≤ (I2 1000 29).toInt ∧ Imp ((I2 1000 26).toInt = 0) ((I 1000 26).toInt = 0 ∧ (I2 1000 31).toInt = (I 1000 31).toInt + 1 ∧ (I2 1000 31).toInt ≤ 60 ∧ (I2 1000 29).toInt = (I 1000 29).toInt + 1) ∧ CT I I2 0 1)) (BM D A) A) args s 0 0 A) (F0 m 38 ls []) := by
      intro n
      induction n with
      | zero =>
        intro x2_38 H locs ls hr2_38 hw38 hmu
        exact absurd hmu (Nat.not_lt_zero _)
      | succ n ih38 =>
        intro x2_38 H locs ls hr2_38 hw38 hmu38 hM hS hl
        refine lv_iload_n hx hb dX10_value_38 rfl (lv_at hl 0 rfl) ?_
        refine lv_aload_n hx hb dX10_value_39 rfl (lv_at hl 2 rfl) ?_
        refine m_geti (1000) 33 hx hb hts hown hE oc10 hM hJ.1 rfl (by decide) rfl tb_1210 dX10_value_40 ?_
        have g18 := hI.get (1000) 33 (lo := 13) (hi := 13) rfl
        have z19 : I1 (1000) 33 = I (1000) 33 := (hkI1.get (1000) 33 rfl)
        rw [z19] at g18 ⊢
        refine lv_icmp_ge (tgt := 63) hx hb dX10_value_43 (by decide) (fun c20 => ?_) (fun c20 => ?_)
        · have hc20 := c20
          have q20 := q_le hc20
          refine lv_iload_n hx hb dX10_value_63 rfl (lv_at hl 0 rfl) ?_
          refine lv_aload_n hx hb dX10_value_64 rfl (lv_at hl 2 rfl) ?_
          refine m_geti (1000) 33 hx hb hts hown hE oc10 hM hJ.1 rfl (by decide) rfl tb_1210 dX10_value_65 ?_
          have z21 : I1 (1000) 33 = I (1000) 33 := (hkI1.get (1000) 33 rfl)
          rw [z21]
          refine lv_icmp_ne (tgt := 78) hx hb dX10_value_68 (by decide) (fun c22 => ?_) (fun c22 => ?_)
          · exact absurd (q_ne c22) (by omega)
          · have hc22 := c22
            have q22 := q_eq hc22
            refine lv_aload_n hx hb dX10_value_71 rfl (lv_at hl 2 rfl) ?_
            refine lv_iconst (v := (0)) hx hb dX10_value_72 (by decide) ?_
            refine lv_iload_n hx hb dX10_value_73 rfl (lv_at hl 1 rfl) ?_
            refine m_callv (m_runV (1000) (As := [.int (0), .int (I1 (1000) 25)]) (rest := []) hx hb hml hown hts hE hM hS hA ce_X10_fails tb_1521 (V_X10_fails_h l D A ad ns I1 L2 G (0) (I1 (1000) 25) hJ hI (by first | omega | decide) (by first | omega | decide)) rfl rfl ⟨Nat.le_of_ble_eq_true rfl, Nat.le_of_ble_eq_true rfl⟩ hJ.1 rfl rfl (by decide) rfl hl.1 rfl (Nat.le_of_ble_eq_true rfl) dX10_value_74 ⟨Nat.le_of_ble_eq_true rfl, Nat.le_of_ble_eq_true rfl⟩) hS (fun u H locs hw hM hS => ?_)
            obtain ⟨I23, L24, rfl, hI, hkI23, xI23⟩ := hw
            have hM : Mem D A ad ns I23 L24 G H := hM
            have hK := hK.trans hkI23 rfl
            have pw25 : (I23 (1000) 24).toInt = (I (1000) 24 : Int32).toInt := (congrArg Int32.toInt ((hkI23.get (1000) 24 rfl))).trans pw3
            have pw26 : (I23 (1000) 25).toInt = (I1 (1000) 25 : Int32).toInt := congrArg Int32.toInt ((hkI23.get (1000) 25 rfl))
            have pw27 : (I23 (1000) 27).toInt = (I (1000) 27 : Int32).toInt := (congrArg Int32.toInt ((hkI23.get (1000) 27 rfl))).trans pw5
            have pw28 : (I23 (1000) 29).toInt = (I (1000) 29 : Int32).toInt := (congrArg Int32.toInt ((hkI23.get (1000) 29 rfl))).trans pw6
            have pw29 : (I23 (1000) 30).toInt = (I (1000) 30 : Int32).toInt := (congrArg Int32.toInt ((hkI23.get (1000) 30 rfl))).trans pw7
            have pw30 : (I23 (1000) 31).toInt = (I (1000) 31 : Int32).toInt := (congrArg Int32.toInt ((hkI23.get (1000) 31 rfl))).trans pw8
            have pw31 : (I23 (1000) 32).toInt = (I (1000) 32 : Int32).toInt := (congrArg Int32.toInt ((hkI23.get (1000) 32 rfl))).trans pw9
            have z1 := tn (i := I1 1000 25) (by omega)
            exact m_vret hx hb hr hlocks hM hS (Nat.le_of_ble_eq_true rfl) (Nat.le_of_ble_eq_true rfl) ⟨_, _, rfl, hI, hK, ⟨⟨val_bad hT nw10 sc17 (fun k hk => hw38 k (by have z2 := tn (i := x2_38) (by omega); omega)) (fun hz => by have w1 := xI23.2.2.1 (by omega); omega) (fun hz => (hPI hz).2.1) (by omega), fun hz => by have w1 := xI23.2.2.2 (by omega); omega⟩, by omega, by omega, by omega, (fun hz => by have w0 := xI23.2.1 (by omega); exact w0.elim), CT.bad (((hkI23.getA 1035 rfl)).trans (hkI1.getA 1035 rfl)) (((hkI23.getA 1036 rfl)).trans (hkI1.getA 1036 rfl)) (by omega) (fun hz => by have w0 := xI23.2.1 (by omega); exact w0.elim)⟩⟩ dX10_value_77
        · have hc20 := c20
          have q20 := q_nle hc20
          refine lv_aload_n hx hb dX10_value_46 rfl (lv_at hl 2 rfl) ?_
          refine lv_iload_n hx hb dX10_value_47 rfl (lv_at hl 0 rfl) ?_
          refine m_callq (m_runS (As := [.int (x2_38)]) (rest := [.ref (ad (1000))]) hx hb hml hown hts hE hM hS hA ce_X10_wordOf tb_1556 (V_X10_wordOf l D A ad ns I1 L2 G (x2_38) hI (by first | omega | decide)) rfl rfl ⟨Nat.le_of_ble_eq_true rfl, Nat.le_of_ble_eq_true rfl⟩  rfl hl.1 rfl (Nat.le_of_ble_eq_true rfl) dX10_value_48 ⟨Nat.le_of_ble_eq_true rfl, Nat.le_of_ble_eq_true rfl⟩) hS (fun r32 u H locs hw hM hS => ?_)
          obtain ⟨rfl, xr32⟩ := hw
          have hM : Mem D A ad ns I1 L2 G H := hM
          obtain ⟨q, rfl, hq, hn1, hn5⟩ := xr32
          have hn : q.2.2.2.length < 16 := by omega
          have kN : (Int32.ofNat q.2.2.2.length).toInt = q.2.2.2.length := nI_toInt (by omega)
          refine m_calli (m_runV (1000) (As := [.ref (D.2 100 (wi (x2_38).toNatClampNeg))]) (rest := []) hx hb hml hown hts hE hM hS hA ce_X10_stands tb_1515 (V_X10_stands_h l D A ad ns I1 L2 G (wi (x2_38).toNatClampNeg) _ hJ hI hq hn hn1 (hbt.of (hK.getA 1034 rfl) (hK.get 1000 24 rfl))) rfl rfl ⟨Nat.le_of_ble_eq_true rfl, Nat.le_of_ble_eq_true rfl⟩ hJ.1 rfl rfl (by decide) rfl hl.1 rfl (Nat.le_of_ble_eq_true rfl) dX10_value_51 ⟨Nat.le_of_ble_eq_true rfl, Nat.le_of_ble_eq_true rfl⟩) hS (fun r33 u H locs hw hM hS => ?_)
          obtain ⟨rfl, xr33⟩ := hw
          have hM : Mem D A ad ns I1 L2 G H := hM
          have g34 := hI.get 1000 24 (lo := 0) (hi := 400) rfl
          have g35 := hI.get 1000 25 (lo := 0) (hi := 100000) rfl
          have sx36 := xr33.1
          rw [show TM I1 = TM I from (TM_of (hK.getA 1034 rfl) (hK.get 1000 24 rfl))] at sx36
          refine lv_if_ne (tgt := 63) hx hb dX10_value_54 (by decide) (fun c37 => ?_) (fun c37 => ?_)
          · have hc37 := c37
            have q37 := q_ne hc37
            have sg38 := xr33.2.2.2 (by omega)
            have sc39 := sx36.y (by omega)
            refine lv_iload_n hx hb dX10_value_63 rfl (lv_at hl 0 rfl) ?_
            refine lv_aload_n hx hb dX10_value_64 rfl (lv_at hl 2 rfl) ?_
            refine m_geti (1000) 33 hx hb hts hown hE oc10 hM hJ.1 rfl (by decide) rfl tb_1210 dX10_value_65 ?_
            have z40 : I1 (1000) 33 = I (1000) 33 := (hkI1.get (1000) 33 rfl)
            rw [z40]
            refine lv_icmp_ne (tgt := 78) hx hb dX10_value_68 (by decide) (fun c41 => ?_) (fun c41 => ?_)
            · have hc41 := c41
              have q41 := q_ne hc41
              refine lv_aload_n hx hb dX10_value_78 rfl (lv_at hl 2 rfl) ?_
              refine lv_iload_n hx hb dX10_value_79 rfl (lv_at hl 1 rfl) ?_
              refine m_callv (m_runV (1000) (As := [.int (I1 (1000) 25)]) (rest := []) hx hb hml hown hts hE hM hS hA ce_X10_isCounted tb_1548 (V_X10_isCounted_h l D A ad ns I1 L2 G (I1 (1000) 25) hJ hI (fun hz => by have w0 := hPI (by omega); omega) (by first | omega | decide)) rfl rfl ⟨Nat.le_of_ble_eq_true rfl, Nat.le_of_ble_eq_true rfl⟩ hJ.1 rfl rfl (by decide) rfl hl.1 rfl (Nat.le_of_ble_eq_true rfl) dX10_value_80 ⟨Nat.le_of_ble_eq_true rfl, Nat.le_of_ble_eq_true rfl⟩) hS (fun u H locs hw hM hS => ?_)
              obtain ⟨I42, L43, rfl, hI, hkI42, xI42⟩ := hw
              have hM : Mem D A ad ns I42 L43 G H := hM
              have hK := hK.trans hkI42 rfl
              have pw44 : (I42 (1000) 24).toInt = (I (1000) 24 : Int32).toInt := (congrArg Int32.toInt ((hkI42.get (1000) 24 rfl))).trans pw3
              have pw45 : (I42 (1000) 25).toInt = (I1 (1000) 25 : Int32).toInt := congrArg Int32.toInt ((hkI42.get (1000) 25 rfl))
              have pw46 : (I42 (1000) 27).toInt = (I (1000) 27 : Int32).toInt := (congrArg Int32.toInt ((hkI42.get (1000) 27 rfl))).trans pw5
              have pw47 : (I42 (1000) 29).toInt = (I (1000) 29 : Int32).toInt := (congrArg Int32.toInt ((hkI42.get (1000) 29 rfl))).trans pw6
              have pw48 : (I42 (1000) 30).toInt = (I (1000) 30 : Int32).toInt := (congrArg Int32.toInt ((hkI42.get (1000) 30 rfl))).trans pw7
              have pw49 : (I42 (1000) 32).toInt = (I (1000) 32 : Int32).toInt := (congrArg Int32.toInt ((hkI42.get (1000) 32 rfl))).trans pw9
              refine lv_aload_n hx hb dX10_value_83 rfl (lv_at hl 2 rfl) ?_
              refine lv_dup hx hb dX10_value_84 rfl ?_
              refine m_geti (1000) 25 hx hb hts hown hE oc10 hM hJ.1 rfl (by decide) rfl tb_1202 dX10_value_85 ?_
              have g50 := hI.get (1000) 25 (lo := 0) (hi := 100000) rfl
              have z51 : I42 (1000) 25 = I1 (1000) 25 := (hkI42.get (1000) 25 rfl)
              rw [z51] at g50 ⊢
              refine lv_iload_n hx hb dX10_value_88 rfl (lv_at hl 0 rfl) ?_
              refine m_callq (m_runS (As := [.int (x2_38)]) (rest := [.int (I1 (1000) 25), .ref (ad (1000))]) hx hb hml hown hts hE hM hS hA ce_X10_wordOf tb_1556 (V_X10_wordOf l D A ad ns I42 L43 G (x2_38) hI (by first | omega | decide)) rfl rfl ⟨Nat.le_of_ble_eq_true rfl, Nat.le_of_ble_eq_true rfl⟩  rfl hl.1 rfl (Nat.le_of_ble_eq_true rfl) dX10_value_89 ⟨Nat.le_of_ble_eq_true rfl, Nat.le_of_ble_eq_true rfl⟩) hS (fun r52 u H locs hw hM hS => ?_)
              obtain ⟨rfl, xr52⟩ := hw
              have hM : Mem D A ad ns I42 L43 G H := hM
              obtain ⟨q2, rfl, hq2, -, -⟩ := xr52
              refine m_calli (m_runVA (D.2 100 (wi (x2_38).toNatClampNeg)) (As := []) (rest := [.int (I1 (1000) 25), .ref (ad (1000))]) hx hb hml hown hts hE hM hS hA ce_J0_length_8abf5 tb_1519 (C_J0_length_8abf5 l D A ad ns I42 L43 G (wi (x2_38).toNatClampNeg) _ hq hn) rfl rfl ⟨Nat.le_of_ble_eq_true rfl, Nat.le_of_ble_eq_true rfl⟩ (m_strr hE hS (wi (x2_38).toNatClampNeg) hq) rfl hl.1 rfl (Nat.le_of_ble_eq_true rfl) dX10_value_92 ⟨Nat.le_of_ble_eq_true rfl, Nat.le_of_ble_eq_true rfl⟩) hS (fun r53 u H locs hw hM hS => ?_)
              obtain ⟨rfl, rfl⟩ := hw
              have hM : Mem D A ad ns I42 L43 G H := hM
              refine lv_iadd hx hb dX10_value_95 ?_
              refine lv_topi (fun v54 ev54 => ?_)
              have tv54 := a_add ev54 (by omega) (by omega)
              refine m_puti (1000) 25 hx hb hts hown hE oc10 hM hS hJ.1 rfl (by decide) rfl rfl rfl rfl tb_1202 dX10_value_96 (fun H locs I55 eI55 hM hS => ?_)
              subst eI55
              have hI := hI.put (n := 1000) (k := 25) (v := v54) (lo := 0) (hi := 100000) rfl (by first | omega | decide)
              have hK := hK.put (n := 1000) (k := 25) (v := v54) (by first | rfl | simp [inR])
              refine lv_aload_n hx hb dX10_value_99 rfl (lv_at hl 2 rfl) ?_
              refine lv_iconst (v := (1)) hx hb dX10_value_100 (by decide) ?_
              refine lv_iload_n hx hb dX10_value_101 rfl (lv_at hl 0 rfl) ?_
              have pw56 : ((u2 I42 (1000) 25 (v54)) (1000) 24).toInt = (I (1000) 24 : Int32).toInt := (congrArg Int32.toInt ((show (u2 I42 (1000) 25 (v54)) (1000) 24 = I42 (1000) 24 from by simp [u2_v]))).trans pw44
              have pw57 : ((u2 I42 (1000) 25 (v54)) (1000) 25).toInt = (v54 : Int32).toInt := congrArg Int32.toInt ((show (u2 I42 (1000) 25 (v54)) (1000) 25 = v54 from by simp [u2_v]))
              have pw58 : ((u2 I42 (1000) 25 (v54)) (1000) 26).toInt = (I42 (1000) 26 : Int32).toInt := congrArg Int32.toInt ((show (u2 I42 (1000) 25 (v54)) (1000) 26 = I42 (1000) 26 from by simp [u2_v]))
              have pw59 : ((u2 I42 (1000) 25 (v54)) (1000) 27).toInt = (I (1000) 27 : Int32).toInt := (congrArg Int32.toInt ((show (u2 I42 (1000) 25 (v54)) (1000) 27 = I42 (1000) 27 from by simp [u2_v]))).trans pw46
              have pw60 : ((u2 I42 (1000) 25 (v54)) (1000) 29).toInt = (I (1000) 29 : Int32).toInt := (congrArg Int32.toInt ((show (u2 I42 (1000) 25 (v54)) (1000) 29 = I42 (1000) 29 from by simp [u2_v]))).trans pw47
              have pw61 : ((u2 I42 (1000) 25 (v54)) (1000) 30).toInt = (I (1000) 30 : Int32).toInt := (congrArg Int32.toInt ((show (u2 I42 (1000) 25 (v54)) (1000) 30 = I42 (1000) 30 from by simp [u2_v]))).trans pw48
              have pw62 : ((u2 I42 (1000) 25 (v54)) (1000) 31).toInt = (I42 (1000) 31 : Int32).toInt := congrArg Int32.toInt ((show (u2 I42 (1000) 25 (v54)) (1000) 31 = I42 (1000) 31 from by simp [u2_v]))
              have pw63 : ((u2 I42 (1000) 25 (v54)) (1000) 32).toInt = (I (1000) 32 : Int32).toInt := (congrArg Int32.toInt ((show (u2 I42 (1000) 25 (v54)) (1000) 32 = I42 (1000) 32 from by simp [u2_v]))).trans pw49
              refine m_callv (m_runV (1000) (As := [.int (1), .int (x2_38)]) (rest := []) hx hb hml hown hts hE hM hS hA ce_X10_entry tb_1552 (V_X10_entry_h l D A ad ns (u2 I42 (1000) 25 (v54)) L43 G (1) (x2_38) hJ hI (fun hz => by have w0 := xI42.2 (by omega); have w1 := hPI (by omega); omega)) rfl rfl ⟨Nat.le_of_ble_eq_true rfl, Nat.le_of_ble_eq_true rfl⟩ hJ.1 rfl rfl (by decide) rfl hl.1 rfl (Nat.le_of_ble_eq_true rfl) dX10_value_102 ⟨Nat.le_of_ble_eq_true rfl, Nat.le_of_ble_eq_true rfl⟩) hS (fun u H locs hw hM hS => ?_)
              obtain ⟨I64, L65, rfl, hI, hkI64, xI64⟩ := hw
              have hM : Mem D A ad ns I64 L65 G H := hM
              have hK := hK.trans hkI64 rfl
              replace hC := CT.link (I2 := (u2 I42 (1000) 25 (v54))) hC ((((show (u2 I42 (1000) 25 (v54)) 1035 = I42 1035 from by funext zz; simp [u2_v])).trans (hkI42.getA 1035 rfl)).trans (hkI1.getA 1035 rfl)) ((((show (u2 I42 (1000) 25 (v54)) 1036 = I42 1036 from by funext zz; simp [u2_v])).trans (hkI42.getA 1036 rfl)).trans (hkI1.getA 1036 rfl)) (by omega) (fun hz => by have w0 := xI42.2 (by omega); have w1 := hPI (by omega); omega)
              have pw66 : (I64 (1000) 24).toInt = (I (1000) 24 : Int32).toInt := (congrArg Int32.toInt ((hkI64.get (1000) 24 rfl))).trans pw56
              have pw67 : (I64 (1000) 25).toInt = (v54 : Int32).toInt := (congrArg Int32.toInt ((hkI64.get (1000) 25 rfl))).trans pw57
              have pw68 : (I64 (1000) 26).toInt = (I42 (1000) 26 : Int32).toInt := (congrArg Int32.toInt ((hkI64.get (1000) 26 rfl))).trans pw58
              have pw69 : (I64 (1000) 27).toInt = (I (1000) 27 : Int32).toInt := (congrArg Int32.toInt ((hkI64.get (1000) 27 rfl))).trans pw59
              have pw70 : (I64 (1000) 30).toInt = (I (1000) 30 : Int32).toInt := (congrArg Int32.toInt ((hkI64.get (1000) 30 rfl))).trans pw61
              have pw71 : (I64 (1000) 31).toInt = (I42 (1000) 31 : Int32).toInt := (congrArg Int32.toInt ((hkI64.get (1000) 31 rfl))).trans pw62
              have pw72 : (I64 (1000) 32).toInt = (I (1000) 32 : Int32).toInt := (congrArg Int32.toInt ((hkI64.get (1000) 32 rfl))).trans pw63
              have g73 := hI0.get 1000 27 (lo := 0) (hi := 5) rfl
              have g74 := hI0.get 1000 29 (lo := 0) (hi := 300) rfl
              replace hC := hC.comp (n2 := 1) (xI64.2.2.2.2.2.ct (by omega) (by omega) xI64.2.2.2.1 (by omega)) (by omega) (by omega) (by omega) (by omega) (fun hz => by omega)
              have xeI64 : Imp ((I64 1000 26).toInt = 0) ((I64 1000 29).toInt = ((u2 I42 (1000) 25 (v54)) 1000 29).toInt + 1) := fun hz => xI64.2.2.2.1 (by omega)
              have hen75 : Imp (((u2 I42 (1000) 25 (v54)) 1000 26).toInt = 0) (RC I64 = RC (u2 I42 (1000) 25 (v54)) ++ [enc (1 : Int32).toInt (x2_38 : Int32).toInt]) := fun hz => RC_ent xI64.2.2.2.2.2 hz (by omega) (by omega) (xI64.2.2.2.1 hz)
              have z1 := tn (i := I1 1000 25) (by omega)
              have z5 := tn (i := x2_38) (by omega)
              have z6 := tn (i := I64 1000 25) (by omega)
              have hrw := wi_rwd (k := (x2_38).toNatClampNeg) (by omega) hq
              have hrl := congrArg List.length hrw
              rw [List.length_map] at hrl
              have hsw := sc39
              rw [hrw] at hsw
              exact m_vret hx hb hr hlocks hM hS (Nat.le_of_ble_eq_true rfl) (Nat.le_of_ble_eq_true rfl) ⟨_, _, rfl, hI, hK, ⟨⟨val_word (k := (x2_38).toNatClampNeg) nw10 (by omega) (by omega) (RC_of (J := I) (J2 := I1) ((hkI1.getA 1035 rfl)) ((hkI1.getA 1036 rfl)) (by omega) (by omega)) (by omega) hsw (by omega) xI42.1 (RC_of (J := I1) (J2 := I42) ((hkI42.getA 1035 rfl)) ((hkI42.getA 1036 rfl)) (by omega) (by omega)) (fun hz => (xI42.2 hz).2.2.2) (by omega) (by omega) (by omega) (fun hz => by rw [hen75 hz, enc_v (v := -1 - ((x2_38).toNatClampNeg : Int)) (Or.inl ⟨by omega, by omega, by omega, by omega⟩), (RC_of (J := I42) (J2 := (u2 I42 (1000) 25 (v54))) ((show (u2 I42 (1000) 25 (v54)) 1035 = I42 1035 from by funext zz; simp [u2_v])) ((show (u2 I42 (1000) 25 (v54)) 1036 = I42 1036 from by funext zz; simp [u2_v])) (by omega) (by omega))]) (fun hz => (hPI hz).2.1) (by omega), fun hz => by have w2 := xI42.1.2 (by omega); omega⟩, by omega, by omega, by omega, (fun hz => by have w0 := xeI64 (by omega); have w1 := xI42.2 (by omega); have w2 := hPI (by omega); omega), hC⟩⟩ dX10_value_105
            · exact absurd (q_eq c41) (by omega)
          · have hc37 := c37
            have q37 := q_eq hc37
            have sc76 := sx36.n (by omega)
            obtain ⟨v77, ev77⟩ : ∃ z : Int32, z = x2_38 + Int32.ofInt (1) := ⟨_, rfl⟩
            have tv77 := a_inc ev77 (by decide) (by omega) (by omega)
            refine lv_iinc (v := v77) (lv' := [(2, .int (v77)), (1, .int (I1 (1000) 25)), (0, .ref (ad (1000)))]) hx hb dX10_value_57 hl (k := 0) rfl ev77.symm (by decide) rfl (fun ls hl => ?_)
            refine lv_goto (tgt := 38) hx hb dX10_value_60 (by decide) ?_
            exact ih38 (v77) _ _ ls (by first | omega | decide) (fun k hk => by have z1 := tn (i := x2_38) (by omega); have z2 := tn (i := v77) (by omega); by_cases hq2 : k < (x2_38).toNatClampNeg; exact hw38 k hq2; rw [show k = (x2_38).toNatClampNeg from by omega, ← wi_rwd (k := (x2_38).toNatClampNeg) (by omega) hq]; exact sc76) (by omega) hM hS (lv_sub hl [0, 1, 2] rfl)
    exact loop38 (_ + 1) (0) _ _ ls (by first | omega | decide) (fun k hk => absurd hk (Nat.not_lt_zero k)) (Nat.lt_succ_self _) hM hS (lv_sub hl [0, 1, 2] rfl)
  · have hc16 := c16
    have q16 := q_ne hc16
    have sg78 := xr12.2.2.2 (by omega)
    have sc79 := sx15.y (by omega)
    refine lv_aload_n hx hb dX10_value_16 rfl (lv_at hl 1 rfl) ?_
    refine lv_ldcw (v := (99999)) hx hb hown (hts _ tb_1547) dX10_value_17 ?_
    refine m_calli (m_runV (1000) (As := [.int (99999)]) (rest := []) hx hb hml hown hts hE hM hS hA ce_X10_digits tb_1525 (V_X10_digits_h l D A ad ns I1 L2 G (99999) hJ hI (by omega)) rfl rfl ⟨Nat.le_of_ble_eq_true rfl, Nat.le_of_ble_eq_true rfl⟩ hJ.1 rfl rfl (by decide) rfl hl.1 rfl (Nat.le_of_ble_eq_true rfl) dX10_value_20 ⟨Nat.le_of_ble_eq_true rfl, Nat.le_of_ble_eq_true rfl⟩) hS (fun r80 u H locs hw hM hS => ?_)
    obtain ⟨I81, L82, rfl, hI, hkI81, xr80⟩ := hw
    have hM : Mem D A ad ns I81 L82 G H := hM
    have hK := hK.trans hkI81 rfl
    have pw83 : (I81 (1000) 24).toInt = (I (1000) 24 : Int32).toInt := (congrArg Int32.toInt ((hkI81.get (1000) 24 rfl))).trans pw3
    have pw84 : (I81 (1000) 27).toInt = (I (1000) 27 : Int32).toInt := (congrArg Int32.toInt ((hkI81.get (1000) 27 rfl))).trans pw5
    have pw85 : (I81 (1000) 29).toInt = (I (1000) 29 : Int32).toInt := (congrArg Int32.toInt ((hkI81.get (1000) 29 rfl))).trans pw6
    have pw86 : (I81 (1000) 30).toInt = (I (1000) 30 : Int32).toInt := (congrArg Int32.toInt ((hkI81.get (1000) 30 rfl))).trans pw7
    have pw87 : (I81 (1000) 31).toInt = (I (1000) 31 : Int32).toInt := (congrArg Int32.toInt ((hkI81.get (1000) 31 rfl))).trans pw8
    have pw88 : (I81 (1000) 32).toInt = (I (1000) 32 : Int32).toInt := (congrArg Int32.toInt ((hkI81.get (1000) 32 rfl))).trans pw9
    have nw89 := xr80.1
    rw [show TM I1 = TM I from (TM_of (hkI81.getA 1034 rfl) (hkI81.get 1000 24 rfl)).symm.trans (TM_of (hK.getA 1034 rfl) (hK.get 1000 24 rfl))] at nw89
    refine lv_istore_n (lv' := [(2, .int (r80)), (1, .int (I1 (1000) 25)), (0, .ref (ad (1000)))]) hx hb dX10_value_23 rfl hl (by decide) rfl (fun ls hl => ?_)
    refine lv_aload_n hx hb dX10_value_24 rfl (lv_at hl 2 rfl) ?_
    refine lv_iload_n hx hb dX10_value_25 rfl (lv_at hl 1 rfl) ?_
    refine m_callv (m_runV (1000) (As := [.int (I1 (1000) 25)]) (rest := []) hx hb hml hown hts hE hM hS hA ce_X10_isCounted tb_1548 (V_X10_isCounted_h l D A ad ns I81 L82 G (I1 (1000) 25) hJ hI (fun hz => by have w0 := xr80.2.2.2 (by omega); have w1 := hPI (by omega); omega) (by first | omega | decide)) rfl rfl ⟨Nat.le_of_ble_eq_true rfl, Nat.le_of_ble_eq_true rfl⟩ hJ.1 rfl rfl (by decide) rfl hl.1 rfl (Nat.le_of_ble_eq_true rfl) dX10_value_26 ⟨Nat.le_of_ble_eq_true rfl, Nat.le_of_ble_eq_true rfl⟩) hS (fun u H locs hw hM hS => ?_)
    obtain ⟨I90, L91, rfl, hI, hkI90, xI90⟩ := hw
    have hM : Mem D A ad ns I90 L91 G H := hM
    have hK := hK.trans hkI90 rfl
    have pw92 : (I90 (1000) 24).toInt = (I (1000) 24 : Int32).toInt := (congrArg Int32.toInt ((hkI90.get (1000) 24 rfl))).trans pw83
    have pw93 : (I90 (1000) 25).toInt = (I81 (1000) 25 : Int32).toInt := congrArg Int32.toInt ((hkI90.get (1000) 25 rfl))
    have pw94 : (I90 (1000) 27).toInt = (I (1000) 27 : Int32).toInt := (congrArg Int32.toInt ((hkI90.get (1000) 27 rfl))).trans pw84
    have pw95 : (I90 (1000) 29).toInt = (I (1000) 29 : Int32).toInt := (congrArg Int32.toInt ((hkI90.get (1000) 29 rfl))).trans pw85
    have pw96 : (I90 (1000) 30).toInt = (I (1000) 30 : Int32).toInt := (congrArg Int32.toInt ((hkI90.get (1000) 30 rfl))).trans pw86
    have pw97 : (I90 (1000) 32).toInt = (I (1000) 32 : Int32).toInt := (congrArg Int32.toInt ((hkI90.get (1000) 32 rfl))).trans pw88
    refine lv_aload_n hx hb dX10_value_29 rfl (lv_at hl 2 rfl) ?_
    refine lv_iconst (v := (0)) hx hb dX10_value_30 (by decide) ?_
    refine lv_iload_n hx hb dX10_value_31 rfl (lv_at hl 0 rfl) ?_
    refine m_callv (m_runV (1000) (As := [.int (0), .int (r80)]) (rest := []) hx hb hml hown hts hE hM hS hA ce_X10_entry tb_1552 (V_X10_entry_h l D A ad ns I90 L91 G (0) (r80) hJ hI (fun hz => by have w0 := xI90.2 (by omega); have w1 := xr80.2.2.2 (by omega); have w2 := hPI (by omega); omega)) rfl rfl ⟨Nat.le_of_ble_eq_true rfl, Nat.le_of_ble_eq_true rfl⟩ hJ.1 rfl rfl (by decide) rfl hl.1 rfl (Nat.le_of_ble_eq_true rfl) dX10_value_32 ⟨Nat.le_of_ble_eq_true rfl, Nat.le_of_ble_eq_true rfl⟩) hS (fun u H locs hw hM hS => ?_)
    obtain ⟨I98, L99, rfl, hI, hkI98, xI98⟩ := hw
    have hM : Mem D A ad ns I98 L99 G H := hM
    have hK := hK.trans hkI98 rfl
    replace hC := CT.link (I2 := I90) hC ((((hkI90.getA 1035 rfl)).trans (hkI81.getA 1035 rfl)).trans (hkI1.getA 1035 rfl)) ((((hkI90.getA 1036 rfl)).trans (hkI81.getA 1036 rfl)).trans (hkI1.getA 1036 rfl)) (by omega) (fun hz => by have w0 := xI90.2 (by omega); have w1 := xr80.2.2.2 (by omega); have w2 := hPI (by omega); omega)
    have pw100 : (I98 (1000) 24).toInt = (I (1000) 24 : Int32).toInt := (congrArg Int32.toInt ((hkI98.get (1000) 24 rfl))).trans pw92
    have pw101 : (I98 (1000) 25).toInt = (I81 (1000) 25 : Int32).toInt := (congrArg Int32.toInt ((hkI98.get (1000) 25 rfl))).trans pw93
    have pw102 : (I98 (1000) 26).toInt = (I90 (1000) 26 : Int32).toInt := congrArg Int32.toInt ((hkI98.get (1000) 26 rfl))
    have pw103 : (I98 (1000) 27).toInt = (I (1000) 27 : Int32).toInt := (congrArg Int32.toInt ((hkI98.get (1000) 27 rfl))).trans pw94
    have pw104 : (I98 (1000) 30).toInt = (I (1000) 30 : Int32).toInt := (congrArg Int32.toInt ((hkI98.get (1000) 30 rfl))).trans pw96
    have pw105 : (I98 (1000) 31).toInt = (I90 (1000) 31 : Int32).toInt := congrArg Int32.toInt ((hkI98.get (1000) 31 rfl))
    have pw106 : (I98 (1000) 32).toInt = (I (1000) 32 : Int32).toInt := (congrArg Int32.toInt ((hkI98.get (1000) 32 rfl))).trans pw97
    have g107 := hI0.get 1000 27 (lo := 0) (hi := 5) rfl
    have g108 := hI0.get 1000 29 (lo := 0) (hi := 300) rfl
    replace hC := hC.comp (n2 := 1) (xI98.2.2.2.2.2.ct (by omega) (by omega) xI98.2.2.2.1 (by omega)) (by omega) (by omega) (by omega) (by omega) (fun hz => by omega)
    have xeI98 : Imp ((I98 1000 26).toInt = 0) ((I98 1000 29).toInt = (I90 1000 29).toInt + 1) := fun hz => xI98.2.2.2.1 (by omega)
    have hen109 : Imp ((I90 1000 26).toInt = 0) (RC I98 = RC I90 ++ [enc (0 : Int32).toInt (r80 : Int32).toInt]) := fun hz => RC_ent xI98.2.2.2.2.2 hz (by omega) (by omega) (xI98.2.2.2.1 hz)
    have z1 := tn (i := I1 1000 25) (by omega)
    exact m_vret hx hb hr hlocks hM hS (Nat.le_of_ble_eq_true rfl) (Nat.le_of_ble_eq_true rfl) ⟨_, _, rfl, hI, hK, ⟨⟨val_num hT nw10 (by omega) (by omega) (RC_of (J := I) (J2 := I1) ((hkI1.getA 1035 rfl)) ((hkI1.getA 1036 rfl)) (by omega) (by omega)) sc79 nw89.1 (by omega) (RC_of (J := I1) (J2 := I81) ((hkI81.getA 1035 rfl)) ((hkI81.getA 1036 rfl)) (by omega) (by omega)) (fun hz => by have w1 := nw89.2 (by omega); omega) (by omega) xI90.1 (cl_eq (by omega)) (RC_of (J := I81) (J2 := I90) ((hkI90.getA 1035 rfl)) ((hkI90.getA 1036 rfl)) (by omega) (by omega)) (fun hz => (xI90.2 hz).2.2.2) (by omega) (by omega) (cl_eq (by omega)) (fun hz => by rw [hen109 hz, enc_0 k0 (dix_nn nw89.1 sc79)]) (fun hz => (hPI hz).2.1) (by omega), fun hz => by have w1 := nw89.2 (by omega); have w2 := xI90.1.2 (by omega); omega⟩, by omega, by omega, by omega, (fun hz => by have w0 := xeI98 (by omega); have w1 := xI90.2 (by omega); have w2 := xr80.2.2.2 (by omega); have w3 := hPI (by omega); omega), hC⟩⟩ dX10_value_35
