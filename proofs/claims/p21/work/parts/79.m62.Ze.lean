set_option maxHeartbeats 4000000 in
set_option maxRecDepth 20000 in
theorem V_X10_worth_t_z (l : Launch) (D : va_G) (A : Nat → Prop) (ad : Nat → Nat) (ns : List Nat) (I : MI) (L : ML) (G : MG) (a0 : Int32) (a1 : Int32) (hJ : SGM ns G) (hI : INV I) : Met l yX10_worth (wd yX10_worth cX10_worth 5 (some .int)) ({ frames := 5, cells := 0, slots := 0, locals := 128 }) (va_Pc [.ref (ad (1000)), .int a0, .int a1] (PM D A ad ns I L G)) (va_Qi (fun r u => ∃ I2 L2, u = (ad, ns, I2, L2, G) ∧ INV I2 ∧ Kp [(1015, 1016), (1045, 1051), (1058, 1059), (1061, 1063)] [(1000, 51), (1000, 52), (1000, 53), (1000, 54), (1000, 55), (1000, 56), (1000, 59), (1000, 63)] I I2 ∧ ((KM I I2) ∧ Z59 I I2)) (BM D A) A) 0 0 A := by
  refine m_ofW (by decide) (Nat.le_of_ble_eq_true rfl) ?_
  intro p e s m below meth c ls args hC hE hM hA hS hl
  obtain ⟨hx, hb, hml, hown, hts, hr, hlocks, hin⟩ := hC
  have km1000000 : (-1000000 : Int32).toInt = -1000000 := by decide
  have k0 : (0 : Int32).toInt = 0 := by decide
  have k1 : (1 : Int32).toInt = 1 := by decide
  have hK : Kp [(1015, 1016), (1045, 1051), (1058, 1059), (1061, 1063)] [(1000, 51), (1000, 52), (1000, 53), (1000, 54), (1000, 55), (1000, 56), (1000, 59), (1000, 63)] I I := Kp.rf
  have hl : lv_has ls 5 [(0, .ref (ad (1000))), (1, .int (a0)), (2, .int (a1))] := hl
  refine lv_aload_n hx hb dX10_worth_0 rfl (lv_at hl 0 rfl) ?_
  refine lv_iload_n hx hb dX10_worth_1 rfl (lv_at hl 1 rfl) ?_
  refine m_calli (m_runV (1000) (As := [.int (a0)]) (rest := []) hx hb hml hown hts hE hM hS hA ce_X10_isBright tb_1698 (V_X10_isBright l D A ad ns I L G (a0) hJ hI) rfl rfl ⟨Nat.le_of_ble_eq_true rfl, Nat.le_of_ble_eq_true rfl⟩ hJ.1 rfl rfl (by decide) rfl hl.1 rfl (Nat.le_of_ble_eq_true rfl) dX10_worth_2 ⟨Nat.le_of_ble_eq_true rfl, Nat.le_of_ble_eq_true rfl⟩) hS (fun r1 u H locs hw hM hS => ?_)
  obtain ⟨rfl, xr1⟩ := hw
  have hM : Mem D A ad ns I L G H := hM
  refine lv_if_eq (tgt := 16) hx hb dX10_worth_5 (by decide) (fun c2 => ?_) (fun c2 => ?_)
  · have hc2 := c2
    have q2 := q_eq hc2
    refine lv_ldcw (v := (-1000000)) hx hb hown (hts _ tb_1730) dX10_worth_16 ?_
    exact m_iret hx hb hr hlocks hM hS (Nat.le_of_ble_eq_true rfl) (Nat.le_of_ble_eq_true rfl) ⟨_, _, rfl, hI, hK, ⟨EqV.rf, Z59.rf⟩⟩ dX10_worth_19
  · have hc2 := c2
    have q2 := q_ne hc2
    refine lv_aload_n hx hb dX10_worth_8 rfl (lv_at hl 0 rfl) ?_
    refine lv_iload_n hx hb dX10_worth_9 rfl (lv_at hl 2 rfl) ?_
    refine m_calli (m_runV (1000) (As := [.int (a1)]) (rest := []) hx hb hml hown hts hE hM hS hA ce_X10_isMirror tb_1462 (V_X10_isMirror l D A ad ns I L G (a1) hJ hI) rfl rfl ⟨Nat.le_of_ble_eq_true rfl, Nat.le_of_ble_eq_true rfl⟩ hJ.1 rfl rfl (by decide) rfl hl.1 rfl (Nat.le_of_ble_eq_true rfl) dX10_worth_10 ⟨Nat.le_of_ble_eq_true rfl, Nat.le_of_ble_eq_true rfl⟩) hS (fun r3 u H locs hw hM hS => ?_)
    obtain ⟨rfl, xr3⟩ := hw
    have hM : Mem D A ad ns I L G H := hM
    have yr3 := bo01 xr3
    have g4 := hI.get 1001 8 (lo := 0) (hi := 24) rfl
    refine lv_if_ne (tgt := 20) hx hb dX10_worth_13 (by decide) (fun c5 => ?_) (fun c5 => ?_)
    · have hc5 := c5
      have q5 := xr3.t hc5
      refine lv_aload_n hx hb dX10_worth_20 rfl (lv_at hl 0 rfl) ?_
      refine lv_iload_n hx hb dX10_worth_21 rfl (lv_at hl 1 rfl) ?_
      refine m_callv (m_runV (1000) (As := [.int (a0)]) (rest := []) hx hb hml hown hts hE hM hS hA ce_X10_shines tb_1640 (V_X10_shines_z l D A ad ns I L G (a0) hJ hI (by first | omega | decide)) rfl rfl ⟨Nat.le_of_ble_eq_true rfl, Nat.le_of_ble_eq_true rfl⟩ hJ.1 rfl rfl (by decide) rfl hl.1 rfl (Nat.le_of_ble_eq_true rfl) dX10_worth_22 ⟨Nat.le_of_ble_eq_true rfl, Nat.le_of_ble_eq_true rfl⟩) hS (fun u H locs hw hM hS => ?_)
      obtain ⟨I6, L7, rfl, hI, hkI6, xI6⟩ := hw
      have hM : Mem D A ad ns I6 L7 G H := hM
      have hK := hK.trans hkI6 rfl
      have zI6 := xI6
      have zt8a : ZA I6 := zI6
      refine lv_aload_n hx hb dX10_worth_25 rfl (lv_at hl 0 rfl) ?_
      refine m_calli (m_runV (1000) (As := []) (rest := []) hx hb hml hown hts hE hM hS hA ce_X10_allGot tb_1707 (V_X10_allGot l D A ad ns I6 L7 G hJ hI) rfl rfl ⟨Nat.le_of_ble_eq_true rfl, Nat.le_of_ble_eq_true rfl⟩ hJ.1 rfl rfl (by decide) rfl hl.1 rfl (Nat.le_of_ble_eq_true rfl) dX10_worth_26 ⟨Nat.le_of_ble_eq_true rfl, Nat.le_of_ble_eq_true rfl⟩) hS (fun r9 u H locs hw hM hS => ?_)
      obtain ⟨rfl, xr9⟩ := hw
      have hM : Mem D A ad ns I6 L7 G H := hM
      refine lv_istore_n (lv' := [(3, .int (r9)), (0, .ref (ad (1000))), (1, .int (a0)), (2, .int (a1))]) hx hb dX10_worth_29 rfl hl (by decide) rfl (fun ls hl => ?_)
      refine lv_aload_n hx hb dX10_worth_30 rfl (lv_at hl 1 rfl) ?_
      refine m_getr (1000) 15 (1015) hx hb hts hown hE oc10 hM hJ.1 rfl (by decide) rfl (hJ.2 15 (by decide)).2 (by decide) tb_1192 dX10_worth_31 ?_
      refine lv_iload_n hx hb dX10_worth_34 rfl (lv_at hl 3 rfl) ?_
      refine m_iald (1015) hx hb hE hM (hJ.2 15 (by decide)).1 rfl (vp_in_iff.mpr (by omega)) dX10_worth_35 ?_
      have z10 : I6 (1015) (a1).toNatClampNeg = I (1015) ((a1).toNatClampNeg) := (congrFun (hkI6.getA (1015) rfl) ((a1).toNatClampNeg))
      rw [z10]
      have hwas : I (1015) ((a1).toNatClampNeg) = live I 15 (a1).toNatClampNeg := rfl
      refine lv_istore (lv' := [(4, .int (I (1015) ((a1).toNatClampNeg))), (3, .int (r9)), (0, .ref (ad (1000))), (1, .int (a0)), (2, .int (a1))]) hx hb dX10_worth_36 hl (by decide) rfl (fun ls hl => ?_)
      refine lv_aload_n hx hb dX10_worth_38 rfl (lv_at hl 2 rfl) ?_
      refine m_getr (1000) 15 (1015) hx hb hts hown hE oc10 hM hJ.1 rfl (by decide) rfl (hJ.2 15 (by decide)).2 (by decide) tb_1192 dX10_worth_39 ?_
      refine lv_iload_n hx hb dX10_worth_42 rfl (lv_at hl 4 rfl) ?_
      refine lv_iconst (v := (1)) hx hb dX10_worth_43 (by decide) ?_
      refine m_iast (1015) hx hb hE hM hS (hJ.2 15 (by decide)).1 rfl (vp_in_iff.mpr (by omega)) dX10_worth_44 (fun H locs I11 eI11 hM hS => ?_)
      subst eI11
      have hI := hI.putF (n := 1015) (k := ((a1).toNatClampNeg)) (v := 1) rfl
      have hK := hK.put (n := 1015) (k := ((a1).toNatClampNeg)) (v := 1) (by first | rfl | simp [inR])
      have zt12a : ZA (u2 I6 (1015) ((a1).toNatClampNeg) (1)) := zt8a.pt (fun z => absurd z.1 (by decide))
      refine lv_aload_n hx hb dX10_worth_45 rfl (lv_at hl 2 rfl) ?_
      refine lv_iload_n hx hb dX10_worth_46 rfl (lv_at hl 3 rfl) ?_
      refine m_callv (m_runV (1000) (As := [.int (a0)]) (rest := []) hx hb hml hown hts hE hM hS hA ce_X10_shines tb_1640 (V_X10_shines_z l D A ad ns (u2 I6 (1015) ((a1).toNatClampNeg) (1)) L7 G (a0) hJ hI (by first | omega | decide)) rfl rfl ⟨Nat.le_of_ble_eq_true rfl, Nat.le_of_ble_eq_true rfl⟩ hJ.1 rfl rfl (by decide) rfl hl.1 rfl (Nat.le_of_ble_eq_true rfl) dX10_worth_47 ⟨Nat.le_of_ble_eq_true rfl, Nat.le_of_ble_eq_true rfl⟩) hS (fun u H locs hw hM hS => ?_)
      obtain ⟨I13, L14, rfl, hI, hkI13, xI13⟩ := hw
      have hM : Mem D A ad ns I13 L14 G H := hM
      have hK := hK.trans hkI13 rfl
      have zI13 := xI13
      have zt15a : ZA I13 := zI13
      refine lv_aload_n hx hb dX10_worth_50 rfl (lv_at hl 2 rfl) ?_
      refine m_getr (1000) 15 (1015) hx hb hts hown hE oc10 hM hJ.1 rfl (by decide) rfl (hJ.2 15 (by decide)).2 (by decide) tb_1192 dX10_worth_51 ?_
      refine lv_iload_n hx hb dX10_worth_54 rfl (lv_at hl 4 rfl) ?_
      refine lv_iload hx hb dX10_worth_55 (lv_at hl 0 rfl) ?_
      refine m_iast (1015) hx hb hE hM hS (hJ.2 15 (by decide)).1 rfl (vp_in_iff.mpr (by omega)) dX10_worth_57 (fun H locs I16 eI16 hM hS => ?_)
      subst eI16
      have hI := hI.putF (n := 1015) (k := ((a1).toNatClampNeg)) (v := I (1015) ((a1).toNatClampNeg)) rfl
      have hK := hK.put (n := 1015) (k := ((a1).toNatClampNeg)) (v := I (1015) ((a1).toNatClampNeg)) (by first | rfl | simp [inR])
      have zt17a : ZA (u2 I13 (1015) ((a1).toNatClampNeg) (I (1015) ((a1).toNatClampNeg))) := zt15a.pt (fun z => absurd z.1 (by decide))
      refine lv_iload_n hx hb dX10_worth_58 rfl (lv_at hl 1 rfl) ?_
      refine lv_aload_n hx hb dX10_worth_59 rfl (lv_at hl 2 rfl) ?_
      refine m_calli (m_runV (1000) (As := []) (rest := [.int (r9)]) hx hb hml hown hts hE hM hS hA ce_X10_allGot tb_1707 (V_X10_allGot l D A ad ns (u2 I13 (1015) ((a1).toNatClampNeg) (I (1015) ((a1).toNatClampNeg))) L14 G hJ hI) rfl rfl ⟨Nat.le_of_ble_eq_true rfl, Nat.le_of_ble_eq_true rfl⟩ hJ.1 rfl rfl (by decide) rfl hl.1 rfl (Nat.le_of_ble_eq_true rfl) dX10_worth_60 ⟨Nat.le_of_ble_eq_true rfl, Nat.le_of_ble_eq_true rfl⟩) hS (fun r18 u H locs hw hM hS => ?_)
      obtain ⟨rfl, xr18⟩ := hw
      have hM : Mem D A ad ns (u2 I13 (1015) ((a1).toNatClampNeg) (I (1015) ((a1).toNatClampNeg))) L14 G H := hM
      refine lv_isub hx hb dX10_worth_63 ?_
      refine lv_topi (fun v19 ev19 => ?_)
      exact m_iret hx hb hr hlocks hM hS (Nat.le_of_ble_eq_true rfl) (Nat.le_of_ble_eq_true rfl) ⟨_, _, rfl, hI, hK, ⟨(EqV.bk (live_st (n := 15) (EqV.tr (live_st (n := 15) (EqV.tr EqV.rf (live_fr hkI6 rfl))) (live_fr hkI13 rfl))) hwas), (ZA.z zt17a)⟩⟩ dX10_worth_64
    · have hc5 := c5
      have q5 := xr3.f hc5
      refine lv_ldcw (v := (-1000000)) hx hb hown (hts _ tb_1730) dX10_worth_16 ?_
      exact m_iret hx hb hr hlocks hM hS (Nat.le_of_ble_eq_true rfl) (Nat.le_of_ble_eq_true rfl) ⟨_, _, rfl, hI, hK, ⟨EqV.rf, Z59.rf⟩⟩ dX10_worth_19
set_option maxHeartbeats 4000000 in
set_option maxRecDepth 20000 in
theorem V_X10_dusty_t_z (l : Launch) (D : va_G) (A : Nat → Prop) (ad : Nat → Nat) (ns : List Nat) (I : MI) (L : ML) (G : MG) (a0 : Int32) (a1 : Int32) (a2 : Int32) (a3 : Int32) (hJ : SGM ns G) (hI : INV I) : Met l yX10_dusty (wd yX10_dusty cX10_dusty 8 (some .int)) ({ frames := 5, cells := 0, slots := 0, locals := 128 }) (va_Pc [.ref (ad (1000)), .int a0, .int a1, .int a2, .int a3] (PM D A ad ns I L G)) (va_Qi (fun r u => ∃ I2 L2, u = (ad, ns, I2, L2, G) ∧ INV I2 ∧ Kp [(1014, 1015), (1045, 1051), (1058, 1059), (1061, 1063)] [(1000, 51), (1000, 52), (1000, 53), (1000, 54), (1000, 55), (1000, 56), (1000, 59), (1000, 63)] I I2 ∧ ((KM I I2) ∧ Z59 I I2)) (BM D A) A) 0 0 A := by
  refine m_ofW (by decide) (Nat.le_of_ble_eq_true rfl) ?_
  intro p e s m below meth c ls args hC hE hM hA hS hl
  obtain ⟨hx, hb, hml, hown, hts, hr, hlocks, hin⟩ := hC
  have km2 : (-2 : Int32).toInt = -2 := by decide
  have km1 : (-1 : Int32).toInt = -1 := by decide
  have k0 : (0 : Int32).toInt = 0 := by decide
  have k1000 : (1000 : Int32).toInt = 1000 := by decide
  have kl0 : (0 : Int64).toInt = 0 := by decide
  have kl9999999 : (9999999 : Int64).toInt = 9999999 := by decide
  have hK : Kp [(1014, 1015), (1045, 1051), (1058, 1059), (1061, 1063)] [(1000, 51), (1000, 52), (1000, 53), (1000, 54), (1000, 55), (1000, 56), (1000, 59), (1000, 63)] I I := Kp.rf
  have hl : lv_has ls 8 [(0, .ref (ad (1000))), (1, .int (a0)), (2, .int (a1)), (3, .int (a2)), (4, .int (a3))] := hl
  refine lv_aload_n hx hb dX10_dusty_0 rfl (lv_at hl 0 rfl) ?_
  refine lv_iload_n hx hb dX10_dusty_1 rfl (lv_at hl 1 rfl) ?_
  refine m_calli (m_runV (1000) (As := [.int (a0)]) (rest := []) hx hb hml hown hts hE hM hS hA ce_X10_isBright tb_1698 (V_X10_isBright l D A ad ns I L G (a0) hJ hI) rfl rfl ⟨Nat.le_of_ble_eq_true rfl, Nat.le_of_ble_eq_true rfl⟩ hJ.1 rfl rfl (by decide) rfl hl.1 rfl (Nat.le_of_ble_eq_true rfl) dX10_dusty_2 ⟨Nat.le_of_ble_eq_true rfl, Nat.le_of_ble_eq_true rfl⟩) hS (fun r1 u H locs hw hM hS => ?_)
  obtain ⟨rfl, xr1⟩ := hw
  have hM : Mem D A ad ns I L G H := hM
  refine lv_if_eq (tgt := 37) hx hb dX10_dusty_5 (by decide) (fun c2 => ?_) (fun c2 => ?_)
  · have hc2 := c2
    have q2 := q_eq hc2
    refine lv_iconst (v := (-1)) hx hb dX10_dusty_37 (by decide) ?_
    exact m_iret hx hb hr hlocks hM hS (Nat.le_of_ble_eq_true rfl) (Nat.le_of_ble_eq_true rfl) ⟨_, _, rfl, hI, hK, ⟨EqV.rf, Z59.rf⟩⟩ dX10_dusty_38
  · have hc2 := c2
    have q2 := q_ne hc2
    refine lv_aload_n hx hb dX10_dusty_8 rfl (lv_at hl 0 rfl) ?_
    refine lv_iload_n hx hb dX10_dusty_9 rfl (lv_at hl 2 rfl) ?_
    refine m_calli (m_runV (1000) (As := [.int (a1)]) (rest := []) hx hb hml hown hts hE hM hS hA ce_X10_isMirror tb_1462 (V_X10_isMirror l D A ad ns I L G (a1) hJ hI) rfl rfl ⟨Nat.le_of_ble_eq_true rfl, Nat.le_of_ble_eq_true rfl⟩ hJ.1 rfl rfl (by decide) rfl hl.1 rfl (Nat.le_of_ble_eq_true rfl) dX10_dusty_10 ⟨Nat.le_of_ble_eq_true rfl, Nat.le_of_ble_eq_true rfl⟩) hS (fun r3 u H locs hw hM hS => ?_)
    obtain ⟨rfl, xr3⟩ := hw
    have hM : Mem D A ad ns I L G H := hM
    have yr3 := bo01 xr3
    have g4 := hI.get 1001 8 (lo := 0) (hi := 24) rfl
    refine lv_if_eq (tgt := 37) hx hb dX10_dusty_13 (by decide) (fun c5 => ?_) (fun c5 => ?_)
    · have hc5 := c5
      have q5 := xr3.f hc5
      refine lv_iconst (v := (-1)) hx hb dX10_dusty_37 (by decide) ?_
      exact m_iret hx hb hr hlocks hM hS (Nat.le_of_ble_eq_true rfl) (Nat.le_of_ble_eq_true rfl) ⟨_, _, rfl, hI, hK, ⟨EqV.rf, Z59.rf⟩⟩ dX10_dusty_38
    · have hc5 := c5
      have q5 := xr3.t hc5
      refine lv_aload_n hx hb dX10_dusty_16 rfl (lv_at hl 0 rfl) ?_
      refine lv_iload_n hx hb dX10_dusty_17 rfl (lv_at hl 3 rfl) ?_
      refine m_calli (m_runV (1000) (As := [.int (a2)]) (rest := []) hx hb hml hown hts hE hM hS hA ce_X10_isYard tb_1686 (V_X10_isYard l D A ad ns I L G (a2) hJ hI) rfl rfl ⟨Nat.le_of_ble_eq_true rfl, Nat.le_of_ble_eq_true rfl⟩ hJ.1 rfl rfl (by decide) rfl hl.1 rfl (Nat.le_of_ble_eq_true rfl) dX10_dusty_18 ⟨Nat.le_of_ble_eq_true rfl, Nat.le_of_ble_eq_true rfl⟩) hS (fun r6 u H locs hw hM hS => ?_)
      obtain ⟨rfl, xr6⟩ := hw
      have hM : Mem D A ad ns I L G H := hM
      have yr6 := bo01 xr6
      have g7 := hI.get 1001 9 (lo := 0) (hi := 8) rfl
      refine lv_if_eq (tgt := 37) hx hb dX10_dusty_21 (by decide) (fun c8 => ?_) (fun c8 => ?_)
      · have hc8 := c8
        have q8 := xr6.f hc8
        refine lv_iconst (v := (-1)) hx hb dX10_dusty_37 (by decide) ?_
        exact m_iret hx hb hr hlocks hM hS (Nat.le_of_ble_eq_true rfl) (Nat.le_of_ble_eq_true rfl) ⟨_, _, rfl, hI, hK, ⟨EqV.rf, Z59.rf⟩⟩ dX10_dusty_38
      · have hc8 := c8
        have q8 := xr6.t hc8
        refine lv_iload hx hb dX10_dusty_24 (lv_at hl 4 rfl) ?_
        refine lv_i2l hx hb dX10_dusty_26 rfl ?_
        refine lv_topl (fun v9 ev9 => ?_)
        have tv9 := q_i2l ev9
        refine lv_lconst (v := 0) hx hb dX10_dusty_27 (by decide) ?_
        refine lv_ldc2 (v := (9999999)) hx hb hown (hts _ tb_1472) dX10_dusty_28 ?_
        refine m_calli (m_runS (As := [.long (v9), .long (0), .long ((9999999 : Int64))]) (rest := []) hx hb hml hown hts hE hM hS hA ce_X10_in tb_1425 (V_X10_in l D A ad ns I L G (v9) (0) ((9999999 : Int64)) hI) rfl rfl ⟨Nat.le_of_ble_eq_true rfl, Nat.le_of_ble_eq_true rfl⟩  rfl hl.1 rfl (Nat.le_of_ble_eq_true rfl) dX10_dusty_31 ⟨Nat.le_of_ble_eq_true rfl, Nat.le_of_ble_eq_true rfl⟩) hS (fun r10 u H locs hw hM hS => ?_)
        obtain ⟨rfl, xr10⟩ := hw
        have hM : Mem D A ad ns I L G H := hM
        have yr10 := bo01 xr10
        refine lv_if_ne (tgt := 39) hx hb dX10_dusty_34 (by decide) (fun c11 => ?_) (fun c11 => ?_)
        · have hc11 := c11
          have q11 := xr10.t hc11
          refine lv_aload_n hx hb dX10_dusty_39 rfl (lv_at hl 0 rfl) ?_
          refine m_getr (1000) 14 (1014) hx hb hts hown hE oc10 hM hJ.1 rfl (by decide) rfl (hJ.2 14 (by decide)).2 (by decide) tb_1191 dX10_dusty_40 ?_
          refine lv_iload_n hx hb dX10_dusty_43 rfl (lv_at hl 2 rfl) ?_
          refine m_iald (1014) hx hb hE hM (hJ.2 14 (by decide)).1 rfl (vp_in_iff.mpr (by omega)) dX10_dusty_44 ?_
          have hwas : I (1014) (a1).toNatClampNeg = live I 14 (a1).toNatClampNeg := rfl
          refine lv_istore (lv' := [(5, .int (I (1014) (a1).toNatClampNeg)), (0, .ref (ad (1000))), (1, .int (a0)), (2, .int (a1)), (3, .int (a2)), (4, .int (a3))]) hx hb dX10_dusty_45 hl (by decide) rfl (fun ls hl => ?_)
          refine lv_bipush (v := (-2)) hx hb dX10_dusty_47 (by decide) ?_
          refine lv_istore (lv' := [(6, .int ((-2 : Int32))), (5, .int (I (1014) (a1).toNatClampNeg)), (0, .ref (ad (1000))), (1, .int (a0)), (2, .int (a1)), (3, .int (a2)), (4, .int (a3))]) hx hb dX10_dusty_49 hl (by decide) rfl (fun ls hl => ?_)
          refine lv_iconst (v := (0)) hx hb dX10_dusty_51 (by decide) ?_
          refine lv_istore (lv' := [(7, .int (0)), (6, .int ((-2 : Int32))), (5, .int (I (1014) (a1).toNatClampNeg)), (0, .ref (ad (1000))), (1, .int (a0)), (2, .int (a1)), (3, .int (a2)), (4, .int (a3))]) hx hb dX10_dusty_52 hl (by decide) rfl (fun ls hl => ?_)
          have loop54 : ∀ (n : Nat) (x7_54 : Int32) (x6_54 : Int32) (Ia54 : MI) (La54 : ML) (H : Heap) (locs : List Loc) (ls : Array Slot), INV Ia54 → Kp [(1014, 1015), (1045, 1051), (1058, 1059), (1061, 1063)] [(1000, 51), (1000, 52), (1000, 53), (1000, 54), (1000, 55), (1000, 56), (1000, 59), (1000, 63)] I Ia54 → (0 ≤ x7_54.toInt ∧ x7_54.toInt ≤ 1001) → (TRM 14 (a1).toNatClampNeg I Ia54) → (Z59 I Ia54) → (1001 - x7_54.toInt).toNat < n → Mem D A ad ns Ia54 La54 G H → va_S A s.heap H locs → lv_has ls 8 [(7, .int (x7_54)), (6, .int (x6_54)), (5, .int (I (1014) (a1).toNatClampNeg)), (0, .ref (ad (1000))), (1, .int (a0)), (2, .int (a1)), (3, .int (a2)), (4, .int (a3))] → W p l e ({ frames := 5, cells := 0, slots := 0, locals := 128 } : Room) s m args below meth c H locs 0 0 (MQ below (va_Qi (fun r u => ∃ I2 L2, u = (ad, ns, I2, L2, G) ∧ INV I2 ∧ Kp [(1014, 1015), (1045, 1051), (1058, 1059), (1061, 1063)] [(1000, 51), (1000, 52), (1000, 53), (1000, 54), (1000, 55), (1000, 56), (1000, 59), (1000, 63)] I I2 ∧ ((KM I I2) ∧ Z59 I I2)) (BM D A) A) args s 0 0 A) (F0 m 54 ls []) := by
            intro n
            induction n with
            | zero =>
              intro x7_54 x6_54 Ia54 La54 H locs ls hI hK hr7_54 hd54 zz54 hmu
              exact absurd hmu (Nat.not_lt_zero _)
            | succ n ih54 =>
              intro x7_54 x6_54 Ia54 La54 H locs ls hI hK hr7_54 hd54 zz54 hmu54 hM hS hl
              refine lv_iload hx hb dX10_dusty_54 (lv_at hl 0 rfl) ?_
              refine lv_sipush (v := (1000)) hx hb dX10_dusty_56 (by decide) ?_
              refine lv_icmp_gt (tgt := 108) hx hb dX10_dusty_59 (by decide) (fun c12 => ?_) (fun c12 => ?_)
              · have hc12 := c12
                have q12 := q_lt hc12
                refine lv_aload_n hx hb dX10_dusty_108 rfl (lv_at hl 3 rfl) ?_
                refine m_getr (1000) 14 (1014) hx hb hts hown hE oc10 hM hJ.1 rfl (by decide) rfl (hJ.2 14 (by decide)).2 (by decide) tb_1191 dX10_dusty_109 ?_
                refine lv_iload_n hx hb dX10_dusty_112 rfl (lv_at hl 5 rfl) ?_
                refine lv_iload hx hb dX10_dusty_113 (lv_at hl 2 rfl) ?_
                refine m_iast (1014) hx hb hE hM hS (hJ.2 14 (by decide)).1 rfl (vp_in_iff.mpr (by omega)) dX10_dusty_115 (fun H locs I13 eI13 hM hS => ?_)
                subst eI13
                have hI := hI.putF (n := 1014) (k := ((a1).toNatClampNeg)) (v := I (1014) (a1).toNatClampNeg) rfl
                have hK := hK.put (n := 1014) (k := ((a1).toNatClampNeg)) (v := I (1014) (a1).toNatClampNeg) (by first | rfl | simp [inR])
                have zt14 : Z59 I (u2 Ia54 (1014) ((a1).toNatClampNeg) (I (1014) (a1).toNatClampNeg)) := zz54.pt (fun z => absurd z.1 (by decide))
                refine lv_iload hx hb dX10_dusty_116 (lv_at hl 1 rfl) ?_
                exact m_iret hx hb hr hlocks hM hS (Nat.le_of_ble_eq_true rfl) (Nat.le_of_ble_eq_true rfl) ⟨_, _, rfl, hI, hK, ⟨(TRM.fin hd54 (live_st (n := 14) EqV.rf) hwas), zt14⟩⟩ dX10_dusty_118
              · have hc12 := c12
                have q12 := q_nlt hc12
                refine lv_iload hx hb dX10_dusty_62 (lv_at hl 1 rfl) ?_
                refine lv_bipush (v := (-2)) hx hb dX10_dusty_64 (by decide) ?_
                refine lv_icmp_ne (tgt := 108) hx hb dX10_dusty_66 (by decide) (fun c15 => ?_) (fun c15 => ?_)
                · have hc15 := c15
                  have q15 := q_ne hc15
                  refine lv_aload_n hx hb dX10_dusty_108 rfl (lv_at hl 3 rfl) ?_
                  refine m_getr (1000) 14 (1014) hx hb hts hown hE oc10 hM hJ.1 rfl (by decide) rfl (hJ.2 14 (by decide)).2 (by decide) tb_1191 dX10_dusty_109 ?_
                  refine lv_iload_n hx hb dX10_dusty_112 rfl (lv_at hl 5 rfl) ?_
                  refine lv_iload hx hb dX10_dusty_113 (lv_at hl 2 rfl) ?_
                  refine m_iast (1014) hx hb hE hM hS (hJ.2 14 (by decide)).1 rfl (vp_in_iff.mpr (by omega)) dX10_dusty_115 (fun H locs I16 eI16 hM hS => ?_)
                  subst eI16
                  have hI := hI.putF (n := 1014) (k := ((a1).toNatClampNeg)) (v := I (1014) (a1).toNatClampNeg) rfl
                  have hK := hK.put (n := 1014) (k := ((a1).toNatClampNeg)) (v := I (1014) (a1).toNatClampNeg) (by first | rfl | simp [inR])
                  have zt17 : Z59 I (u2 Ia54 (1014) ((a1).toNatClampNeg) (I (1014) (a1).toNatClampNeg)) := zz54.pt (fun z => absurd z.1 (by decide))
                  refine lv_iload hx hb dX10_dusty_116 (lv_at hl 1 rfl) ?_
                  exact m_iret hx hb hr hlocks hM hS (Nat.le_of_ble_eq_true rfl) (Nat.le_of_ble_eq_true rfl) ⟨_, _, rfl, hI, hK, ⟨(TRM.fin hd54 (live_st (n := 14) EqV.rf) hwas), zt17⟩⟩ dX10_dusty_118
                · have hc15 := c15
                  have q15 := q_eq hc15
                  refine lv_aload_n hx hb dX10_dusty_69 rfl (lv_at hl 3 rfl) ?_
                  refine m_getr (1000) 14 (1014) hx hb hts hown hE oc10 hM hJ.1 rfl (by decide) rfl (hJ.2 14 (by decide)).2 (by decide) tb_1191 dX10_dusty_70 ?_
                  refine lv_iload_n hx hb dX10_dusty_73 rfl (lv_at hl 5 rfl) ?_
                  refine lv_iload hx hb dX10_dusty_74 (lv_at hl 0 rfl) ?_
                  refine m_iast (1014) hx hb hE hM hS (hJ.2 14 (by decide)).1 rfl (vp_in_iff.mpr (by omega)) dX10_dusty_76 (fun H locs I18 eI18 hM hS => ?_)
                  subst eI18
                  have hI := hI.putF (n := 1014) (k := ((a1).toNatClampNeg)) (v := x7_54) rfl
                  have hK := hK.put (n := 1014) (k := ((a1).toNatClampNeg)) (v := x7_54) (by first | rfl | simp [inR])
                  have zt19 : Z59 I (u2 Ia54 (1014) ((a1).toNatClampNeg) (x7_54)) := zz54.pt (fun z => absurd z.1 (by decide))
                  refine lv_aload_n hx hb dX10_dusty_77 rfl (lv_at hl 3 rfl) ?_
                  refine lv_iload_n hx hb dX10_dusty_78 rfl (lv_at hl 4 rfl) ?_
                  refine m_callv (m_runV (1000) (As := [.int (a0)]) (rest := []) hx hb hml hown hts hE hM hS hA ce_X10_shines tb_1640 (V_X10_shines_z l D A ad ns (u2 Ia54 (1014) ((a1).toNatClampNeg) (x7_54)) La54 G (a0) hJ hI (by first | omega | decide)) rfl rfl ⟨Nat.le_of_ble_eq_true rfl, Nat.le_of_ble_eq_true rfl⟩ hJ.1 rfl rfl (by decide) rfl hl.1 rfl (Nat.le_of_ble_eq_true rfl) dX10_dusty_79 ⟨Nat.le_of_ble_eq_true rfl, Nat.le_of_ble_eq_true rfl⟩) hS (fun u H locs hw hM hS => ?_)
                  obtain ⟨I20, L21, rfl, hI, hkI20, xI20⟩ := hw
                  have hM : Mem D A ad ns I20 L21 G H := hM
                  have hK := hK.trans hkI20 rfl
                  have zI20 := xI20
                  have zt22a : ZA I20 := zI20
                  refine lv_aload_n hx hb dX10_dusty_82 rfl (lv_at hl 3 rfl) ?_
                  refine m_getr (1000) 50 (1050) hx hb hts hown hE oc10 hM hJ.1 rfl (by decide) rfl (hJ.2 50 (by decide)).2 (by decide) tb_1227 dX10_dusty_83 ?_
                  refine lv_iload_n hx hb dX10_dusty_86 rfl (lv_at hl 6 rfl) ?_
                  refine m_iald (1050) hx hb hE hM (hJ.2 50 (by decide)).1 rfl (vp_in_iff.mpr (by omega)) dX10_dusty_87 ?_
                  refine lv_iload hx hb dX10_dusty_88 (lv_at hl 7 rfl) ?_
                  refine lv_icmp_gt (tgt := 98) hx hb dX10_dusty_90 (by decide) (fun c23 => ?_) (fun c23 => ?_)
                  · have hc23 := c23
                    have q23 := q_lt hc23
                    refine lv_bipush (v := (-2)) hx hb dX10_dusty_98 (by decide) ?_
                    refine lv_istore (lv' := [(6, .int ((-2 : Int32))), (7, .int (x7_54)), (5, .int (I (1014) (a1).toNatClampNeg)), (0, .ref (ad (1000))), (1, .int (a0)), (2, .int (a1)), (3, .int (a2)), (4, .int (a3))]) hx hb dX10_dusty_100 hl (by decide) rfl (fun ls hl => ?_)
                    obtain ⟨v24, ev24⟩ : ∃ z : Int32, z = x7_54 + Int32.ofInt (1) := ⟨_, rfl⟩
                    have tv24 := a_inc ev24 (by decide) (by omega) (by omega)
                    refine lv_iinc (v := v24) (lv' := [(7, .int (v24)), (6, .int ((-2 : Int32))), (5, .int (I (1014) (a1).toNatClampNeg)), (0, .ref (ad (1000))), (1, .int (a0)), (2, .int (a1)), (3, .int (a2)), (4, .int (a3))]) hx hb dX10_dusty_102 hl (k := 1) rfl ev24.symm (by decide) rfl (fun ls hl => ?_)
                    refine lv_goto (tgt := 54) hx hb dX10_dusty_105 (by decide) ?_
                    exact ih54 (v24) ((-2 : Int32)) I20 L21 _ _ ls hI hK (by first | omega | decide) (hd54.step (EqV.tr (live_st (n := 14) EqV.rf) (live_fr hkI20 rfl))) (ZA.z zt22a) (by omega) hM hS (lv_sub hl [0, 1, 2, 3, 4, 5, 6, 7] rfl)
                  · have hc23 := c23
                    have q23 := q_nlt hc23
                    refine lv_iload hx hb dX10_dusty_93 (lv_at hl 0 rfl) ?_
                    refine lv_goto (tgt := 100) hx hb dX10_dusty_95 (by decide) ?_
                    refine lv_istore (lv' := [(6, .int (x7_54)), (7, .int (x7_54)), (5, .int (I (1014) (a1).toNatClampNeg)), (0, .ref (ad (1000))), (1, .int (a0)), (2, .int (a1)), (3, .int (a2)), (4, .int (a3))]) hx hb dX10_dusty_100 hl (by decide) rfl (fun ls hl => ?_)
                    obtain ⟨v25, ev25⟩ : ∃ z : Int32, z = x7_54 + Int32.ofInt (1) := ⟨_, rfl⟩
                    have tv25 := a_inc ev25 (by decide) (by omega) (by omega)
                    refine lv_iinc (v := v25) (lv' := [(7, .int (v25)), (6, .int (x7_54)), (5, .int (I (1014) (a1).toNatClampNeg)), (0, .ref (ad (1000))), (1, .int (a0)), (2, .int (a1)), (3, .int (a2)), (4, .int (a3))]) hx hb dX10_dusty_102 hl (k := 1) rfl ev25.symm (by decide) rfl (fun ls hl => ?_)
                    refine lv_goto (tgt := 54) hx hb dX10_dusty_105 (by decide) ?_
                    exact ih54 (v25) (x7_54) I20 L21 _ _ ls hI hK (by first | omega | decide) (hd54.step (EqV.tr (live_st (n := 14) EqV.rf) (live_fr hkI20 rfl))) (ZA.z zt22a) (by omega) hM hS (lv_sub hl [0, 1, 2, 3, 4, 5, 6, 7] rfl)
          exact loop54 (_ + 1) (0) ((-2 : Int32)) I L _ _ ls hI hK (by first | omega | decide) (TRM.rf EqV.rf) Z59.rf (Nat.lt_succ_self _) hM hS (lv_sub hl [0, 1, 2, 3, 4, 5, 6, 7] rfl)
        · have hc11 := c11
          have q11 := xr10.f hc11
          refine lv_iconst (v := (-1)) hx hb dX10_dusty_37 (by decide) ?_
          exact m_iret hx hb hr hlocks hM hS (Nat.le_of_ble_eq_true rfl) (Nat.le_of_ble_eq_true rfl) ⟨_, _, rfl, hI, hK, ⟨EqV.rf, Z59.rf⟩⟩ dX10_dusty_38
set_option maxHeartbeats 4000000 in
set_option maxRecDepth 20000 in
theorem V_X10_owned_t_z (l : Launch) (D : va_G) (A : Nat → Prop) (ad : Nat → Nat) (ns : List Nat) (I : MI) (L : ML) (G : MG) (a0 : Int32) (a1 : Int32) (hJ : SGM ns G) (hI : INV I) : Met l yX10_owned (wd yX10_owned cX10_owned 5 (some .int)) ({ frames := 5, cells := 0, slots := 0, locals := 128 }) (va_Pc [.ref (ad (1000)), .int a0, .int a1] (PM D A ad ns I L G)) (va_Qi (fun r u => ∃ I2 L2, u = (ad, ns, I2, L2, G) ∧ INV I2 ∧ Kp [(1015, 1016), (1045, 1051), (1058, 1059), (1061, 1063), (1068, 1069)] [(1000, 51), (1000, 52), (1000, 53), (1000, 54), (1000, 55), (1000, 56), (1000, 59), (1000, 63)] I I2 ∧ ((KM I I2) ∧ Z59 I I2)) (BM D A) A) 0 0 A := by
  refine m_ofW (by decide) (Nat.le_of_ble_eq_true rfl) ?_
  intro p e s m below meth c ls args hC hE hM hA hS hl
  obtain ⟨hx, hb, hml, hown, hts, hr, hlocks, hin⟩ := hC
  have km1000000 : (-1000000 : Int32).toInt = -1000000 := by decide
  have k0 : (0 : Int32).toInt = 0 := by decide
  have k1 : (1 : Int32).toInt = 1 := by decide
  have k8 : (8 : Int32).toInt = 8 := by decide
  have kl0 : (0 : Int64).toInt = 0 := by decide
  have kl9 : (9 : Int64).toInt = 9 := by decide
  have hK : Kp [(1015, 1016), (1045, 1051), (1058, 1059), (1061, 1063), (1068, 1069)] [(1000, 51), (1000, 52), (1000, 53), (1000, 54), (1000, 55), (1000, 56), (1000, 59), (1000, 63)] I I := Kp.rf
  have hl : lv_has ls 5 [(0, .ref (ad (1000))), (1, .int (a0)), (2, .int (a1))] := hl
  refine lv_aload_n hx hb dX10_owned_0 rfl (lv_at hl 0 rfl) ?_
  refine lv_iload_n hx hb dX10_owned_1 rfl (lv_at hl 1 rfl) ?_
  refine m_calli (m_runV (1000) (As := [.int (a0)]) (rest := []) hx hb hml hown hts hE hM hS hA ce_X10_isBright tb_1698 (V_X10_isBright l D A ad ns I L G (a0) hJ hI) rfl rfl ⟨Nat.le_of_ble_eq_true rfl, Nat.le_of_ble_eq_true rfl⟩ hJ.1 rfl rfl (by decide) rfl hl.1 rfl (Nat.le_of_ble_eq_true rfl) dX10_owned_2 ⟨Nat.le_of_ble_eq_true rfl, Nat.le_of_ble_eq_true rfl⟩) hS (fun r1 u H locs hw hM hS => ?_)
  obtain ⟨rfl, xr1⟩ := hw
  have hM : Mem D A ad ns I L G H := hM
  refine lv_if_eq (tgt := 20) hx hb dX10_owned_5 (by decide) (fun c2 => ?_) (fun c2 => ?_)
  · have hc2 := c2
    have q2 := q_eq hc2
    refine lv_ldcw (v := (-1000000)) hx hb hown (hts _ tb_1730) dX10_owned_20 ?_
    exact m_iret hx hb hr hlocks hM hS (Nat.le_of_ble_eq_true rfl) (Nat.le_of_ble_eq_true rfl) ⟨_, _, rfl, hI, hK, ⟨EqV.rf, Z59.rf⟩⟩ dX10_owned_23
  · have hc2 := c2
    have q2 := q_ne hc2
    refine lv_iload_n hx hb dX10_owned_8 rfl (lv_at hl 2 rfl) ?_
    refine lv_i2l hx hb dX10_owned_9 rfl ?_
    refine lv_topl (fun v3 ev3 => ?_)
    have tv3 := q_i2l ev3
    refine lv_lconst (v := 0) hx hb dX10_owned_10 (by decide) ?_
    refine lv_ldc2 (v := (9)) hx hb hown (hts _ tb_1457) dX10_owned_11 ?_
    refine m_calli (m_runS (As := [.long (v3), .long (0), .long ((9 : Int64))]) (rest := []) hx hb hml hown hts hE hM hS hA ce_X10_in tb_1425 (V_X10_in l D A ad ns I L G (v3) (0) ((9 : Int64)) hI) rfl rfl ⟨Nat.le_of_ble_eq_true rfl, Nat.le_of_ble_eq_true rfl⟩  rfl hl.1 rfl (Nat.le_of_ble_eq_true rfl) dX10_owned_14 ⟨Nat.le_of_ble_eq_true rfl, Nat.le_of_ble_eq_true rfl⟩) hS (fun r4 u H locs hw hM hS => ?_)
    obtain ⟨rfl, xr4⟩ := hw
    have hM : Mem D A ad ns I L G H := hM
    have yr4 := bo01 xr4
    refine lv_if_ne (tgt := 24) hx hb dX10_owned_17 (by decide) (fun c5 => ?_) (fun c5 => ?_)
    · have hc5 := c5
      have q5 := xr4.t hc5
      refine lv_aload_n hx hb dX10_owned_24 rfl (lv_at hl 0 rfl) ?_
      refine lv_iload_n hx hb dX10_owned_25 rfl (lv_at hl 1 rfl) ?_
      refine m_callv (m_runV (1000) (As := [.int (a0)]) (rest := []) hx hb hml hown hts hE hM hS hA ce_X10_shines tb_1640 (V_X10_shines_z l D A ad ns I L G (a0) hJ hI (by first | omega | decide)) rfl rfl ⟨Nat.le_of_ble_eq_true rfl, Nat.le_of_ble_eq_true rfl⟩ hJ.1 rfl rfl (by decide) rfl hl.1 rfl (Nat.le_of_ble_eq_true rfl) dX10_owned_26 ⟨Nat.le_of_ble_eq_true rfl, Nat.le_of_ble_eq_true rfl⟩) hS (fun u H locs hw hM hS => ?_)
      obtain ⟨I6, L7, rfl, hI, hkI6, xI6⟩ := hw
      have hM : Mem D A ad ns I6 L7 G H := hM
      have hK := hK.trans hkI6 rfl
      have zI6 := xI6
      have zt8a : ZA I6 := zI6
      refine lv_aload_n hx hb dX10_owned_29 rfl (lv_at hl 0 rfl) ?_
      refine m_calli (m_runV (1000) (As := []) (rest := []) hx hb hml hown hts hE hM hS hA ce_X10_allGot tb_1707 (V_X10_allGot l D A ad ns I6 L7 G hJ hI) rfl rfl ⟨Nat.le_of_ble_eq_true rfl, Nat.le_of_ble_eq_true rfl⟩ hJ.1 rfl rfl (by decide) rfl hl.1 rfl (Nat.le_of_ble_eq_true rfl) dX10_owned_30 ⟨Nat.le_of_ble_eq_true rfl, Nat.le_of_ble_eq_true rfl⟩) hS (fun r9 u H locs hw hM hS => ?_)
      obtain ⟨rfl, xr9⟩ := hw
      have hM : Mem D A ad ns I6 L7 G H := hM
      refine lv_istore_n (lv' := [(3, .int (r9)), (0, .ref (ad (1000))), (1, .int (a0)), (2, .int (a1))]) hx hb dX10_owned_33 rfl hl (by decide) rfl (fun ls hl => ?_)
      refine lv_aload_n hx hb dX10_owned_34 rfl (lv_at hl 1 rfl) ?_
      refine m_getr (1000) 15 (1015) hx hb hts hown hE oc10 hM hJ.1 rfl (by decide) rfl (hJ.2 15 (by decide)).2 (by decide) tb_1192 dX10_owned_35 ?_
      refine lv_aload_n hx hb dX10_owned_38 rfl (lv_at hl 1 rfl) ?_
      refine m_getr (1000) 68 (1068) hx hb hts hown hE oc10 hM hJ.1 rfl (by decide) rfl (hJ.2 68 (by decide)).2 (by decide) tb_1245 dX10_owned_39 ?_
      refine m_callv (m_runS (As := [.ref (ad (1015)), .ref (ad (1068))]) (rest := []) hx hb hml hown hts hE hM hS hA ce_X10_copy tb_1723 (V_X10_copy_1015_1068_t l D A ad ns I6 L7 G hJ hI) rfl rfl ⟨Nat.le_of_ble_eq_true rfl, Nat.le_of_ble_eq_true rfl⟩  rfl hl.1 rfl (Nat.le_of_ble_eq_true rfl) dX10_owned_42 ⟨Nat.le_of_ble_eq_true rfl, Nat.le_of_ble_eq_true rfl⟩) hS (fun u H locs hw hM hS => ?_)
      obtain ⟨I10, L11, rfl, hI, hkI10, xI10⟩ := hw
      have hM : Mem D A ad ns I10 L11 G H := hM
      have hK := hK.trans hkI10 rfl
      have zt12a : ZA I10 := zt8a.eq (hkI10.get 1000 59 rfl)
      refine lv_iconst (v := (0)) hx hb dX10_owned_45 (by decide) ?_
      refine lv_istore (lv' := [(4, .int (0)), (3, .int (r9)), (0, .ref (ad (1000))), (1, .int (a0)), (2, .int (a1))]) hx hb dX10_owned_46 hl (by decide) rfl (fun ls hl => ?_)
      have loop48 : ∀ (n : Nat) (x4_48 : Int32) (Ia48 : MI) (La48 : ML) (H : Heap) (locs : List Loc) (ls : Array Slot), INV Ia48 → Kp [(1015, 1016), (1045, 1051), (1058, 1059), (1061, 1063), (1068, 1069)] [(1000, 51), (1000, 52), (1000, 53), (1000, 54), (1000, 55), (1000, 56), (1000, 59), (1000, 63)] I Ia48 → (0 ≤ x4_48.toInt ∧ x4_48.toInt ≤ 24) → (∀ j : Nat, j < 24 → Ia48 1068 j = I 1015 j) → (Z59 I Ia48) → (24 - x4_48.toInt).toNat < n → Mem D A ad ns Ia48 La48 G H → va_S A s.heap H locs → lv_has ls 5 [(4, .int (x4_48)), (3, .int (r9)), (0, .ref (ad (1000))), (1, .int (a0)), (2, .int (a1))] → W p l e ({ frames := 5, cells := 0, slots := 0, locals := 128 } : Room) s m args below meth c H locs 0 0 (MQ below (va_Qi (fun r u => ∃ I2 L2, u = (ad, ns, I2, L2, G) ∧ INV I2 ∧ Kp [(1015, 1016), (1045, 1051), (1058, 1059), (1061, 1063), (1068, 1069)] [(1000, 51), (1000, 52), (1000, 53), (1000, 54), (1000, 55), (1000, 56), (1000, 59), (1000, 63)] I I2 ∧ ((KM I I2) ∧ Z59 I I2)) (BM D A) A) args s 0 0 A) (F0 m 48 ls []) := by
        intro n
        induction n with
        | zero =>
          intro x4_48 Ia48 La48 H locs ls hI hK hr4_48 hkb48 zz48 hmu
          exact absurd hmu (Nat.not_lt_zero _)
        | succ n ih48 =>
          intro x4_48 Ia48 La48 H locs ls hI hK hr4_48 hkb48 zz48 hmu48 hM hS hl
          refine lv_iload hx hb dX10_owned_48 (lv_at hl 0 rfl) ?_
          refine lv_aload_n hx hb dX10_owned_50 rfl (lv_at hl 2 rfl) ?_
          refine m_getr (1000) 1 (1001) hx hb hts hown hE oc10 hM hJ.1 rfl (by decide) rfl (hJ.2 1 (by decide)).2 (by decide) tb_1178 dX10_owned_51 ?_
          refine lv_bipush (v := (8)) hx hb dX10_owned_54 (by decide) ?_
          refine m_iald (1001) hx hb hE hM (hJ.2 1 (by decide)).1 rfl (vp_in_iff.mpr (by decide)) dX10_owned_56 ?_
          rw [show (8 : Int32).toNatClampNeg = 8 from rfl]
          have g13 := hI.get (1001) 8 (lo := 0) (hi := 24) rfl
          refine lv_icmp_ge (tgt := 95) hx hb dX10_owned_57 (by decide) (fun c14 => ?_) (fun c14 => ?_)
          · have hc14 := c14
            have q14 := q_le hc14
            refine lv_aload_n hx hb dX10_owned_95 rfl (lv_at hl 2 rfl) ?_
            refine lv_iload_n hx hb dX10_owned_96 rfl (lv_at hl 3 rfl) ?_
            refine m_callv (m_runV (1000) (As := [.int (a0)]) (rest := []) hx hb hml hown hts hE hM hS hA ce_X10_shines tb_1640 (V_X10_shines_z l D A ad ns Ia48 La48 G (a0) hJ hI (by first | omega | decide)) rfl rfl ⟨Nat.le_of_ble_eq_true rfl, Nat.le_of_ble_eq_true rfl⟩ hJ.1 rfl rfl (by decide) rfl hl.1 rfl (Nat.le_of_ble_eq_true rfl) dX10_owned_97 ⟨Nat.le_of_ble_eq_true rfl, Nat.le_of_ble_eq_true rfl⟩) hS (fun u H locs hw hM hS => ?_)
            obtain ⟨I15, L16, rfl, hI, hkI15, xI15⟩ := hw
            have hM : Mem D A ad ns I15 L16 G H := hM
            have hK := hK.trans hkI15 rfl
            have zI15 := xI15
            have zt17a : ZA I15 := zI15
            refine lv_aload_n hx hb dX10_owned_100 rfl (lv_at hl 2 rfl) ?_
            refine m_getr (1000) 68 (1068) hx hb hts hown hE oc10 hM hJ.1 rfl (by decide) rfl (hJ.2 68 (by decide)).2 (by decide) tb_1245 dX10_owned_101 ?_
            refine lv_aload_n hx hb dX10_owned_104 rfl (lv_at hl 2 rfl) ?_
            refine m_getr (1000) 15 (1015) hx hb hts hown hE oc10 hM hJ.1 rfl (by decide) rfl (hJ.2 15 (by decide)).2 (by decide) tb_1192 dX10_owned_105 ?_
            refine m_callv (m_runS (As := [.ref (ad (1068)), .ref (ad (1015))]) (rest := []) hx hb hml hown hts hE hM hS hA ce_X10_copy tb_1723 (V_X10_copy_1068_1015_t l D A ad ns I15 L16 G hJ hI) rfl rfl ⟨Nat.le_of_ble_eq_true rfl, Nat.le_of_ble_eq_true rfl⟩  rfl hl.1 rfl (Nat.le_of_ble_eq_true rfl) dX10_owned_108 ⟨Nat.le_of_ble_eq_true rfl, Nat.le_of_ble_eq_true rfl⟩) hS (fun u H locs hw hM hS => ?_)
            obtain ⟨I18, L19, rfl, hI, hkI18, xI18⟩ := hw
            have hM : Mem D A ad ns I18 L19 G H := hM
            have hK := hK.trans hkI18 rfl
            have zt20a : ZA I18 := zt17a.eq (hkI18.get 1000 59 rfl)
            refine lv_iload_n hx hb dX10_owned_111 rfl (lv_at hl 1 rfl) ?_
            refine lv_aload_n hx hb dX10_owned_112 rfl (lv_at hl 2 rfl) ?_
            refine m_calli (m_runV (1000) (As := []) (rest := [.int (r9)]) hx hb hml hown hts hE hM hS hA ce_X10_allGot tb_1707 (V_X10_allGot l D A ad ns I18 L19 G hJ hI) rfl rfl ⟨Nat.le_of_ble_eq_true rfl, Nat.le_of_ble_eq_true rfl⟩ hJ.1 rfl rfl (by decide) rfl hl.1 rfl (Nat.le_of_ble_eq_true rfl) dX10_owned_113 ⟨Nat.le_of_ble_eq_true rfl, Nat.le_of_ble_eq_true rfl⟩) hS (fun r21 u H locs hw hM hS => ?_)
            obtain ⟨rfl, xr21⟩ := hw
            have hM : Mem D A ad ns I18 L19 G H := hM
            refine lv_isub hx hb dX10_owned_116 ?_
            refine lv_topi (fun v22 ev22 => ?_)
            exact m_iret hx hb hr hlocks hM hS (Nat.le_of_ble_eq_true rfl) (Nat.le_of_ble_eq_true rfl) ⟨_, _, rfl, hI, hK, ⟨(KM.of [1015] hK rfl (fun n hn k hk => by simp only [List.mem_cons, List.not_mem_nil, or_false] at hn; subst hn; exact (fun k hk => (congrFun (rfl) k).trans ((xI18 k hk).trans ((congrFun ((hkI15.getA 1068 rfl)) k).trans (hkb48 k hk)))) k hk)), (ZA.z zt20a)⟩⟩ dX10_owned_117
          · have hc14 := c14
            have q14 := q_nle hc14
            refine lv_aload_n hx hb dX10_owned_60 rfl (lv_at hl 2 rfl) ?_
            refine m_getr (1000) 15 (1015) hx hb hts hown hE oc10 hM hJ.1 rfl (by decide) rfl (hJ.2 15 (by decide)).2 (by decide) tb_1192 dX10_owned_61 ?_
            refine lv_iload hx hb dX10_owned_64 (lv_at hl 0 rfl) ?_
            refine lv_aload_n hx hb dX10_owned_66 rfl (lv_at hl 2 rfl) ?_
            refine m_getr (1000) 13 (1013) hx hb hts hown hE oc10 hM hJ.1 rfl (by decide) rfl (hJ.2 13 (by decide)).2 (by decide) tb_1190 dX10_owned_67 ?_
            refine lv_iload hx hb dX10_owned_70 (lv_at hl 0 rfl) ?_
            refine m_iald (1013) hx hb hE hM (hJ.2 13 (by decide)).1 rfl (vp_in_iff.mpr (by omega)) dX10_owned_72 ?_
            refine lv_iload_n hx hb dX10_owned_73 rfl (lv_at hl 4 rfl) ?_
            refine lv_icmp_ne (tgt := 81) hx hb dX10_owned_74 (by decide) (fun c23 => ?_) (fun c23 => ?_)
            · have hc23 := c23
              have q23 := q_ne hc23
              refine lv_aload_n hx hb dX10_owned_81 rfl (lv_at hl 2 rfl) ?_
              refine m_getr (1000) 15 (1015) hx hb hts hown hE oc10 hM hJ.1 rfl (by decide) rfl (hJ.2 15 (by decide)).2 (by decide) tb_1192 dX10_owned_82 ?_
              refine lv_iload hx hb dX10_owned_85 (lv_at hl 0 rfl) ?_
              refine m_iald (1015) hx hb hE hM (hJ.2 15 (by decide)).1 rfl (vp_in_iff.mpr (by omega)) dX10_owned_87 ?_
              refine m_iast (1015) hx hb hE hM hS (hJ.2 15 (by decide)).1 rfl (vp_in_iff.mpr (by omega)) dX10_owned_88 (fun H locs I24 eI24 hM hS => ?_)
              subst eI24
              have hI := hI.putF (n := 1015) (k := ((x4_48).toNatClampNeg)) (v := Ia48 (1015) (x4_48).toNatClampNeg) rfl
              have hK := hK.put (n := 1015) (k := ((x4_48).toNatClampNeg)) (v := Ia48 (1015) (x4_48).toNatClampNeg) (by first | rfl | simp [inR])
              have zt25 : Z59 I (u2 Ia48 (1015) ((x4_48).toNatClampNeg) (Ia48 (1015) (x4_48).toNatClampNeg)) := zz48.pt (fun z => absurd z.1 (by decide))
              obtain ⟨v26, ev26⟩ : ∃ z : Int32, z = x4_48 + Int32.ofInt (1) := ⟨_, rfl⟩
              have tv26 := a_inc ev26 (by decide) (by omega) (by omega)
              refine lv_iinc (v := v26) (lv' := [(4, .int (v26)), (3, .int (r9)), (0, .ref (ad (1000))), (1, .int (a0)), (2, .int (a1))]) hx hb dX10_owned_89 hl (k := 0) rfl ev26.symm (by decide) rfl (fun ls hl => ?_)
              refine lv_goto (tgt := 48) hx hb dX10_owned_92 (by decide) ?_
              exact ih48 (v26) (u2 Ia48 (1015) ((x4_48).toNatClampNeg) (Ia48 (1015) (x4_48).toNatClampNeg)) La48 _ _ ls hI hK (by first | omega | decide) (fun j hj => (congrFun ((show (u2 Ia48 (1015) ((x4_48).toNatClampNeg) (Ia48 (1015) (x4_48).toNatClampNeg)) 1068 = Ia48 1068 from by funext zz; simp [u2_v])) j).trans (hkb48 j hj)) zt25 (by omega) hM hS (lv_sub hl [0, 1, 2, 3, 4] rfl)
            · have hc23 := c23
              have q23 := q_eq hc23
              refine lv_iconst (v := (1)) hx hb dX10_owned_77 (by decide) ?_
              refine lv_goto (tgt := 88) hx hb dX10_owned_78 (by decide) ?_
              refine m_iast (1015) hx hb hE hM hS (hJ.2 15 (by decide)).1 rfl (vp_in_iff.mpr (by omega)) dX10_owned_88 (fun H locs I27 eI27 hM hS => ?_)
              subst eI27
              have hI := hI.putF (n := 1015) (k := ((x4_48).toNatClampNeg)) (v := 1) rfl
              have hK := hK.put (n := 1015) (k := ((x4_48).toNatClampNeg)) (v := 1) (by first | rfl | simp [inR])
              have zt28 : Z59 I (u2 Ia48 (1015) ((x4_48).toNatClampNeg) (1)) := zz48.pt (fun z => absurd z.1 (by decide))
              obtain ⟨v29, ev29⟩ : ∃ z : Int32, z = x4_48 + Int32.ofInt (1) := ⟨_, rfl⟩
              have tv29 := a_inc ev29 (by decide) (by omega) (by omega)
              refine lv_iinc (v := v29) (lv' := [(4, .int (v29)), (3, .int (r9)), (0, .ref (ad (1000))), (1, .int (a0)), (2, .int (a1))]) hx hb dX10_owned_89 hl (k := 0) rfl ev29.symm (by decide) rfl (fun ls hl => ?_)
              refine lv_goto (tgt := 48) hx hb dX10_owned_92 (by decide) ?_
              exact ih48 (v29) (u2 Ia48 (1015) ((x4_48).toNatClampNeg) (1)) La48 _ _ ls hI hK (by first | omega | decide) (fun j hj => (congrFun ((show (u2 Ia48 (1015) ((x4_48).toNatClampNeg) (1)) 1068 = Ia48 1068 from by funext zz; simp [u2_v])) j).trans (hkb48 j hj)) zt28 (by omega) hM hS (lv_sub hl [0, 1, 2, 3, 4] rfl)
      exact loop48 (_ + 1) (0) I10 L11 _ _ ls hI hK (by first | omega | decide) (fun j hj => (congrFun (rfl) j).trans ((xI10 j hj).trans (congrFun ((hkI6.getA 1015 rfl)) j))) (ZA.z zt12a) (Nat.lt_succ_self _) hM hS (lv_sub hl [0, 1, 2, 3, 4] rfl)
    · have hc5 := c5
      have q5 := xr4.f hc5
      refine lv_ldcw (v := (-1000000)) hx hb hown (hts _ tb_1730) dX10_owned_20 ?_
      exact m_iret hx hb hr hlocks hM hS (Nat.le_of_ble_eq_true rfl) (Nat.le_of_ble_eq_true rfl) ⟨_, _, rfl, hI, hK, ⟨EqV.rf, Z59.rf⟩⟩ dX10_owned_23
set_option maxHeartbeats 4000000 in
set_option maxRecDepth 20000 in
theorem V_X10_dark_t_z (l : Launch) (D : va_G) (A : Nat → Prop) (ad : Nat → Nat) (ns : List Nat) (I : MI) (L : ML) (G : MG) (a0 : Int32) (a1 : Int32) (a2 : Int32) (hJ : SGM ns G) (hI : INV I) (hLM : LWM I) : Met l yX10_dark (wd yX10_dark cX10_dark 6 (some .int)) ({ frames := 6, cells := 0, slots := 0, locals := 151 }) (va_Pc [.ref (ad (1000)), .int a0, .int a1, .int a2] (PM D A ad ns I L G)) (va_Qi (fun r u => ∃ I2 L2, u = (ad, ns, I2, L2, G) ∧ INV I2 ∧ Kp [(1009, 1010), (1014, 1015), (1023, 1024), (1045, 1051), (1058, 1059), (1061, 1063), (1064, 1065), (1067, 1068), (1069, 1071)] [(1000, 51), (1000, 52), (1000, 53), (1000, 54), (1000, 55), (1000, 56), (1000, 59), (1000, 63), (1000, 65), (1000, 74), (1000, 75), (1001, 5), (1001, 6)] I I2 ∧ ((KM I I2) ∧ Z59 I I2)) (BM D A) A) 0 0 A := by
  refine m_ofW (by decide) (Nat.le_of_ble_eq_true rfl) ?_
  intro p e s m below meth c ls args hC hE hM hA hS hl
  obtain ⟨hx, hb, hml, hown, hts, hr, hlocks, hin⟩ := hC
  have km1 : (-1 : Int32).toInt = -1 := by decide
  have k0 : (0 : Int32).toInt = 0 := by decide
  have k1 : (1 : Int32).toInt = 1 := by decide
  have k5 : (5 : Int32).toInt = 5 := by decide
  have k12 : (12 : Int32).toInt = 12 := by decide
  have kl0 : (0 : Int64).toInt = 0 := by decide
  have kl9999999 : (9999999 : Int64).toInt = 9999999 := by decide
  have hK : Kp [(1009, 1010), (1014, 1015), (1023, 1024), (1045, 1051), (1058, 1059), (1061, 1063), (1064, 1065), (1067, 1068), (1069, 1071)] [(1000, 51), (1000, 52), (1000, 53), (1000, 54), (1000, 55), (1000, 56), (1000, 59), (1000, 63), (1000, 65), (1000, 74), (1000, 75), (1001, 5), (1001, 6)] I I := Kp.rf
  have hl : lv_has ls 6 [(0, .ref (ad (1000))), (1, .int (a0)), (2, .int (a1)), (3, .int (a2))] := hl
  refine lv_aload_n hx hb dX10_dark_0 rfl (lv_at hl 0 rfl) ?_
  refine lv_iload_n hx hb dX10_dark_1 rfl (lv_at hl 1 rfl) ?_
  refine m_calli (m_runV (1000) (As := [.int (a0)]) (rest := []) hx hb hml hown hts hE hM hS hA ce_X10_isLaw tb_1608 (V_X10_isLaw l D A ad ns I L G (a0) hJ hI) rfl rfl ⟨Nat.le_of_ble_eq_true rfl, Nat.le_of_ble_eq_true rfl⟩ hJ.1 rfl rfl (by decide) rfl hl.1 rfl (Nat.le_of_ble_eq_true rfl) dX10_dark_2 ⟨Nat.le_of_ble_eq_true rfl, Nat.le_of_ble_eq_true rfl⟩) hS (fun r1 u H locs hw hM hS => ?_)
  obtain ⟨rfl, xr1⟩ := hw
  have hM : Mem D A ad ns I L G H := hM
  have yr1 := bo01 xr1
  have g2 := hI.get 1000 28 (lo := 0) (hi := 6) rfl
  refine lv_if_eq (tgt := 28) hx hb dX10_dark_5 (by decide) (fun c3 => ?_) (fun c3 => ?_)
  · have hc3 := c3
    have q3 := xr1.f hc3
    refine lv_iconst (v := (-1)) hx hb dX10_dark_28 (by decide) ?_
    exact m_iret hx hb hr hlocks hM hS (Nat.le_of_ble_eq_true rfl) (Nat.le_of_ble_eq_true rfl) ⟨_, _, rfl, hI, hK, ⟨EqV.rf, Z59.rf⟩⟩ dX10_dark_29
  · have hc3 := c3
    have q3 := xr1.t hc3
    refine lv_aload_n hx hb dX10_dark_8 rfl (lv_at hl 0 rfl) ?_
    refine lv_iload_n hx hb dX10_dark_9 rfl (lv_at hl 2 rfl) ?_
    refine m_calli (m_runV (1000) (As := [.int (a1)]) (rest := []) hx hb hml hown hts hE hM hS hA ce_X10_isYard tb_1686 (V_X10_isYard l D A ad ns I L G (a1) hJ hI) rfl rfl ⟨Nat.le_of_ble_eq_true rfl, Nat.le_of_ble_eq_true rfl⟩ hJ.1 rfl rfl (by decide) rfl hl.1 rfl (Nat.le_of_ble_eq_true rfl) dX10_dark_10 ⟨Nat.le_of_ble_eq_true rfl, Nat.le_of_ble_eq_true rfl⟩) hS (fun r4 u H locs hw hM hS => ?_)
    obtain ⟨rfl, xr4⟩ := hw
    have hM : Mem D A ad ns I L G H := hM
    have yr4 := bo01 xr4
    have g5 := hI.get 1001 9 (lo := 0) (hi := 8) rfl
    refine lv_if_eq (tgt := 28) hx hb dX10_dark_13 (by decide) (fun c6 => ?_) (fun c6 => ?_)
    · have hc6 := c6
      have q6 := xr4.f hc6
      refine lv_iconst (v := (-1)) hx hb dX10_dark_28 (by decide) ?_
      exact m_iret hx hb hr hlocks hM hS (Nat.le_of_ble_eq_true rfl) (Nat.le_of_ble_eq_true rfl) ⟨_, _, rfl, hI, hK, ⟨EqV.rf, Z59.rf⟩⟩ dX10_dark_29
    · have hc6 := c6
      have q6 := xr4.t hc6
      refine lv_iload_n hx hb dX10_dark_16 rfl (lv_at hl 3 rfl) ?_
      refine lv_i2l hx hb dX10_dark_17 rfl ?_
      refine lv_topl (fun v7 ev7 => ?_)
      have tv7 := q_i2l ev7
      refine lv_lconst (v := 0) hx hb dX10_dark_18 (by decide) ?_
      refine lv_ldc2 (v := (9999999)) hx hb hown (hts _ tb_1472) dX10_dark_19 ?_
      refine m_calli (m_runS (As := [.long (v7), .long (0), .long ((9999999 : Int64))]) (rest := []) hx hb hml hown hts hE hM hS hA ce_X10_in tb_1425 (V_X10_in l D A ad ns I L G (v7) (0) ((9999999 : Int64)) hI) rfl rfl ⟨Nat.le_of_ble_eq_true rfl, Nat.le_of_ble_eq_true rfl⟩  rfl hl.1 rfl (Nat.le_of_ble_eq_true rfl) dX10_dark_22 ⟨Nat.le_of_ble_eq_true rfl, Nat.le_of_ble_eq_true rfl⟩) hS (fun r8 u H locs hw hM hS => ?_)
      obtain ⟨rfl, xr8⟩ := hw
      have hM : Mem D A ad ns I L G H := hM
      have yr8 := bo01 xr8
      refine lv_if_ne (tgt := 30) hx hb dX10_dark_25 (by decide) (fun c9 => ?_) (fun c9 => ?_)
      · have hc9 := c9
        have q9 := xr8.t hc9
        refine lv_aload_n hx hb dX10_dark_30 rfl (lv_at hl 0 rfl) ?_
        refine m_callv (m_runV (1000) (As := []) (rest := []) hx hb hml hown hts hE hM hS hA ce_X10_keeps tb_1806 (V_X10_keeps_t l D A ad ns I L G hJ hI) rfl rfl ⟨Nat.le_of_ble_eq_true rfl, Nat.le_of_ble_eq_true rfl⟩ hJ.1 rfl rfl (by decide) rfl hl.1 rfl (Nat.le_of_ble_eq_true rfl) dX10_dark_31 ⟨Nat.le_of_ble_eq_true rfl, Nat.le_of_ble_eq_true rfl⟩) hS (fun u H locs hw hM hS => ?_)
        obtain ⟨I10, L11, rfl, hI, hkI10, xI10⟩ := hw
        have hM : Mem D A ad ns I10 L11 G H := hM
        have hK := hK.trans hkI10 rfl
        have zt12 : Z59 I I10 := Z59.rf.eq (hkI10.get 1000 59 rfl)
        refine lv_iconst (v := (0)) hx hb dX10_dark_34 (by decide) ?_
        refine lv_istore (lv' := [(4, .int (0)), (0, .ref (ad (1000))), (1, .int (a0)), (2, .int (a1)), (3, .int (a2))]) hx hb dX10_dark_35 hl (by decide) rfl (fun ls hl => ?_)
        refine lv_iconst (v := (0)) hx hb dX10_dark_37 (by decide) ?_
        refine lv_istore (lv' := [(5, .int (0)), (4, .int (0)), (0, .ref (ad (1000))), (1, .int (a0)), (2, .int (a1)), (3, .int (a2))]) hx hb dX10_dark_38 hl (by decide) rfl (fun ls hl => ?_)
        have hK0 := hkI10
        have loop40 : ∀ (n : Nat) (x5_40 : Int32) (x4_40 : Int32) (Ia40 : MI) (La40 : ML) (H : Heap) (locs : List Loc) (ls : Array Slot), INV Ia40 → Kp [(1009, 1010), (1014, 1015), (1023, 1024), (1045, 1051), (1058, 1059), (1061, 1063), (1064, 1065), (1067, 1068), (1069, 1071)] [(1000, 51), (1000, 52), (1000, 53), (1000, 54), (1000, 55), (1000, 56), (1000, 59), (1000, 63), (1000, 65), (1000, 74), (1000, 75), (1001, 5), (1001, 6)] I Ia40 → (0 ≤ x5_40.toInt ∧ x5_40.toInt ≤ 12) → (KPX I Ia40) → (KM I Ia40) → (Z59 I Ia40) → (12 - x5_40.toInt).toNat < n → Mem D A ad ns Ia40 La40 G H → va_S A s.heap H locs → lv_has ls 6 [(5, .int (x5_40)), (4, .int (x4_40)), (0, .ref (ad (1000))), (1, .int (a0)), (2, .int (a1)), (3, .int (a2))] → W p l e ({ frames := 6, cells := 0, slots := 0, locals := 151 } : Room) s m args below meth c H locs 0 0 (MQ below (va_Qi (fun r u => ∃ I2 L2, u = (ad, ns, I2, L2, G) ∧ INV I2 ∧ Kp [(1009, 1010), (1014, 1015), (1023, 1024), (1045, 1051), (1058, 1059), (1061, 1063), (1064, 1065), (1067, 1068), (1069, 1071)] [(1000, 51), (1000, 52), (1000, 53), (1000, 54), (1000, 55), (1000, 56), (1000, 59), (1000, 63), (1000, 65), (1000, 74), (1000, 75), (1001, 5), (1001, 6)] I I2 ∧ ((KM I I2) ∧ Z59 I I2)) (BM D A) A) args s 0 0 A) (F0 m 40 ls []) := by
          intro n
          induction n with
          | zero =>
            intro x5_40 x4_40 Ia40 La40 H locs ls hI hK hr5_40 hk40 hk40m zz40 hmu
            exact absurd hmu (Nat.not_lt_zero _)
          | succ n ih40 =>
            intro x5_40 x4_40 Ia40 La40 H locs ls hI hK hr5_40 hk40 hk40m zz40 hmu40 hM hS hl
            refine lv_iload hx hb dX10_dark_40 (lv_at hl 0 rfl) ?_
            refine lv_bipush (v := (12)) hx hb dX10_dark_42 (by decide) ?_
            refine lv_icmp_ge (tgt := 93) hx hb dX10_dark_44 (by decide) (fun c13 => ?_) (fun c13 => ?_)
            · have hc13 := c13
              have q13 := q_le hc13
              refine lv_iload hx hb dX10_dark_93 (lv_at hl 1 rfl) ?_
              exact m_iret hx hb hr hlocks hM hS (Nat.le_of_ble_eq_true rfl) (Nat.le_of_ble_eq_true rfl) ⟨_, _, rfl, hI, hK, ⟨hk40m, zz40⟩⟩ dX10_dark_95
            · have hc13 := c13
              have q13 := q_nle hc13
              refine lv_aload_n hx hb dX10_dark_47 rfl (lv_at hl 2 rfl) ?_
              refine m_getr (1000) 1 (1001) hx hb hts hown hE oc10 hM hJ.1 rfl (by decide) rfl (hJ.2 1 (by decide)).2 (by decide) tb_1178 dX10_dark_48 ?_
              refine lv_iconst (v := (5)) hx hb dX10_dark_51 (by decide) ?_
              refine lv_iload hx hb dX10_dark_52 (lv_at hl 0 rfl) ?_
              refine m_iast (1001) hx hb hE hM hS (hJ.2 1 (by decide)).1 rfl (vp_in_iff.mpr (by decide)) dX10_dark_54 (fun H locs I14 eI14 hM hS => ?_)
              rw [show (5 : Int32).toNatClampNeg = 5 from rfl] at eI14
              subst eI14
              have hI := hI.put (n := 1001) (k := 5) (v := x5_40) (lo := 0) (hi := 11) rfl (by first | omega | decide)
              have hK := hK.put (n := 1001) (k := 5) (v := x5_40) (by first | rfl | simp [inR])
              have kp15 : KPX I (u2 Ia40 (1001) 5 (x5_40)) := KPX.of hk40 (by funext zz; simp [u2_v]) (by funext zz; simp [u2_v]) (by funext zz; simp [u2_v]) (by simp [u2_v]) (by simp [u2_v])
              have zt16 : Z59 I (u2 Ia40 (1001) 5 (x5_40)) := zz40.pt (by decide)
              refine lv_aload_n hx hb dX10_dark_55 rfl (lv_at hl 2 rfl) ?_
              refine lv_iload_n hx hb dX10_dark_56 rfl (lv_at hl 3 rfl) ?_
              refine m_callv (m_runV (1000) (As := [.int (a0)]) (rest := []) hx hb hml hown hts hE hM hS hA ce_X10_goesDay tb_1613 (V_X10_goesDay_z l D A ad ns (u2 Ia40 (1001) 5 (x5_40)) La40 G (a0) hJ hI ((hLM (a0).toNatClampNeg (by have ta := tn (i := a0) (by omega); omega)).kp hK rfl) (by first | omega | decide)) rfl rfl ⟨Nat.le_of_ble_eq_true rfl, Nat.le_of_ble_eq_true rfl⟩ hJ.1 rfl rfl (by decide) rfl hl.1 rfl (Nat.le_of_ble_eq_true rfl) dX10_dark_57 ⟨Nat.le_of_ble_eq_true rfl, Nat.le_of_ble_eq_true rfl⟩) hS (fun u H locs hw hM hS => ?_)
              obtain ⟨I17, L18, rfl, hI, hkI17, xI17⟩ := hw
              have hM : Mem D A ad ns I17 L18 G H := hM
              have hK := hK.trans hkI17 rfl
              have zI17 := xI17
              have kp19 : KPX I I17 := KPX.of kp15 (hkI17.getA 1067 rfl) (hkI17.getA 1069 rfl) (hkI17.getA 1070 rfl) (hkI17.get 1000 74 rfl) (hkI17.get 1000 75 rfl)
              have zt20 : Z59 I I17 := zt16.tr zI17
              refine lv_iload hx hb dX10_dark_60 (lv_at hl 1 rfl) ?_
              refine lv_aload_n hx hb dX10_dark_62 rfl (lv_at hl 2 rfl) ?_
              refine m_getr (1000) 23 (1023) hx hb hts hown hE oc10 hM hJ.1 rfl (by decide) rfl (hJ.2 23 (by decide)).2 (by decide) tb_1200 dX10_dark_63 ?_
              refine lv_iload_n hx hb dX10_dark_66 rfl (lv_at hl 4 rfl) ?_
              refine m_iald (1023) hx hb hE hM (hJ.2 23 (by decide)).1 rfl (vp_in_iff.mpr (by omega)) dX10_dark_67 ?_
              refine lv_iload_n hx hb dX10_dark_68 rfl (lv_at hl 5 rfl) ?_
              refine lv_icmp_ge (tgt := 79) hx hb dX10_dark_69 (by decide) (fun c21 => ?_) (fun c21 => ?_)
              · have hc21 := c21
                have q21 := q_le hc21
                refine lv_iconst (v := (0)) hx hb dX10_dark_79 (by decide) ?_
                refine lv_ior hx hb dX10_dark_80 ?_
                refine lv_topi (fun v22 ev22 => ?_)
                refine lv_istore (lv' := [(4, .int (v22)), (5, .int (x5_40)), (0, .ref (ad (1000))), (1, .int (a0)), (2, .int (a1)), (3, .int (a2))]) hx hb dX10_dark_81 hl (by decide) rfl (fun ls hl => ?_)
                refine lv_aload_n hx hb dX10_dark_83 rfl (lv_at hl 2 rfl) ?_
                refine m_callv (m_runV (1000) (As := []) (rest := []) hx hb hml hown hts hE hM hS hA ce_X10_putsBack tb_1810 (V_X10_putsBack_t l D A ad ns I17 L18 G hJ hI) rfl rfl ⟨Nat.le_of_ble_eq_true rfl, Nat.le_of_ble_eq_true rfl⟩ hJ.1 rfl rfl (by decide) rfl hl.1 rfl (Nat.le_of_ble_eq_true rfl) dX10_dark_84 ⟨Nat.le_of_ble_eq_true rfl, Nat.le_of_ble_eq_true rfl⟩) hS (fun u H locs hw hM hS => ?_)
                obtain ⟨I23, L24, rfl, hI, hkI23, xI23⟩ := hw
                have hM : Mem D A ad ns I23 L24 G H := hM
                have hK := hK.trans hkI23 rfl
                have hkm : KM I I23 := KPX.back kp19 xI23 hK rfl (fun k g5 g6 => hK 1001 k rfl (by simp [g5, g6]))
                have kp25 : KPX I I23 := KPX.of kp19 (hkI23.getA 1067 rfl) (hkI23.getA 1069 rfl) (hkI23.getA 1070 rfl) (hkI23.get 1000 74 rfl) (hkI23.get 1000 75 rfl)
                have zt26 : Z59 I I23 := zt20.eq (hkI23.get 1000 59 rfl)
                obtain ⟨v27, ev27⟩ : ∃ z : Int32, z = x5_40 + Int32.ofInt (1) := ⟨_, rfl⟩
                have tv27 := a_inc ev27 (by decide) (by omega) (by omega)
                refine lv_iinc (v := v27) (lv' := [(5, .int (v27)), (4, .int (v22)), (0, .ref (ad (1000))), (1, .int (a0)), (2, .int (a1)), (3, .int (a2))]) hx hb dX10_dark_87 hl (k := 1) rfl ev27.symm (by decide) rfl (fun ls hl => ?_)
                refine lv_goto (tgt := 40) hx hb dX10_dark_90 (by decide) ?_
                exact ih40 (v27) (v22) I23 L24 _ _ ls hI hK (by first | omega | decide) kp25 hkm zt26 (by omega) hM hS (lv_sub hl [0, 1, 2, 3, 4, 5] rfl)
              · have hc21 := c21
                have q21 := q_nle hc21
                refine lv_iconst (v := (1)) hx hb dX10_dark_72 (by decide) ?_
                refine lv_iload hx hb dX10_dark_73 (lv_at hl 0 rfl) ?_
                refine lv_ishl hx hb dX10_dark_75 ?_
                refine lv_topi (fun v28 ev28 => ?_)
                refine lv_goto (tgt := 80) hx hb dX10_dark_76 (by decide) ?_
                refine lv_ior hx hb dX10_dark_80 ?_
                refine lv_topi (fun v29 ev29 => ?_)
                refine lv_istore (lv' := [(4, .int (v29)), (5, .int (x5_40)), (0, .ref (ad (1000))), (1, .int (a0)), (2, .int (a1)), (3, .int (a2))]) hx hb dX10_dark_81 hl (by decide) rfl (fun ls hl => ?_)
                refine lv_aload_n hx hb dX10_dark_83 rfl (lv_at hl 2 rfl) ?_
                refine m_callv (m_runV (1000) (As := []) (rest := []) hx hb hml hown hts hE hM hS hA ce_X10_putsBack tb_1810 (V_X10_putsBack_t l D A ad ns I17 L18 G hJ hI) rfl rfl ⟨Nat.le_of_ble_eq_true rfl, Nat.le_of_ble_eq_true rfl⟩ hJ.1 rfl rfl (by decide) rfl hl.1 rfl (Nat.le_of_ble_eq_true rfl) dX10_dark_84 ⟨Nat.le_of_ble_eq_true rfl, Nat.le_of_ble_eq_true rfl⟩) hS (fun u H locs hw hM hS => ?_)
                obtain ⟨I30, L31, rfl, hI, hkI30, xI30⟩ := hw
                have hM : Mem D A ad ns I30 L31 G H := hM
                have hK := hK.trans hkI30 rfl
                have hkm : KM I I30 := KPX.back kp19 xI30 hK rfl (fun k g5 g6 => hK 1001 k rfl (by simp [g5, g6]))
                have kp32 : KPX I I30 := KPX.of kp19 (hkI30.getA 1067 rfl) (hkI30.getA 1069 rfl) (hkI30.getA 1070 rfl) (hkI30.get 1000 74 rfl) (hkI30.get 1000 75 rfl)
                have zt33 : Z59 I I30 := zt20.eq (hkI30.get 1000 59 rfl)
                obtain ⟨v34, ev34⟩ : ∃ z : Int32, z = x5_40 + Int32.ofInt (1) := ⟨_, rfl⟩
                have tv34 := a_inc ev34 (by decide) (by omega) (by omega)
                refine lv_iinc (v := v34) (lv' := [(5, .int (v34)), (4, .int (v29)), (0, .ref (ad (1000))), (1, .int (a0)), (2, .int (a1)), (3, .int (a2))]) hx hb dX10_dark_87 hl (k := 1) rfl ev34.symm (by decide) rfl (fun ls hl => ?_)
                refine lv_goto (tgt := 40) hx hb dX10_dark_90 (by decide) ?_
                exact ih40 (v34) (v29) I30 L31 _ _ ls hI hK (by first | omega | decide) kp32 hkm zt33 (by omega) hM hS (lv_sub hl [0, 1, 2, 3, 4, 5] rfl)
        exact loop40 (_ + 1) (0) (0) I10 L11 _ _ ls hI hK (by first | omega | decide) xI10 (live_fr hK0 rfl) zt12 (Nat.lt_succ_self _) hM hS (lv_sub hl [0, 1, 2, 3, 4, 5] rfl)
      · have hc9 := c9
        have q9 := xr8.f hc9
        refine lv_iconst (v := (-1)) hx hb dX10_dark_28 (by decide) ?_
        exact m_iret hx hb hr hlocks hM hS (Nat.le_of_ble_eq_true rfl) (Nat.le_of_ble_eq_true rfl) ⟨_, _, rfl, hI, hK, ⟨EqV.rf, Z59.rf⟩⟩ dX10_dark_29
