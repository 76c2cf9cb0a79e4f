set_option maxHeartbeats 4000000 in
set_option maxRecDepth 20000 in
theorem V_X10_isBright_y (l : Launch) (D : va_G) (A : Nat → Prop) (ad : Nat → Nat) (ns : List Nat) (I : MI) (L : ML) (G : MG) (a0 : Int32) (hJ : SGM ns G) (hI : INV I) : Met l yX10_isBright (wd yX10_isBright cX10_isBright 2 (some .boolean)) ({ frames := 1, cells := 0, slots := 0, locals := 25 }) (va_Pc [.ref (ad (1000)), .int a0] (PM D A ad ns I L G)) (va_Qi (fun r u => u = (ad, ns, I, L, G) ∧ (Bo r (okL (live I) a0))) (BM D A) A) 0 0 A := by
  refine m_ofW (by decide) (Nat.le_of_ble_eq_true rfl) ?_
  intro p e s m below meth c ls args hC hE hM hA hS hl
  obtain ⟨hx, hb, hml, hown, hts, hr, hlocks, hin⟩ := hC
  have km1 : (-1 : Int32).toInt = -1 := by decide
  have k0 : (0 : Int32).toInt = 0 := by decide
  have k1 : (1 : Int32).toInt = 1 := by decide
  have kl0 : (0 : Int64).toInt = 0 := by decide
  have kl23 : (23 : Int64).toInt = 23 := by decide
  have hl : lv_has ls 2 [(0, .ref (ad (1000))), (1, .int (a0))] := hl
  refine lv_aload_n hx hb dX10_isBright_0 rfl (lv_at hl 0 rfl) ?_
  refine m_calli (m_runV (1000) (As := []) (rest := []) hx hb hml hown hts hE hM hS hA ce_X10_isTown tb_1441 (V_X10_isTown l D A ad ns I L G hJ hI) rfl rfl ⟨Nat.le_of_ble_eq_true rfl, Nat.le_of_ble_eq_true rfl⟩ hJ.1 rfl rfl (by decide) rfl hl.1 rfl (Nat.le_of_ble_eq_true rfl) dX10_isBright_1 ⟨Nat.le_of_ble_eq_true rfl, Nat.le_of_ble_eq_true rfl⟩) hS (fun r1 u H locs hw hM hS => ?_)
  obtain ⟨rfl, xr1⟩ := hw
  have hM : Mem D A ad ns I L G H := hM
  have yr1 := bo01 xr1
  refine lv_if_eq (tgt := 32) hx hb dX10_isBright_4 (by decide) (fun c2 => ?_) (fun c2 => ?_)
  · have hc2 := c2
    have q2 := xr1.f hc2
    refine lv_iconst (v := (0)) hx hb dX10_isBright_32 (by decide) ?_
    exact m_zret hx hb hr rfl hlocks hM hS (Nat.le_of_ble_eq_true rfl) (Nat.le_of_ble_eq_true rfl) ⟨rfl, (Bo.n (fun zz => by have z1 : (I 1001 0).toInt = 1 := zz.1; have z2 := zz.2.1; omega))⟩ dX10_isBright_33
  · have hc2 := c2
    have q2 := xr1.t hc2
    refine lv_iload_n hx hb dX10_isBright_7 rfl (lv_at hl 1 rfl) ?_
    refine lv_i2l hx hb dX10_isBright_8 rfl ?_
    refine lv_topl (fun v3 ev3 => ?_)
    have tv3 := q_i2l ev3
    refine lv_lconst (v := 0) hx hb dX10_isBright_9 (by decide) ?_
    refine lv_ldc2 (v := (23)) hx hb hown (hts _ tb_1450) dX10_isBright_10 ?_
    refine m_calli (m_runS (As := [.long (v3), .long (0), .long ((23 : Int64))]) (rest := []) hx hb hml hown hts hE hM hS hA ce_X10_in tb_1425 (V_X10_in l D A ad ns I L G (v3) (0) ((23 : Int64)) hI) rfl rfl ⟨Nat.le_of_ble_eq_true rfl, Nat.le_of_ble_eq_true rfl⟩  rfl hl.1 rfl (Nat.le_of_ble_eq_true rfl) dX10_isBright_13 ⟨Nat.le_of_ble_eq_true rfl, Nat.le_of_ble_eq_true rfl⟩) hS (fun r4 u H locs hw hM hS => ?_)
    obtain ⟨rfl, xr4⟩ := hw
    have hM : Mem D A ad ns I L G H := hM
    have yr4 := bo01 xr4
    refine lv_if_eq (tgt := 32) hx hb dX10_isBright_16 (by decide) (fun c5 => ?_) (fun c5 => ?_)
    · have hc5 := c5
      have q5 := xr4.f hc5
      refine lv_iconst (v := (0)) hx hb dX10_isBright_32 (by decide) ?_
      exact m_zret hx hb hr rfl hlocks hM hS (Nat.le_of_ble_eq_true rfl) (Nat.le_of_ble_eq_true rfl) ⟨rfl, (Bo.n (fun zz => by have z1 : (I 1001 0).toInt = 1 := zz.1; have z2 := zz.2.1; omega))⟩ dX10_isBright_33
    · have hc5 := c5
      have q5 := xr4.t hc5
      refine lv_aload_n hx hb dX10_isBright_19 rfl (lv_at hl 0 rfl) ?_
      refine lv_iload_n hx hb dX10_isBright_20 rfl (lv_at hl 1 rfl) ?_
      refine m_calli (m_runV (1000) (As := [.int (a0)]) (rest := []) hx hb hml hown hts hE hM hS hA ce_X10_sunOf tb_1625 (V_X10_sunOf_l l D A ad ns I L G (a0) hJ hI (by first | omega | decide)) rfl rfl ⟨Nat.le_of_ble_eq_true rfl, Nat.le_of_ble_eq_true rfl⟩ hJ.1 rfl rfl (by decide) rfl hl.1 rfl (Nat.le_of_ble_eq_true rfl) dX10_isBright_21 ⟨Nat.le_of_ble_eq_true rfl, Nat.le_of_ble_eq_true rfl⟩) hS (fun r6 u H locs hw hM hS => ?_)
      obtain ⟨rfl, xr6⟩ := hw
      have hM : Mem D A ad ns I L G H := hM
      refine lv_iconst (v := (-1)) hx hb dX10_isBright_24 (by decide) ?_
      refine lv_icmp_eq (tgt := 32) hx hb dX10_isBright_25 (by decide) (fun c7 => ?_) (fun c7 => ?_)
      · have hc7 := c7
        have q7 := q_eq hc7
        refine lv_iconst (v := (0)) hx hb dX10_isBright_32 (by decide) ?_
        exact m_zret hx hb hr rfl hlocks hM hS (Nat.le_of_ble_eq_true rfl) (Nat.le_of_ble_eq_true rfl) ⟨rfl, (Bo.n (fun zz => by have z2 := zz.2.2; rw [wy_M, ← xr6] at z2; omega))⟩ dX10_isBright_33
      · have hc7 := c7
        have q7 := q_ne hc7
        refine lv_iconst (v := (1)) hx hb dX10_isBright_28 (by decide) ?_
        refine lv_goto (tgt := 33) hx hb dX10_isBright_29 (by decide) ?_
        exact m_zret hx hb hr rfl hlocks hM hS (Nat.le_of_ble_eq_true rfl) (Nat.le_of_ble_eq_true rfl) ⟨rfl, (Bo.y ⟨by show (I 1001 0).toInt = 1; omega, by omega, by rw [wy_M, ← xr6]; omega⟩)⟩ dX10_isBright_33
set_option maxHeartbeats 4000000 in
set_option maxRecDepth 20000 in
theorem V_X10_gets_y (l : Launch) (D : va_G) (A : Nat → Prop) (ad : Nat → Nat) (ns : List Nat) (I : MI) (L : ML) (G : MG) (a0 : Int32) (a1 : Int32) (hJ : SGM ns G) (hI : INV I) (hRK : RKw (live I)) (hOK : OKW (live I)) (hsk : (I 1000 59).toInt = 0) : Met l yX10_gets (wd yX10_gets cX10_gets 3 (some .int)) ({ frames := 5, cells := 0, slots := 0, locals := 128 }) (va_Pc [.ref (ad (1000)), .int a0, .int a1] (PM D A ad ns I L G)) (va_Qi (fun r u => ∃ I2 L2, u = (ad, ns, I2, L2, G) ∧ INV I2 ∧ Kp [(1045, 1051)] [(1000, 51), (1000, 52), (1000, 53), (1000, 54), (1000, 55), (1000, 56), (1000, 59)] I I2 ∧ (ANW (okL (live I) a0 ∧ 0 ≤ a1.toInt ∧ a1.toInt < ((live I) 1 9).toInt) r ((shV (live I) a0).2.got (a1).toNatClampNeg) (-1) ∧ (I2 1000 59).toInt = 0 ∧ EqV (live I) (live I2))) (BM D A) A) 0 0 A := by
  refine m_ofW (by decide) (Nat.le_of_ble_eq_true rfl) ?_
  intro p e s m below meth c ls args hC hE hM hA hS hl
  obtain ⟨hx, hb, hml, hown, hts, hr, hlocks, hin⟩ := hC
  have km1 : (-1 : Int32).toInt = -1 := by decide
  have k0 : (0 : Int32).toInt = 0 := by decide
  have g9 := hI.get 1001 9 (lo := 0) (hi := 8) rfl
  have hK : Kp [(1045, 1051)] [(1000, 51), (1000, 52), (1000, 53), (1000, 54), (1000, 55), (1000, 56), (1000, 59)] I I := Kp.rf
  have hl : lv_has ls 3 [(0, .ref (ad (1000))), (1, .int (a0)), (2, .int (a1))] := hl
  refine lv_aload_n hx hb dX10_gets_0 rfl (lv_at hl 0 rfl) ?_
  refine lv_iload_n hx hb dX10_gets_1 rfl (lv_at hl 1 rfl) ?_
  refine m_calli (m_runV (1000) (As := [.int (a0)]) (rest := []) hx hb hml hown hts hE hM hS hA ce_X10_isBright tb_1698 (V_X10_isBright_y l D A ad ns I L G (a0) hJ hI) rfl rfl ⟨Nat.le_of_ble_eq_true rfl, Nat.le_of_ble_eq_true rfl⟩ hJ.1 rfl rfl (by decide) rfl hl.1 rfl (Nat.le_of_ble_eq_true rfl) dX10_gets_2 ⟨Nat.le_of_ble_eq_true rfl, Nat.le_of_ble_eq_true rfl⟩) hS (fun r1 u H locs hw hM hS => ?_)
  obtain ⟨rfl, xr1⟩ := hw
  have hM : Mem D A ad ns I L G H := hM
  have yr1 := bo01 xr1
  refine lv_if_eq (tgt := 16) hx hb dX10_gets_5 (by decide) (fun c2 => ?_) (fun c2 => ?_)
  · have hc2 := c2
    have q2 := xr1.f hc2
    have hnoL : ¬ okL (live I) a0 := q2
    refine lv_iconst (v := (-1)) hx hb dX10_gets_16 (by decide) ?_
    exact m_iret hx hb hr hlocks hM hS (Nat.le_of_ble_eq_true rfl) (Nat.le_of_ble_eq_true rfl) ⟨_, _, rfl, hI, hK, ⟨Or.inr ⟨fun zz => hnoL zz.1, rfl⟩, hsk, EqV.rf⟩⟩ dX10_gets_17
  · have hc2 := c2
    have q2 := xr1.t hc2
    have hokL : okL (live I) a0 := q2
    have hh24 := hokL.2.1
    refine lv_aload_n hx hb dX10_gets_8 rfl (lv_at hl 0 rfl) ?_
    refine lv_iload_n hx hb dX10_gets_9 rfl (lv_at hl 2 rfl) ?_
    refine m_calli (m_runV (1000) (As := [.int (a1)]) (rest := []) hx hb hml hown hts hE hM hS hA ce_X10_isYard tb_1686 (V_X10_isYard l D A ad ns I L G (a1) hJ hI) rfl rfl ⟨Nat.le_of_ble_eq_true rfl, Nat.le_of_ble_eq_true rfl⟩ hJ.1 rfl rfl (by decide) rfl hl.1 rfl (Nat.le_of_ble_eq_true rfl) dX10_gets_10 ⟨Nat.le_of_ble_eq_true rfl, Nat.le_of_ble_eq_true rfl⟩) hS (fun r3 u H locs hw hM hS => ?_)
    obtain ⟨rfl, xr3⟩ := hw
    have hM : Mem D A ad ns I L G H := hM
    have yr3 := bo01 xr3
    have g4 := hI.get 1001 9 (lo := 0) (hi := 8) rfl
    refine lv_if_ne (tgt := 18) hx hb dX10_gets_13 (by decide) (fun c5 => ?_) (fun c5 => ?_)
    · have hc5 := c5
      have q5 := xr3.t hc5
      refine lv_aload_n hx hb dX10_gets_18 rfl (lv_at hl 0 rfl) ?_
      refine lv_iload_n hx hb dX10_gets_19 rfl (lv_at hl 1 rfl) ?_
      refine m_callv (m_runV (1000) (As := [.int (a0)]) (rest := []) hx hb hml hown hts hE hM hS hA ce_X10_shines tb_1640 (V_X10_shines_l l D A ad ns I L G (a0) hJ hI (RKw.mok hRK EqV.rf hokL.1 hsk) (by rw [← wy_M (I := I) (h := a0)]; exact hokL.2.2) (by first | omega | decide)) rfl rfl ⟨Nat.le_of_ble_eq_true rfl, Nat.le_of_ble_eq_true rfl⟩ hJ.1 rfl rfl (by decide) rfl hl.1 rfl (Nat.le_of_ble_eq_true rfl) dX10_gets_20 ⟨Nat.le_of_ble_eq_true rfl, Nat.le_of_ble_eq_true rfl⟩) hS (fun u H locs hw hM hS => ?_)
      obtain ⟨I6, L7, rfl, hI, hkI6, xI6⟩ := hw
      have hM : Mem D A ad ns I6 L7 G H := hM
      have hK := hK.trans hkI6 rfl
      have h59 := xI6.2
      obtain ⟨S2, hS1, hS2⟩ := SHH.sh xI6.1
      have hKM := live_fr hkI6 rfl
      refine lv_aload_n hx hb dX10_gets_23 rfl (lv_at hl 0 rfl) ?_
      refine m_getr (1000) 50 (1050) hx hb hts hown hE oc10 hM hJ.1 rfl (by decide) rfl (hJ.2 50 (by decide)).2 (by decide) tb_1227 dX10_gets_24 ?_
      refine lv_iload_n hx hb dX10_gets_27 rfl (lv_at hl 2 rfl) ?_
      refine m_iald (1050) hx hb hE hM (hJ.2 50 (by decide)).1 rfl (vp_in_iff.mpr (by omega)) dX10_gets_28 ?_
      exact m_iret hx hb hr hlocks hM hS (Nat.le_of_ble_eq_true rfl) (Nat.le_of_ble_eq_true rfl) ⟨_, _, rfl, hI, hK, ⟨Or.inl ⟨⟨hokL, by show _ ∧ _ < (I 1001 9).toInt; omega⟩, by rw [hS2]; exact hS1.1 _ (by have z := tn (i := a1) (by omega); omega)⟩, h59, hKM⟩⟩ dX10_gets_29
    · have hc5 := c5
      have q5 := xr3.f hc5
      refine lv_iconst (v := (-1)) hx hb dX10_gets_16 (by decide) ?_
      exact m_iret hx hb hr hlocks hM hS (Nat.le_of_ble_eq_true rfl) (Nat.le_of_ble_eq_true rfl) ⟨_, _, rfl, hI, hK, ⟨Or.inr ⟨fun zz => (by have z2 := zz.2; have z3 : (I 1001 9).toInt = ((live I) 1 9).toInt := rfl; have z4 : (I 1001 0).toInt = 1 := hokL.1; omega), rfl⟩, hsk, EqV.rf⟩⟩ dX10_gets_17
set_option maxHeartbeats 4000000 in
set_option maxRecDepth 20000 in
theorem V_X10_light_y (l : Launch) (D : va_G) (A : Nat → Prop) (ad : Nat → Nat) (ns : List Nat) (I : MI) (L : ML) (G : MG) (a0 : Int32) (a1 : Int32) (hJ : SGM ns G) (hI : INV I) (hRK : RKw (live I)) (hOK : OKW (live I)) (hsk : (I 1000 59).toInt = 0) : Met l yX10_light (wd yX10_light cX10_light 3 (some .int)) ({ frames := 5, cells := 0, slots := 0, locals := 128 }) (va_Pc [.ref (ad (1000)), .int a0, .int a1] (PM D A ad ns I L G)) (va_Qi (fun r u => ∃ I2 L2, u = (ad, ns, I2, L2, G) ∧ INV I2 ∧ Kp [(1045, 1051)] [(1000, 51), (1000, 52), (1000, 53), (1000, 54), (1000, 55), (1000, 56), (1000, 59)] I I2 ∧ (LTA (okL (live I) a0 ∧ 0 ≤ a1.toInt ∧ a1.toInt ≤ 6) (live I) a0 a1.toInt r ∧ (I2 1000 59).toInt = 0 ∧ EqV (live I) (live I2))) (BM D A) A) 0 0 A := by
  refine m_ofW (by decide) (Nat.le_of_ble_eq_true rfl) ?_
  intro p e s m below meth c ls args hC hE hM hA hS hl
  obtain ⟨hx, hb, hml, hown, hts, hr, hlocks, hin⟩ := hC
  have km1 : (-1 : Int32).toInt = -1 := by decide
  have k0 : (0 : Int32).toInt = 0 := by decide
  have kl0 : (0 : Int64).toInt = 0 := by decide
  have kl6 : (6 : Int64).toInt = 6 := by decide
  have hK : Kp [(1045, 1051)] [(1000, 51), (1000, 52), (1000, 53), (1000, 54), (1000, 55), (1000, 56), (1000, 59)] I I := Kp.rf
  have hl : lv_has ls 3 [(0, .ref (ad (1000))), (1, .int (a0)), (2, .int (a1))] := hl
  refine lv_aload_n hx hb dX10_light_0 rfl (lv_at hl 0 rfl) ?_
  refine lv_iload_n hx hb dX10_light_1 rfl (lv_at hl 1 rfl) ?_
  refine m_calli (m_runV (1000) (As := [.int (a0)]) (rest := []) hx hb hml hown hts hE hM hS hA ce_X10_isBright tb_1698 (V_X10_isBright_y l D A ad ns I L G (a0) hJ hI) rfl rfl ⟨Nat.le_of_ble_eq_true rfl, Nat.le_of_ble_eq_true rfl⟩ hJ.1 rfl rfl (by decide) rfl hl.1 rfl (Nat.le_of_ble_eq_true rfl) dX10_light_2 ⟨Nat.le_of_ble_eq_true rfl, Nat.le_of_ble_eq_true rfl⟩) hS (fun r1 u H locs hw hM hS => ?_)
  obtain ⟨rfl, xr1⟩ := hw
  have hM : Mem D A ad ns I L G H := hM
  have yr1 := bo01 xr1
  refine lv_if_eq (tgt := 20) hx hb dX10_light_5 (by decide) (fun c2 => ?_) (fun c2 => ?_)
  · have hc2 := c2
    have q2 := xr1.f hc2
    have hnoL : ¬ okL (live I) a0 := q2
    refine lv_iconst (v := (-1)) hx hb dX10_light_20 (by decide) ?_
    exact m_iret hx hb hr hlocks hM hS (Nat.le_of_ble_eq_true rfl) (Nat.le_of_ble_eq_true rfl) ⟨_, _, rfl, hI, hK, ⟨Or.inr ⟨fun zz => hnoL zz.1, rfl⟩, hsk, EqV.rf⟩⟩ dX10_light_21
  · have hc2 := c2
    have q2 := xr1.t hc2
    have hokL : okL (live I) a0 := q2
    have hh24 := hokL.2.1
    refine lv_iload_n hx hb dX10_light_8 rfl (lv_at hl 2 rfl) ?_
    refine lv_i2l hx hb dX10_light_9 rfl ?_
    refine lv_topl (fun v3 ev3 => ?_)
    have tv3 := q_i2l ev3
    refine lv_lconst (v := 0) hx hb dX10_light_10 (by decide) ?_
    refine lv_ldc2 (v := (6)) hx hb hown (hts _ tb_1706) dX10_light_11 ?_
    refine m_calli (m_runS (As := [.long (v3), .long (0), .long ((6 : Int64))]) (rest := []) hx hb hml hown hts hE hM hS hA ce_X10_in tb_1425 (V_X10_in l D A ad ns I L G (v3) (0) ((6 : Int64)) hI) rfl rfl ⟨Nat.le_of_ble_eq_true rfl, Nat.le_of_ble_eq_true rfl⟩  rfl hl.1 rfl (Nat.le_of_ble_eq_true rfl) dX10_light_14 ⟨Nat.le_of_ble_eq_true rfl, Nat.le_of_ble_eq_true rfl⟩) hS (fun r4 u H locs hw hM hS => ?_)
    obtain ⟨rfl, xr4⟩ := hw
    have hM : Mem D A ad ns I L G H := hM
    have yr4 := bo01 xr4
    refine lv_if_ne (tgt := 22) hx hb dX10_light_17 (by decide) (fun c5 => ?_) (fun c5 => ?_)
    · have hc5 := c5
      have q5 := xr4.t hc5
      refine lv_aload_n hx hb dX10_light_22 rfl (lv_at hl 0 rfl) ?_
      refine lv_iload_n hx hb dX10_light_23 rfl (lv_at hl 1 rfl) ?_
      refine m_callv (m_runV (1000) (As := [.int (a0)]) (rest := []) hx hb hml hown hts hE hM hS hA ce_X10_shines tb_1640 (V_X10_shines_l l D A ad ns I L G (a0) hJ hI (RKw.mok hRK EqV.rf hokL.1 hsk) (by rw [← wy_M (I := I) (h := a0)]; exact hokL.2.2) (by first | omega | decide)) rfl rfl ⟨Nat.le_of_ble_eq_true rfl, Nat.le_of_ble_eq_true rfl⟩ hJ.1 rfl rfl (by decide) rfl hl.1 rfl (Nat.le_of_ble_eq_true rfl) dX10_light_24 ⟨Nat.le_of_ble_eq_true rfl, Nat.le_of_ble_eq_true rfl⟩) hS (fun u H locs hw hM hS => ?_)
      obtain ⟨I6, L7, rfl, hI, hkI6, xI6⟩ := hw
      have hM : Mem D A ad ns I6 L7 G H := hM
      have hK := hK.trans hkI6 rfl
      have h59 := xI6.2
      obtain ⟨S2, hS1, hS2⟩ := SHH.sh xI6.1
      have hKM := live_fr hkI6 rfl
      refine lv_iload_n hx hb dX10_light_27 rfl (lv_at hl 2 rfl) ?_
      by_cases c8 : (a1).toInt < 0 ∨ 5 < (a1).toInt
      · refine lv_tableOut (tgt := 98) hx hb dX10_light_28 c8 (by decide) ?_
        refine lv_aload_n hx hb dX10_light_98 rfl (lv_at hl 0 rfl) ?_
        refine m_calli (m_runV (1000) (As := []) (rest := []) hx hb hml hown hts hE hM hS hA ce_X10_firstBlind tb_1711 (V_X10_firstBlind_l l D A ad ns I6 L7 G hJ hI) rfl rfl ⟨Nat.le_of_ble_eq_true rfl, Nat.le_of_ble_eq_true rfl⟩ hJ.1 rfl rfl (by decide) rfl hl.1 rfl (Nat.le_of_ble_eq_true rfl) dX10_light_99 ⟨Nat.le_of_ble_eq_true rfl, Nat.le_of_ble_eq_true rfl⟩) hS (fun r9 u H locs hw hM hS => ?_)
        obtain ⟨rfl, xr9⟩ := hw
        have hM : Mem D A ad ns I6 L7 G H := hM
        have hk3 : I6 1003 = I 1003 := (hkI6.getA 1003 rfl)
        have hLG : LGT (live I) a0 a1.toInt (r9) := LGT.c6 hS2 (by omega) (xr9.of (fun c hc => (congrFun hk3 c).symm) (fun c hc => (hS1.2.1 c hc).symm))
        exact m_iret hx hb hr hlocks hM hS (Nat.le_of_ble_eq_true rfl) (Nat.le_of_ble_eq_true rfl) ⟨_, _, rfl, hI, hK, ⟨Or.inl ⟨⟨hokL, by omega, by omega⟩, hLG⟩, h59, hKM⟩⟩ dX10_light_102
      · have qc8 : (a1).toInt = 0 ∨ (a1).toInt = 1 ∨ (a1).toInt = 2 ∨ (a1).toInt = 3 ∨ (a1).toInt = 4 ∨ (a1).toInt = 5 := by omega
        rcases qc8 with qc8 | qc8 | qc8 | qc8 | qc8 | qc8
        · refine lv_tableIn (off := 40) (tgt := 68) hx hb dX10_light_28 (by omega) (by omega) (by rw [qc8]; rfl) (by decide) ?_
          refine lv_aload_n hx hb dX10_light_68 rfl (lv_at hl 0 rfl) ?_
          refine m_calli (m_runV (1000) (As := []) (rest := []) hx hb hml hown hts hE hM hS hA ce_X10_allGot tb_1707 (V_X10_allGot_l l D A ad ns I6 L7 G hJ hI) rfl rfl ⟨Nat.le_of_ble_eq_true rfl, Nat.le_of_ble_eq_true rfl⟩ hJ.1 rfl rfl (by decide) rfl hl.1 rfl (Nat.le_of_ble_eq_true rfl) dX10_light_69 ⟨Nat.le_of_ble_eq_true rfl, Nat.le_of_ble_eq_true rfl⟩) hS (fun r10 u H locs hw hM hS => ?_)
          obtain ⟨rfl, xr10⟩ := hw
          have hM : Mem D A ad ns I6 L7 G H := hM
          have hk3 : I6 1003 = I 1003 := (hkI6.getA 1003 rfl)
          have hLG : LGT (live I) a0 a1.toInt (r10) := LGT.c0 hS2 (by omega) (xr10.trans ((sumN_eq (fun k hk => hS1.1 k (by have z8 := hOK.n9; have z9 : (I 1001 9) = (live I 1 9) := rfl; rw [show I6 1001 9 = I 1001 9 from (hkI6.get (1001) 9 rfl)] at hk; rw [z9] at hk; omega))).trans (by have h1 := sum_yards (h := a0) hOK; rw [hS2] at h1; rw [show I6 1001 9 = live I 1 9 from (hkI6.get (1001) 9 rfl)]; exact h1)))
          exact m_iret hx hb hr hlocks hM hS (Nat.le_of_ble_eq_true rfl) (Nat.le_of_ble_eq_true rfl) ⟨_, _, rfl, hI, hK, ⟨Or.inl ⟨⟨hokL, by omega, by omega⟩, hLG⟩, h59, hKM⟩⟩ dX10_light_72
        · refine lv_tableIn (off := 45) (tgt := 73) hx hb dX10_light_28 (by omega) (by omega) (by rw [qc8]; rfl) (by decide) ?_
          refine lv_aload_n hx hb dX10_light_73 rfl (lv_at hl 0 rfl) ?_
          refine m_geti (1000) 53 hx hb hts hown hE oc10 hM hJ.1 rfl (by decide) rfl tb_1230 dX10_light_74 ?_
          have hk3 : I6 1003 = I 1003 := (hkI6.getA 1003 rfl)
          have hLG : LGT (live I) a0 a1.toInt (I6 (1000) 53) := LGT.c1 hS2 (by omega) (hS1.2.2.1.1)
          exact m_iret hx hb hr hlocks hM hS (Nat.le_of_ble_eq_true rfl) (Nat.le_of_ble_eq_true rfl) ⟨_, _, rfl, hI, hK, ⟨Or.inl ⟨⟨hokL, by omega, by omega⟩, hLG⟩, h59, hKM⟩⟩ dX10_light_77
        · refine lv_tableIn (off := 50) (tgt := 78) hx hb dX10_light_28 (by omega) (by omega) (by rw [qc8]; rfl) (by decide) ?_
          refine lv_aload_n hx hb dX10_light_78 rfl (lv_at hl 0 rfl) ?_
          refine m_geti (1000) 54 hx hb hts hown hE oc10 hM hJ.1 rfl (by decide) rfl tb_1231 dX10_light_79 ?_
          have hk3 : I6 1003 = I 1003 := (hkI6.getA 1003 rfl)
          have hLG : LGT (live I) a0 a1.toInt (I6 (1000) 54) := LGT.c2 hS2 (by omega) (hS1.2.2.1.2.1)
          exact m_iret hx hb hr hlocks hM hS (Nat.le_of_ble_eq_true rfl) (Nat.le_of_ble_eq_true rfl) ⟨_, _, rfl, hI, hK, ⟨Or.inl ⟨⟨hokL, by omega, by omega⟩, hLG⟩, h59, hKM⟩⟩ dX10_light_82
        · refine lv_tableIn (off := 55) (tgt := 83) hx hb dX10_light_28 (by omega) (by omega) (by rw [qc8]; rfl) (by decide) ?_
          refine lv_aload_n hx hb dX10_light_83 rfl (lv_at hl 0 rfl) ?_
          refine m_geti (1000) 55 hx hb hts hown hE oc10 hM hJ.1 rfl (by decide) rfl tb_1232 dX10_light_84 ?_
          have g11 := hI.get (1000) 55 (lo := 0) (hi := 2000) rfl
          have hk3 : I6 1003 = I 1003 := (hkI6.getA 1003 rfl)
          have hLG : LGT (live I) a0 a1.toInt (I6 (1000) 55) := LGT.c3 hS2 (by omega) (by show _ = 2000 - ((2000 - (I6 1000 55).toInt).toNat : Int); have z := hI.get 1000 55 (lo := 0) (hi := 2000) rfl; omega)
          exact m_iret hx hb hr hlocks hM hS (Nat.le_of_ble_eq_true rfl) (Nat.le_of_ble_eq_true rfl) ⟨_, _, rfl, hI, hK, ⟨Or.inl ⟨⟨hokL, by omega, by omega⟩, hLG⟩, h59, hKM⟩⟩ dX10_light_87
        · refine lv_tableIn (off := 60) (tgt := 88) hx hb dX10_light_28 (by omega) (by omega) (by rw [qc8]; rfl) (by decide) ?_
          refine lv_aload_n hx hb dX10_light_88 rfl (lv_at hl 0 rfl) ?_
          refine m_geti (1000) 56 hx hb hts hown hE oc10 hM hJ.1 rfl (by decide) rfl tb_1233 dX10_light_89 ?_
          have hk3 : I6 1003 = I 1003 := (hkI6.getA 1003 rfl)
          have hLG : LGT (live I) a0 a1.toInt (I6 (1000) 56) := LGT.c4 hS2 (by omega) (hS1.2.2.1.2.2)
          exact m_iret hx hb hr hlocks hM hS (Nat.le_of_ble_eq_true rfl) (Nat.le_of_ble_eq_true rfl) ⟨_, _, rfl, hI, hK, ⟨Or.inl ⟨⟨hokL, by omega, by omega⟩, hLG⟩, h59, hKM⟩⟩ dX10_light_92
        · refine lv_tableIn (off := 65) (tgt := 93) hx hb dX10_light_28 (by omega) (by omega) (by rw [qc8]; rfl) (by decide) ?_
          refine lv_aload_n hx hb dX10_light_93 rfl (lv_at hl 0 rfl) ?_
          refine m_calli (m_runV (1000) (As := []) (rest := []) hx hb hml hown hts hE hM hS hA ce_X10_blindCells tb_1670 (V_X10_blindCells_l l D A ad ns I6 L7 G hJ hI) rfl rfl ⟨Nat.le_of_ble_eq_true rfl, Nat.le_of_ble_eq_true rfl⟩ hJ.1 rfl rfl (by decide) rfl hl.1 rfl (Nat.le_of_ble_eq_true rfl) dX10_light_94 ⟨Nat.le_of_ble_eq_true rfl, Nat.le_of_ble_eq_true rfl⟩) hS (fun r12 u H locs hw hM hS => ?_)
          obtain ⟨rfl, xr12⟩ := hw
          have hM : Mem D A ad ns I6 L7 G H := hM
          have hk3 : I6 1003 = I 1003 := (hkI6.getA 1003 rfl)
          have hLG : LGT (live I) a0 a1.toInt (r12) := LGT.c5 hS2 (by omega) (xr12.trans (blN.same (Nat.le_refl _) (fun c hc => congrFun hk3 c) (fun c hc => hS1.2.1 c hc)))
          exact m_iret hx hb hr hlocks hM hS (Nat.le_of_ble_eq_true rfl) (Nat.le_of_ble_eq_true rfl) ⟨_, _, rfl, hI, hK, ⟨Or.inl ⟨⟨hokL, by omega, by omega⟩, hLG⟩, h59, hKM⟩⟩ dX10_light_97
    · have hc5 := c5
      have q5 := xr4.f hc5
      refine lv_iconst (v := (-1)) hx hb dX10_light_20 (by decide) ?_
      exact m_iret hx hb hr hlocks hM hS (Nat.le_of_ble_eq_true rfl) (Nat.le_of_ble_eq_true rfl) ⟨_, _, rfl, hI, hK, ⟨Or.inr ⟨fun zz => (by have z2 := zz.2; omega), rfl⟩, hsk, EqV.rf⟩⟩ dX10_light_21
set_option maxHeartbeats 4000000 in
set_option maxRecDepth 20000 in
theorem V_X10_passes_y (l : Launch) (D : va_G) (A : Nat → Prop) (ad : Nat → Nat) (ns : List Nat) (I : MI) (L : ML) (G : MG) (a0 : Int32) (a1 : Int32) (a2 : Int32) (hJ : SGM ns G) (hI : INV I) (hRK : RKw (live I)) (hOK : OKW (live I)) (hsk : (I 1000 59).toInt = 0) : Met l yX10_passes (wd yX10_passes cX10_passes 4 (some .int)) ({ frames := 5, cells := 0, slots := 0, locals := 128 }) (va_Pc [.ref (ad (1000)), .int a0, .int a1, .int a2] (PM D A ad ns I L G)) (va_Qi (fun r u => ∃ I2 L2, u = (ad, ns, I2, L2, G) ∧ INV I2 ∧ Kp [(1045, 1051)] [(1000, 51), (1000, 52), (1000, 53), (1000, 54), (1000, 55), (1000, 56), (1000, 59)] I I2 ∧ (ANW (okL (live I) a0 ∧ okC (live I) a1 a2) r ((shV (live I) a0).2.pas (clN a1 a2)) (-1) ∧ (I2 1000 59).toInt = 0 ∧ EqV (live I) (live I2))) (BM D A) A) 0 0 A := by
  refine m_ofW (by decide) (Nat.le_of_ble_eq_true rfl) ?_
  intro p e s m below meth c ls args hC hE hM hA hS hl
  obtain ⟨hx, hb, hml, hown, hts, hr, hlocks, hin⟩ := hC
  have km1 : (-1 : Int32).toInt = -1 := by decide
  have k0 : (0 : Int32).toInt = 0 := by decide
  have k24 : (24 : Int32).toInt = 24 := by decide
  have hK : Kp [(1045, 1051)] [(1000, 51), (1000, 52), (1000, 53), (1000, 54), (1000, 55), (1000, 56), (1000, 59)] I I := Kp.rf
  have hl : lv_has ls 4 [(0, .ref (ad (1000))), (1, .int (a0)), (2, .int (a1)), (3, .int (a2))] := hl
  refine lv_aload_n hx hb dX10_passes_0 rfl (lv_at hl 0 rfl) ?_
  refine lv_iload_n hx hb dX10_passes_1 rfl (lv_at hl 1 rfl) ?_
  refine m_calli (m_runV (1000) (As := [.int (a0)]) (rest := []) hx hb hml hown hts hE hM hS hA ce_X10_isBright tb_1698 (V_X10_isBright_y l D A ad ns I L G (a0) hJ hI) rfl rfl ⟨Nat.le_of_ble_eq_true rfl, Nat.le_of_ble_eq_true rfl⟩ hJ.1 rfl rfl (by decide) rfl hl.1 rfl (Nat.le_of_ble_eq_true rfl) dX10_passes_2 ⟨Nat.le_of_ble_eq_true rfl, Nat.le_of_ble_eq_true rfl⟩) hS (fun r1 u H locs hw hM hS => ?_)
  obtain ⟨rfl, xr1⟩ := hw
  have hM : Mem D A ad ns I L G H := hM
  have yr1 := bo01 xr1
  refine lv_if_eq (tgt := 17) hx hb dX10_passes_5 (by decide) (fun c2 => ?_) (fun c2 => ?_)
  · have hc2 := c2
    have q2 := xr1.f hc2
    have hnoL : ¬ okL (live I) a0 := q2
    refine lv_iconst (v := (-1)) hx hb dX10_passes_17 (by decide) ?_
    exact m_iret hx hb hr hlocks hM hS (Nat.le_of_ble_eq_true rfl) (Nat.le_of_ble_eq_true rfl) ⟨_, _, rfl, hI, hK, ⟨Or.inr ⟨fun zz => hnoL zz.1, rfl⟩, hsk, EqV.rf⟩⟩ dX10_passes_18
  · have hc2 := c2
    have q2 := xr1.t hc2
    have hokL : okL (live I) a0 := q2
    have hh24 := hokL.2.1
    refine lv_aload_n hx hb dX10_passes_8 rfl (lv_at hl 0 rfl) ?_
    refine lv_iload_n hx hb dX10_passes_9 rfl (lv_at hl 2 rfl) ?_
    refine lv_iload_n hx hb dX10_passes_10 rfl (lv_at hl 3 rfl) ?_
    refine m_calli (m_runV (1000) (As := [.int (a1), .int (a2)]) (rest := []) hx hb hml hown hts hE hM hS hA ce_X10_isCell tb_1437 (V_X10_isCell l D A ad ns I L G (a1) (a2) hJ hI) rfl rfl ⟨Nat.le_of_ble_eq_true rfl, Nat.le_of_ble_eq_true rfl⟩ hJ.1 rfl rfl (by decide) rfl hl.1 rfl (Nat.le_of_ble_eq_true rfl) dX10_passes_11 ⟨Nat.le_of_ble_eq_true rfl, Nat.le_of_ble_eq_true rfl⟩) hS (fun r3 u H locs hw hM hS => ?_)
    obtain ⟨rfl, xr3⟩ := hw
    have hM : Mem D A ad ns I L G H := hM
    have yr3 := bo01 xr3
    have g4 := hI.get 1001 1 (lo := 0) (hi := 24) rfl
    have g5 := hI.get 1001 2 (lo := 0) (hi := 24) rfl
    refine lv_if_ne (tgt := 19) hx hb dX10_passes_14 (by decide) (fun c6 => ?_) (fun c6 => ?_)
    · have hc6 := c6
      have q6 := xr3.t hc6
      refine lv_aload_n hx hb dX10_passes_19 rfl (lv_at hl 0 rfl) ?_
      refine lv_iload_n hx hb dX10_passes_20 rfl (lv_at hl 1 rfl) ?_
      refine m_callv (m_runV (1000) (As := [.int (a0)]) (rest := []) hx hb hml hown hts hE hM hS hA ce_X10_shines tb_1640 (V_X10_shines_l l D A ad ns I L G (a0) hJ hI (RKw.mok hRK EqV.rf hokL.1 hsk) (by rw [← wy_M (I := I) (h := a0)]; exact hokL.2.2) (by first | omega | decide)) rfl rfl ⟨Nat.le_of_ble_eq_true rfl, Nat.le_of_ble_eq_true rfl⟩ hJ.1 rfl rfl (by decide) rfl hl.1 rfl (Nat.le_of_ble_eq_true rfl) dX10_passes_21 ⟨Nat.le_of_ble_eq_true rfl, Nat.le_of_ble_eq_true rfl⟩) hS (fun u H locs hw hM hS => ?_)
      obtain ⟨I7, L8, rfl, hI, hkI7, xI7⟩ := hw
      have hM : Mem D A ad ns I7 L8 G H := hM
      have hK := hK.trans hkI7 rfl
      have h59 := xI7.2
      obtain ⟨S2, hS1, hS2⟩ := SHH.sh xI7.1
      have hKM := live_fr hkI7 rfl
      refine lv_aload_n hx hb dX10_passes_24 rfl (lv_at hl 0 rfl) ?_
      refine m_getr (1000) 49 (1049) hx hb hts hown hE oc10 hM hJ.1 rfl (by decide) rfl (hJ.2 49 (by decide)).2 (by decide) tb_1226 dX10_passes_25 ?_
      refine lv_bipush (v := (24)) hx hb dX10_passes_28 (by decide) ?_
      refine lv_iload_n hx hb dX10_passes_30 rfl (lv_at hl 3 rfl) ?_
      refine lv_imul hx hb dX10_passes_31 ?_
      refine lv_topi (fun v9 ev9 => ?_)
      have tv9 := a_mulL (c := 24) ev9 (by decide) (by omega) (by omega)
      refine lv_iload_n hx hb dX10_passes_32 rfl (lv_at hl 2 rfl) ?_
      refine lv_iadd hx hb dX10_passes_33 ?_
      refine lv_topi (fun v10 ev10 => ?_)
      have tv10 := a_add ev10 (by omega) (by omega)
      refine m_iald (1049) hx hb hE hM (hJ.2 49 (by decide)).1 rfl (vp_in_iff.mpr (by omega)) dX10_passes_34 ?_
      exact m_iret hx hb hr hlocks hM hS (Nat.le_of_ble_eq_true rfl) (Nat.le_of_ble_eq_true rfl) ⟨_, _, rfl, hI, hK, ⟨Or.inl ⟨⟨hokL, by show 0 ≤ _ ∧ _ < (I 1001 1).toInt ∧ 0 ≤ _ ∧ _ < (I 1001 2).toInt; omega⟩, by rw [hS2, show clN a1 a2 = (v10).toNatClampNeg from (by unfold clN; have z0 := tn (i := v10) (by omega); have z1 := tn (i := a1) (by omega); have z2 := tn (i := a2) (by omega); omega)]; exact hS1.2.1 _ (by have z0 := tn (i := v10) (by omega); omega)⟩, h59, hKM⟩⟩ dX10_passes_35
    · have hc6 := c6
      have q6 := xr3.f hc6
      refine lv_iconst (v := (-1)) hx hb dX10_passes_17 (by decide) ?_
      exact m_iret hx hb hr hlocks hM hS (Nat.le_of_ble_eq_true rfl) (Nat.le_of_ble_eq_true rfl) ⟨_, _, rfl, hI, hK, ⟨Or.inr ⟨fun zz => (by have z2 := zz.2; unfold okC at z2; have z3 : (I 1001 1).toInt = ((live I) 1 1).toInt := rfl; have z5 : (I 1001 2).toInt = ((live I) 1 2).toInt := rfl; have z4 : (I 1001 0).toInt = 1 := hokL.1; omega), rfl⟩, hsk, EqV.rf⟩⟩ dX10_passes_18
