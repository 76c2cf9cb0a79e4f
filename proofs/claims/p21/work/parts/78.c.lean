set_option maxHeartbeats 4000000 in
set_option maxRecDepth 20000 in
theorem V_X4_takeTurn_h (l : Launch) (D : va_G) (A : Nat → Prop) (ad : Nat → Nat) (ns : List Nat) (I : MI) (L : ML) (G : MG) (w : Nat) (hG : SGC ns G) (hI : INV I) (hW : LOK ns G w) (hd : G 70 13 = w) (hf0 : (I 70 12).toInt = 0) : Met l yX4_takeTurn (wd yX4_takeTurn cX4_takeTurn 1 none) ({ frames := 1, cells := 0, slots := 0, locals := 21 }) (va_Pc [.ref (ad (70))] (PM D A ad ns I L G)) (va_Qv (fun u => ∃ I2 L2, u = (ad, ns, I2, L2, G) ∧ INV I2 ∧ Kp [] [(70, 7), (70, 12)] I I2 ∧ (OTH w I I2 ∧ (SX cbT w I I2))) (BM D A) A) 0 0 A := by
  refine m_ofW (by decide) (Nat.le_of_ble_eq_true rfl) ?_
  intro p e s m below meth c ls args hC hE hM hA hS hl
  obtain ⟨hx, hb, hml, hown, hts, hr, hlocks, hin⟩ := hC
  have km40 : (-40 : Int32).toInt = -40 := by decide
  have k0 : (0 : Int32).toInt = 0 := by decide
  have k1 : (1 : Int32).toInt = 1 := by decide
  have k4 : (4 : Int32).toInt = 4 := by decide
  have k12 : (12 : Int32).toInt = 12 := by decide
  have hI0 := hI
  have hK : Kp [] [(70, 7), (70, 12)] I I := Kp.rf
  have hl : lv_has ls 1 [(0, .ref (ad (70)))] := hl
  refine lv_aload_n hx hb dX4_takeTurn_0 rfl (lv_at hl 0 rfl) ?_
  refine m_geti (70) 5 hx hb hts hown hE oc4 hM (hG.1 70 (by decide)) rfl (by decide) rfl tb_323 dX4_takeTurn_1 ?_
  refine lv_bipush (v := (-40)) hx hb dX4_takeTurn_4 (by decide) ?_
  refine lv_icmp_eq (tgt := 17) hx hb dX4_takeTurn_6 (by decide) (fun c1 => ?_) (fun c1 => ?_)
  · have hc1 := c1
    have q1 := q_eq hc1
    refine lv_aload_n hx hb dX4_takeTurn_17 rfl (lv_at hl 0 rfl) ?_
    refine m_getr (70) 13 (w) hx hb hts hown hE oc4 hM (hG.1 70 (by decide)) rfl (by decide) rfl hd (by have := lbw hW.1; omega) tb_331 dX4_takeTurn_18 ?_
    refine m_geti (w) 5 hx hb hts hown hE oc3 hM hW.l (kW _ hW.1).1 (by decide) rfl tb_381 dX4_takeTurn_21 ?_
    have g2 := hI.get (w) 5 (lo := 0) (hi := 12) (rgw0 hW.1).1
    refine lv_bipush (v := (12)) hx hb dX4_takeTurn_24 (by decide) ?_
    refine lv_icmp_lt (tgt := 37) hx hb dX4_takeTurn_26 (by decide) (fun c3 => ?_) (fun c3 => ?_)
    · have hc3 := c3
      have q3 := q_lt hc3
      refine lv_aload_n hx hb dX4_takeTurn_37 rfl (lv_at hl 0 rfl) ?_
      refine lv_iconst (v := (1)) hx hb dX4_takeTurn_38 (by decide) ?_
      refine m_puti (70) 7 hx hb hts hown hE oc4 hM hS (hG.1 70 (by decide)) rfl (by decide) rfl rfl rfl rfl tb_325 dX4_takeTurn_39 (fun H locs I4 eI4 hM hS => ?_)
      subst eI4
      have hI := hI.put (n := 70) (k := 7) (v := 1) (lo := 0) (hi := 5) rfl (by first | omega | decide)
      have hK := hK.put (n := 70) (k := 7) (v := 1) (by first | rfl | simp [inR])
      have t5 : ((CLS I w).1 : Int) = (I w 5).toInt := tn (hI0.get w 5 (lo := 0) (hi := 12) (rgw0 hW.1).1).1
      have fz5 : (u2 I (70) 7 (1)) (70) 2 = I (70) 2 := (show (u2 I (70) 7 (1)) (70) 2 = I (70) 2 from by simp [u2_v])
      have fz5q := congrArg Int32.toInt fz5
      have fz6 : (u2 I (70) 7 (1)) (70) 7 = 1 := (show (u2 I (70) 7 (1)) (70) 7 = 1 from by simp [u2_v])
      have fz6q := congrArg Int32.toInt fz6
      have fz7 : (u2 I (70) 7 (1)) (70) 8 = I (70) 8 := (show (u2 I (70) 7 (1)) (70) 8 = I (70) 8 from by simp [u2_v])
      have fz7q := congrArg Int32.toInt fz7
      have fz8 : (u2 I (70) 7 (1)) (70) 9 = I (70) 9 := (show (u2 I (70) 7 (1)) (70) 9 = I (70) 9 from by simp [u2_v])
      have fz8q := congrArg Int32.toInt fz8
      have fz9 : (u2 I (70) 7 (1)) (70) 10 = I (70) 10 := (show (u2 I (70) 7 (1)) (70) 10 = I (70) 10 from by simp [u2_v])
      have fz9q := congrArg Int32.toInt fz9
      have fz10 : (u2 I (70) 7 (1)) (70) 11 = I (70) 11 := (show (u2 I (70) 7 (1)) (70) 11 = I (70) 11 from by simp [u2_v])
      have fz10q := congrArg Int32.toInt fz10
      have fz11 : (u2 I (70) 7 (1)) (70) 12 = I (70) 12 := (show (u2 I (70) 7 (1)) (70) 12 = I (70) 12 from by simp [u2_v])
      have fz11q := congrArg Int32.toInt fz11
      exact m_vret hx hb hr hlocks hM hS (Nat.le_of_ble_eq_true rfl) (Nat.le_of_ble_eq_true rfl) ⟨_, _, rfl, hI, hK, ⟨(show OTH w I (u2 I (70) 7 (1)) from OTH.put (by omega)), (fun K p => by unfold cbT; rw [if_neg (by omega), if_neg (by omega)]; exact ars_k (by omega) (by omega) (by decide) (by omega) (STK_of ((show (u2 I (70) 7 (1)) 72 = I 72 from by funext zz; simp [u2_v])) fz5) fz8 (show LQ w I (u2 I (70) 7 (1)) from LQ.put hW.1 (by decide)).1 fz9 (by omega) (show LQ w I (u2 I (70) 7 (1)) from LQ.put hW.1 (by decide)).2)⟩⟩ dX4_takeTurn_42
    · have hc3 := c3
      have q3 := q_nlt hc3
      refine lv_aload_n hx hb dX4_takeTurn_29 rfl (lv_at hl 0 rfl) ?_
      refine lv_iconst (v := (4)) hx hb dX4_takeTurn_30 (by decide) ?_
      refine m_callv (m_runV (70) (As := [.int (4)]) (rest := []) hx hb hml hown hts hE hM hS hA ce_X4_fail tb_673 (V_X4_fail_h l D A ad ns I L G (4) hG hI (by first | omega | decide)) rfl rfl ⟨Nat.le_of_ble_eq_true rfl, Nat.le_of_ble_eq_true rfl⟩ (hG.1 70 (by decide)) rfl rfl (by decide) rfl hl.1 rfl (Nat.le_of_ble_eq_true rfl) dX4_takeTurn_31 ⟨Nat.le_of_ble_eq_true rfl, Nat.le_of_ble_eq_true rfl⟩) hS (fun u H locs hw hM hS => ?_)
      obtain ⟨I12, L13, rfl, hI, hkI12, xI12⟩ := hw
      have hM : Mem D A ad ns I12 L13 G H := hM
      have hK := hK.trans hkI12 rfl
      have hxf := xI12
      refine lv_goto (tgt := 42) hx hb dX4_takeTurn_34 (by decide) ?_
      have t5 : ((CLS I w).1 : Int) = (I w 5).toInt := tn (hI0.get w 5 (lo := 0) (hi := 12) (rgw0 hW.1).1).1
      exact m_vret hx hb hr hlocks hM hS (Nat.le_of_ble_eq_true rfl) (Nat.le_of_ble_eq_true rfl) ⟨_, _, rfl, hI, hK, ⟨(show OTH w I I12 from OTH.kp hkI12 rfl rfl), (fun K p => by unfold cbT; rw [if_neg (by omega), if_pos (by omega)]; exact ars_f (by omega) (by omega))⟩⟩ dX4_takeTurn_42
  · have hc1 := c1
    have q1 := q_ne hc1
    refine lv_aload_n hx hb dX4_takeTurn_9 rfl (lv_at hl 0 rfl) ?_
    refine lv_iconst (v := (0)) hx hb dX4_takeTurn_10 (by decide) ?_
    refine m_callv (m_runV (70) (As := [.int (0)]) (rest := []) hx hb hml hown hts hE hM hS hA ce_X4_fail tb_673 (V_X4_fail_h l D A ad ns I L G (0) hG hI (by first | omega | decide)) rfl rfl ⟨Nat.le_of_ble_eq_true rfl, Nat.le_of_ble_eq_true rfl⟩ (hG.1 70 (by decide)) rfl rfl (by decide) rfl hl.1 rfl (Nat.le_of_ble_eq_true rfl) dX4_takeTurn_11 ⟨Nat.le_of_ble_eq_true rfl, Nat.le_of_ble_eq_true rfl⟩) hS (fun u H locs hw hM hS => ?_)
    obtain ⟨I14, L15, rfl, hI, hkI14, xI14⟩ := hw
    have hM : Mem D A ad ns I14 L15 G H := hM
    have hK := hK.trans hkI14 rfl
    have hxf := xI14
    refine lv_goto (tgt := 42) hx hb dX4_takeTurn_14 (by decide) ?_
    have t5 : ((CLS I w).1 : Int) = (I w 5).toInt := tn (hI0.get w 5 (lo := 0) (hi := 12) (rgw0 hW.1).1).1
    exact m_vret hx hb hr hlocks hM hS (Nat.le_of_ble_eq_true rfl) (Nat.le_of_ble_eq_true rfl) ⟨_, _, rfl, hI, hK, ⟨(show OTH w I I14 from OTH.kp hkI14 rfl rfl), (fun K p => by unfold cbT; rw [if_pos (by omega)]; exact ars_f (by omega) (by omega))⟩⟩ dX4_takeTurn_42
set_option maxHeartbeats 4000000 in
set_option maxRecDepth 20000 in
theorem V_X4_takeMirror_h (l : Launch) (D : va_G) (A : Nat → Prop) (ad : Nat → Nat) (ns : List Nat) (I : MI) (L : ML) (G : MG) (w : Nat) (hG : SGC ns G) (hI : INV I) (hW : LOK ns G w) (hd : G 70 13 = w) (hf0 : (I 70 12).toInt = 0) : Met l yX4_takeMirror (wd yX4_takeMirror cX4_takeMirror 1 none) ({ frames := 1, cells := 0, slots := 0, locals := 21 }) (va_Pc [.ref (ad (70))] (PM D A ad ns I L G)) (va_Qv (fun u => ∃ I2 L2, u = (ad, ns, I2, L2, G) ∧ INV I2 ∧ Kp [(200, 300)] [(70, 7), (70, 8), (70, 12)] I I2 ∧ (OTH w I I2 ∧ (SX cbM2 w I I2))) (BM D A) A) 0 0 A := by
  refine m_ofW (by decide) (Nat.le_of_ble_eq_true rfl) ?_
  intro p e s m below meth c ls args hC hE hM hA hS hl
  obtain ⟨hx, hb, hml, hown, hts, hr, hlocks, hin⟩ := hC
  have km46 : (-46 : Int32).toInt = -46 := by decide
  have k0 : (0 : Int32).toInt = 0 := by decide
  have k1 : (1 : Int32).toInt = 1 := by decide
  have k3 : (3 : Int32).toInt = 3 := by decide
  have k24 : (24 : Int32).toInt = 24 := by decide
  have hK : Kp [(200, 300)] [(70, 7), (70, 8), (70, 12)] I I := Kp.rf
  have hl : lv_has ls 1 [(0, .ref (ad (70)))] := hl
  refine lv_aload_n hx hb dX4_takeMirror_0 rfl (lv_at hl 0 rfl) ?_
  refine m_geti (70) 5 hx hb hts hown hE oc4 hM (hG.1 70 (by decide)) rfl (by decide) rfl tb_323 dX4_takeMirror_1 ?_
  refine lv_if_ge (tgt := 24) hx hb dX4_takeMirror_4 (by decide) (fun c1 => ?_) (fun c1 => ?_)
  · have hc1 := c1
    have q1 := q_le hc1
    refine lv_aload_n hx hb dX4_takeMirror_24 rfl (lv_at hl 0 rfl) ?_
    refine m_geti (70) 5 hx hb hts hown hE oc4 hM (hG.1 70 (by decide)) rfl (by decide) rfl tb_323 dX4_takeMirror_25 ?_
    refine lv_if_lt (tgt := 40) hx hb dX4_takeMirror_28 (by decide) (fun c2 => ?_) (fun c2 => ?_)
    · have hc2 := c2
      have q2 := q_lt hc2
      refine lv_aload_n hx hb dX4_takeMirror_40 rfl (lv_at hl 0 rfl) ?_
      refine lv_iconst (v := (1)) hx hb dX4_takeMirror_41 (by decide) ?_
      refine m_callv (m_runV (70) (As := [.int (1)]) (rest := []) hx hb hml hown hts hE hM hS hA ce_X4_fail tb_673 (V_X4_fail_h l D A ad ns I L G (1) hG hI (by first | omega | decide)) rfl rfl ⟨Nat.le_of_ble_eq_true rfl, Nat.le_of_ble_eq_true rfl⟩ (hG.1 70 (by decide)) rfl rfl (by decide) rfl hl.1 rfl (Nat.le_of_ble_eq_true rfl) dX4_takeMirror_42 ⟨Nat.le_of_ble_eq_true rfl, Nat.le_of_ble_eq_true rfl⟩) hS (fun u H locs hw hM hS => ?_)
      obtain ⟨I3, L4, rfl, hI, hkI3, xI3⟩ := hw
      have hM : Mem D A ad ns I3 L4 G H := hM
      have hK := hK.trans hkI3 rfl
      have hxf := xI3
      refine lv_goto (tgt := 69) hx hb dX4_takeMirror_45 (by decide) ?_
      exact m_vret hx hb hr hlocks hM hS (Nat.le_of_ble_eq_true rfl) (Nat.le_of_ble_eq_true rfl) ⟨_, _, rfl, hI, hK, ⟨(show OTH w I I3 from OTH.kp hkI3 rfl rfl), (fun K p => by unfold cbM2 cbM; rw [if_neg (by omega), if_pos (by omega)]; exact ars_f (by omega) (by omega))⟩⟩ dX4_takeMirror_69
    · have hc2 := c2
      have q2 := q_nlt hc2
      refine lv_aload_n hx hb dX4_takeMirror_31 rfl (lv_at hl 0 rfl) ?_
      refine m_geti (70) 5 hx hb hts hown hE oc4 hM (hG.1 70 (by decide)) rfl (by decide) rfl tb_323 dX4_takeMirror_32 ?_
      refine lv_bipush (v := (24)) hx hb dX4_takeMirror_35 (by decide) ?_
      refine lv_icmp_lt (tgt := 48) hx hb dX4_takeMirror_37 (by decide) (fun c5 => ?_) (fun c5 => ?_)
      · have hc5 := c5
        have q5 := q_lt hc5
        refine lv_aload_n hx hb dX4_takeMirror_48 rfl (lv_at hl 0 rfl) ?_
        refine m_getr (70) 13 (w) hx hb hts hown hE oc4 hM (hG.1 70 (by decide)) rfl (by decide) rfl hd (by have := lbw hW.1; omega) tb_331 dX4_takeMirror_49 ?_
        refine lv_aload_n hx hb dX4_takeMirror_52 rfl (lv_at hl 0 rfl) ?_
        refine m_geti (70) 5 hx hb hts hown hE oc4 hM (hG.1 70 (by decide)) rfl (by decide) rfl tb_323 dX4_takeMirror_53 ?_
        refine m_callv (m_runV (w) (As := [.int (I (70) 5)]) (rest := []) hx hb hml hown hts hE hM hS hA ce_X3_beginClause tb_681 (V_X3_beginClause_h l D A ad ns I L G (w) (I (70) 5) hG hI hW) rfl rfl ⟨Nat.le_of_ble_eq_true rfl, Nat.le_of_ble_eq_true rfl⟩ hW.l (kW _ hW.1).1 rfl (by decide) rfl hl.1 rfl (Nat.le_of_ble_eq_true rfl) dX4_takeMirror_56 ⟨Nat.le_of_ble_eq_true rfl, Nat.le_of_ble_eq_true rfl⟩) hS (fun u H locs hw hM hS => ?_)
        obtain ⟨I6, L7, rfl, hI, hkI6, xI6⟩ := hw
        have hM : Mem D A ad ns I6 L7 G H := hM
        have hK := hK.trans hkI6 rfl
        obtain ⟨ot8, xI6⟩ := xI6
        refine lv_aload_n hx hb dX4_takeMirror_59 rfl (lv_at hl 0 rfl) ?_
        refine lv_iconst (v := (0)) hx hb dX4_takeMirror_60 (by decide) ?_
        refine m_puti (70) 8 hx hb hts hown hE oc4 hM hS (hG.1 70 (by decide)) rfl (by decide) rfl rfl rfl rfl tb_326 dX4_takeMirror_61 (fun H locs I9 eI9 hM hS => ?_)
        subst eI9
        have hI := hI.putF (n := 70) (k := 8) (v := 0) rfl
        have hK := hK.put (n := 70) (k := 8) (v := 0) (by first | rfl | simp [inR])
        refine lv_aload_n hx hb dX4_takeMirror_64 rfl (lv_at hl 0 rfl) ?_
        refine lv_iconst (v := (3)) hx hb dX4_takeMirror_65 (by decide) ?_
        refine m_puti (70) 7 hx hb hts hown hE oc4 hM hS (hG.1 70 (by decide)) rfl (by decide) rfl rfl rfl rfl tb_325 dX4_takeMirror_66 (fun H locs I10 eI10 hM hS => ?_)
        subst eI10
        have hI := hI.put (n := 70) (k := 7) (v := 3) (lo := 0) (hi := 5) rfl (by first | omega | decide)
        have hK := hK.put (n := 70) (k := 7) (v := 3) (by first | rfl | simp [inR])
        have fz11 : (u2 (u2 I6 (70) 8 (0)) (70) 7 (3)) (70) 2 = I (70) 2 := ((show (u2 (u2 I6 (70) 8 (0)) (70) 7 (3)) (70) 2 = I6 (70) 2 from by simp [u2_v])).trans (hkI6.get (70) 2 rfl)
        have fz11q := congrArg Int32.toInt fz11
        have fz12 : (u2 (u2 I6 (70) 8 (0)) (70) 7 (3)) (70) 7 = 3 := (show (u2 (u2 I6 (70) 8 (0)) (70) 7 (3)) (70) 7 = 3 from by simp [u2_v])
        have fz12q := congrArg Int32.toInt fz12
        have fz13 : (u2 (u2 I6 (70) 8 (0)) (70) 7 (3)) (70) 8 = 0 := (show (u2 (u2 I6 (70) 8 (0)) (70) 7 (3)) (70) 8 = 0 from by simp [u2_v])
        have fz13q := congrArg Int32.toInt fz13
        have fz14 : (u2 (u2 I6 (70) 8 (0)) (70) 7 (3)) (70) 9 = I (70) 9 := ((show (u2 (u2 I6 (70) 8 (0)) (70) 7 (3)) (70) 9 = I6 (70) 9 from by simp [u2_v])).trans (hkI6.get (70) 9 rfl)
        have fz14q := congrArg Int32.toInt fz14
        have fz15 : (u2 (u2 I6 (70) 8 (0)) (70) 7 (3)) (70) 10 = I (70) 10 := ((show (u2 (u2 I6 (70) 8 (0)) (70) 7 (3)) (70) 10 = I6 (70) 10 from by simp [u2_v])).trans (hkI6.get (70) 10 rfl)
        have fz15q := congrArg Int32.toInt fz15
        have fz16 : (u2 (u2 I6 (70) 8 (0)) (70) 7 (3)) (70) 11 = I (70) 11 := ((show (u2 (u2 I6 (70) 8 (0)) (70) 7 (3)) (70) 11 = I6 (70) 11 from by simp [u2_v])).trans (hkI6.get (70) 11 rfl)
        have fz16q := congrArg Int32.toInt fz16
        have fz17 : (u2 (u2 I6 (70) 8 (0)) (70) 7 (3)) (70) 12 = I (70) 12 := ((show (u2 (u2 I6 (70) 8 (0)) (70) 7 (3)) (70) 12 = I6 (70) 12 from by simp [u2_v])).trans (hkI6.get (70) 12 rfl)
        have fz17q := congrArg Int32.toInt fz17
        exact m_vret hx hb hr hlocks hM hS (Nat.le_of_ble_eq_true rfl) (Nat.le_of_ble_eq_true rfl) ⟨_, _, rfl, hI, hK, ⟨(((show OTH w I I6 from ot8).trans (show OTH w I6 (u2 I6 (70) 8 (0)) from OTH.put (by omega))).trans (show OTH w (u2 I6 (70) 8 (0)) (u2 (u2 I6 (70) 8 (0)) (70) 7 (3)) from OTH.put (by omega))), (fun K p => by unfold cbM2 cbM; rw [if_neg (by omega), if_neg (by omega)]; exact ars_k (by omega) (by omega) (by decide) (by omega) (STK_of (((show (u2 (u2 I6 (70) 8 (0)) (70) 7 (3)) 72 = I6 72 from by funext zz; simp [u2_v])).trans (hkI6.getA 72 rfl)) fz11) fz14 (((show LQ w I6 (u2 I6 (70) 8 (0)) from LQ.put hW.1 (by decide)).trans (show LQ w (u2 I6 (70) 8 (0)) (u2 (u2 I6 (70) 8 (0)) (70) 7 (3)) from LQ.put hW.1 (by decide))).1.trans xI6.2) fz15 (by omega) (((show LQ w I6 (u2 I6 (70) 8 (0)) from LQ.put hW.1 (by decide)).trans (show LQ w (u2 I6 (70) 8 (0)) (u2 (u2 I6 (70) 8 (0)) (70) 7 (3)) from LQ.put hW.1 (by decide))).2.trans xI6.1))⟩⟩ dX4_takeMirror_69
      · have hc5 := c5
        have q5 := q_nlt hc5
        refine lv_aload_n hx hb dX4_takeMirror_40 rfl (lv_at hl 0 rfl) ?_
        refine lv_iconst (v := (1)) hx hb dX4_takeMirror_41 (by decide) ?_
        refine m_callv (m_runV (70) (As := [.int (1)]) (rest := []) hx hb hml hown hts hE hM hS hA ce_X4_fail tb_673 (V_X4_fail_h l D A ad ns I L G (1) hG hI (by first | omega | decide)) rfl rfl ⟨Nat.le_of_ble_eq_true rfl, Nat.le_of_ble_eq_true rfl⟩ (hG.1 70 (by decide)) rfl rfl (by decide) rfl hl.1 rfl (Nat.le_of_ble_eq_true rfl) dX4_takeMirror_42 ⟨Nat.le_of_ble_eq_true rfl, Nat.le_of_ble_eq_true rfl⟩) hS (fun u H locs hw hM hS => ?_)
        obtain ⟨I18, L19, rfl, hI, hkI18, xI18⟩ := hw
        have hM : Mem D A ad ns I18 L19 G H := hM
        have hK := hK.trans hkI18 rfl
        have hxf := xI18
        refine lv_goto (tgt := 69) hx hb dX4_takeMirror_45 (by decide) ?_
        exact m_vret hx hb hr hlocks hM hS (Nat.le_of_ble_eq_true rfl) (Nat.le_of_ble_eq_true rfl) ⟨_, _, rfl, hI, hK, ⟨(show OTH w I I18 from OTH.kp hkI18 rfl rfl), (fun K p => by unfold cbM2 cbM; rw [if_neg (by omega), if_pos (by omega)]; exact ars_f (by omega) (by omega))⟩⟩ dX4_takeMirror_69
  · have hc1 := c1
    have q1 := q_nle hc1
    refine lv_aload_n hx hb dX4_takeMirror_7 rfl (lv_at hl 0 rfl) ?_
    refine m_geti (70) 5 hx hb hts hown hE oc4 hM (hG.1 70 (by decide)) rfl (by decide) rfl tb_323 dX4_takeMirror_8 ?_
    refine lv_bipush (v := (-46)) hx hb dX4_takeMirror_11 (by decide) ?_
    refine lv_icmp_eq (tgt := 24) hx hb dX4_takeMirror_13 (by decide) (fun c20 => ?_) (fun c20 => ?_)
    · have hc20 := c20
      have q20 := q_eq hc20
      refine lv_aload_n hx hb dX4_takeMirror_24 rfl (lv_at hl 0 rfl) ?_
      refine m_geti (70) 5 hx hb hts hown hE oc4 hM (hG.1 70 (by decide)) rfl (by decide) rfl tb_323 dX4_takeMirror_25 ?_
      refine lv_if_lt (tgt := 40) hx hb dX4_takeMirror_28 (by decide) (fun c21 => ?_) (fun c21 => ?_)
      · have hc21 := c21
        have q21 := q_lt hc21
        refine lv_aload_n hx hb dX4_takeMirror_40 rfl (lv_at hl 0 rfl) ?_
        refine lv_iconst (v := (1)) hx hb dX4_takeMirror_41 (by decide) ?_
        refine m_callv (m_runV (70) (As := [.int (1)]) (rest := []) hx hb hml hown hts hE hM hS hA ce_X4_fail tb_673 (V_X4_fail_h l D A ad ns I L G (1) hG hI (by first | omega | decide)) rfl rfl ⟨Nat.le_of_ble_eq_true rfl, Nat.le_of_ble_eq_true rfl⟩ (hG.1 70 (by decide)) rfl rfl (by decide) rfl hl.1 rfl (Nat.le_of_ble_eq_true rfl) dX4_takeMirror_42 ⟨Nat.le_of_ble_eq_true rfl, Nat.le_of_ble_eq_true rfl⟩) hS (fun u H locs hw hM hS => ?_)
        obtain ⟨I22, L23, rfl, hI, hkI22, xI22⟩ := hw
        have hM : Mem D A ad ns I22 L23 G H := hM
        have hK := hK.trans hkI22 rfl
        have hxf := xI22
        refine lv_goto (tgt := 69) hx hb dX4_takeMirror_45 (by decide) ?_
        exact m_vret hx hb hr hlocks hM hS (Nat.le_of_ble_eq_true rfl) (Nat.le_of_ble_eq_true rfl) ⟨_, _, rfl, hI, hK, ⟨(show OTH w I I22 from OTH.kp hkI22 rfl rfl), (fun K p => by unfold cbM2 cbM; rw [if_neg (by omega), if_pos (by omega)]; exact ars_f (by omega) (by omega))⟩⟩ dX4_takeMirror_69
      · have hc21 := c21
        have q21 := q_nlt hc21
        refine lv_aload_n hx hb dX4_takeMirror_31 rfl (lv_at hl 0 rfl) ?_
        refine m_geti (70) 5 hx hb hts hown hE oc4 hM (hG.1 70 (by decide)) rfl (by decide) rfl tb_323 dX4_takeMirror_32 ?_
        refine lv_bipush (v := (24)) hx hb dX4_takeMirror_35 (by decide) ?_
        refine lv_icmp_lt (tgt := 48) hx hb dX4_takeMirror_37 (by decide) (fun c24 => ?_) (fun c24 => ?_)
        · have hc24 := c24
          have q24 := q_lt hc24
          refine lv_aload_n hx hb dX4_takeMirror_48 rfl (lv_at hl 0 rfl) ?_
          refine m_getr (70) 13 (w) hx hb hts hown hE oc4 hM (hG.1 70 (by decide)) rfl (by decide) rfl hd (by have := lbw hW.1; omega) tb_331 dX4_takeMirror_49 ?_
          refine lv_aload_n hx hb dX4_takeMirror_52 rfl (lv_at hl 0 rfl) ?_
          refine m_geti (70) 5 hx hb hts hown hE oc4 hM (hG.1 70 (by decide)) rfl (by decide) rfl tb_323 dX4_takeMirror_53 ?_
          refine m_callv (m_runV (w) (As := [.int (I (70) 5)]) (rest := []) hx hb hml hown hts hE hM hS hA ce_X3_beginClause tb_681 (V_X3_beginClause_h l D A ad ns I L G (w) (I (70) 5) hG hI hW) rfl rfl ⟨Nat.le_of_ble_eq_true rfl, Nat.le_of_ble_eq_true rfl⟩ hW.l (kW _ hW.1).1 rfl (by decide) rfl hl.1 rfl (Nat.le_of_ble_eq_true rfl) dX4_takeMirror_56 ⟨Nat.le_of_ble_eq_true rfl, Nat.le_of_ble_eq_true rfl⟩) hS (fun u H locs hw hM hS => ?_)
          obtain ⟨I25, L26, rfl, hI, hkI25, xI25⟩ := hw
          have hM : Mem D A ad ns I25 L26 G H := hM
          have hK := hK.trans hkI25 rfl
          obtain ⟨ot27, xI25⟩ := xI25
          refine lv_aload_n hx hb dX4_takeMirror_59 rfl (lv_at hl 0 rfl) ?_
          refine lv_iconst (v := (0)) hx hb dX4_takeMirror_60 (by decide) ?_
          refine m_puti (70) 8 hx hb hts hown hE oc4 hM hS (hG.1 70 (by decide)) rfl (by decide) rfl rfl rfl rfl tb_326 dX4_takeMirror_61 (fun H locs I28 eI28 hM hS => ?_)
          subst eI28
          have hI := hI.putF (n := 70) (k := 8) (v := 0) rfl
          have hK := hK.put (n := 70) (k := 8) (v := 0) (by first | rfl | simp [inR])
          refine lv_aload_n hx hb dX4_takeMirror_64 rfl (lv_at hl 0 rfl) ?_
          refine lv_iconst (v := (3)) hx hb dX4_takeMirror_65 (by decide) ?_
          refine m_puti (70) 7 hx hb hts hown hE oc4 hM hS (hG.1 70 (by decide)) rfl (by decide) rfl rfl rfl rfl tb_325 dX4_takeMirror_66 (fun H locs I29 eI29 hM hS => ?_)
          subst eI29
          have hI := hI.put (n := 70) (k := 7) (v := 3) (lo := 0) (hi := 5) rfl (by first | omega | decide)
          have hK := hK.put (n := 70) (k := 7) (v := 3) (by first | rfl | simp [inR])
          have fz30 : (u2 (u2 I25 (70) 8 (0)) (70) 7 (3)) (70) 2 = I (70) 2 := ((show (u2 (u2 I25 (70) 8 (0)) (70) 7 (3)) (70) 2 = I25 (70) 2 from by simp [u2_v])).trans (hkI25.get (70) 2 rfl)
          have fz30q := congrArg Int32.toInt fz30
          have fz31 : (u2 (u2 I25 (70) 8 (0)) (70) 7 (3)) (70) 7 = 3 := (show (u2 (u2 I25 (70) 8 (0)) (70) 7 (3)) (70) 7 = 3 from by simp [u2_v])
          have fz31q := congrArg Int32.toInt fz31
          have fz32 : (u2 (u2 I25 (70) 8 (0)) (70) 7 (3)) (70) 8 = 0 := (show (u2 (u2 I25 (70) 8 (0)) (70) 7 (3)) (70) 8 = 0 from by simp [u2_v])
          have fz32q := congrArg Int32.toInt fz32
          have fz33 : (u2 (u2 I25 (70) 8 (0)) (70) 7 (3)) (70) 9 = I (70) 9 := ((show (u2 (u2 I25 (70) 8 (0)) (70) 7 (3)) (70) 9 = I25 (70) 9 from by simp [u2_v])).trans (hkI25.get (70) 9 rfl)
          have fz33q := congrArg Int32.toInt fz33
          have fz34 : (u2 (u2 I25 (70) 8 (0)) (70) 7 (3)) (70) 10 = I (70) 10 := ((show (u2 (u2 I25 (70) 8 (0)) (70) 7 (3)) (70) 10 = I25 (70) 10 from by simp [u2_v])).trans (hkI25.get (70) 10 rfl)
          have fz34q := congrArg Int32.toInt fz34
          have fz35 : (u2 (u2 I25 (70) 8 (0)) (70) 7 (3)) (70) 11 = I (70) 11 := ((show (u2 (u2 I25 (70) 8 (0)) (70) 7 (3)) (70) 11 = I25 (70) 11 from by simp [u2_v])).trans (hkI25.get (70) 11 rfl)
          have fz35q := congrArg Int32.toInt fz35
          have fz36 : (u2 (u2 I25 (70) 8 (0)) (70) 7 (3)) (70) 12 = I (70) 12 := ((show (u2 (u2 I25 (70) 8 (0)) (70) 7 (3)) (70) 12 = I25 (70) 12 from by simp [u2_v])).trans (hkI25.get (70) 12 rfl)
          have fz36q := congrArg Int32.toInt fz36
          exact m_vret hx hb hr hlocks hM hS (Nat.le_of_ble_eq_true rfl) (Nat.le_of_ble_eq_true rfl) ⟨_, _, rfl, hI, hK, ⟨(((show OTH w I I25 from ot27).trans (show OTH w I25 (u2 I25 (70) 8 (0)) from OTH.put (by omega))).trans (show OTH w (u2 I25 (70) 8 (0)) (u2 (u2 I25 (70) 8 (0)) (70) 7 (3)) from OTH.put (by omega))), (fun K p => by unfold cbM2 cbM; rw [if_neg (by omega), if_neg (by omega)]; exact ars_k (by omega) (by omega) (by decide) (by omega) (STK_of (((show (u2 (u2 I25 (70) 8 (0)) (70) 7 (3)) 72 = I25 72 from by funext zz; simp [u2_v])).trans (hkI25.getA 72 rfl)) fz30) fz33 (((show LQ w I25 (u2 I25 (70) 8 (0)) from LQ.put hW.1 (by decide)).trans (show LQ w (u2 I25 (70) 8 (0)) (u2 (u2 I25 (70) 8 (0)) (70) 7 (3)) from LQ.put hW.1 (by decide))).1.trans xI25.2) fz34 (by omega) (((show LQ w I25 (u2 I25 (70) 8 (0)) from LQ.put hW.1 (by decide)).trans (show LQ w (u2 I25 (70) 8 (0)) (u2 (u2 I25 (70) 8 (0)) (70) 7 (3)) from LQ.put hW.1 (by decide))).2.trans xI25.1))⟩⟩ dX4_takeMirror_69
        · have hc24 := c24
          have q24 := q_nlt hc24
          refine lv_aload_n hx hb dX4_takeMirror_40 rfl (lv_at hl 0 rfl) ?_
          refine lv_iconst (v := (1)) hx hb dX4_takeMirror_41 (by decide) ?_
          refine m_callv (m_runV (70) (As := [.int (1)]) (rest := []) hx hb hml hown hts hE hM hS hA ce_X4_fail tb_673 (V_X4_fail_h l D A ad ns I L G (1) hG hI (by first | omega | decide)) rfl rfl ⟨Nat.le_of_ble_eq_true rfl, Nat.le_of_ble_eq_true rfl⟩ (hG.1 70 (by decide)) rfl rfl (by decide) rfl hl.1 rfl (Nat.le_of_ble_eq_true rfl) dX4_takeMirror_42 ⟨Nat.le_of_ble_eq_true rfl, Nat.le_of_ble_eq_true rfl⟩) hS (fun u H locs hw hM hS => ?_)
          obtain ⟨I37, L38, rfl, hI, hkI37, xI37⟩ := hw
          have hM : Mem D A ad ns I37 L38 G H := hM
          have hK := hK.trans hkI37 rfl
          have hxf := xI37
          refine lv_goto (tgt := 69) hx hb dX4_takeMirror_45 (by decide) ?_
          exact m_vret hx hb hr hlocks hM hS (Nat.le_of_ble_eq_true rfl) (Nat.le_of_ble_eq_true rfl) ⟨_, _, rfl, hI, hK, ⟨(show OTH w I I37 from OTH.kp hkI37 rfl rfl), (fun K p => by unfold cbM2 cbM; rw [if_neg (by omega), if_pos (by omega)]; exact ars_f (by omega) (by omega))⟩⟩ dX4_takeMirror_69
    · have hc20 := c20
      have q20 := q_ne hc20
      refine lv_aload_n hx hb dX4_takeMirror_16 rfl (lv_at hl 0 rfl) ?_
      refine lv_iconst (v := (0)) hx hb dX4_takeMirror_17 (by decide) ?_
      refine m_callv (m_runV (70) (As := [.int (0)]) (rest := []) hx hb hml hown hts hE hM hS hA ce_X4_fail tb_673 (V_X4_fail_h l D A ad ns I L G (0) hG hI (by first | omega | decide)) rfl rfl ⟨Nat.le_of_ble_eq_true rfl, Nat.le_of_ble_eq_true rfl⟩ (hG.1 70 (by decide)) rfl rfl (by decide) rfl hl.1 rfl (Nat.le_of_ble_eq_true rfl) dX4_takeMirror_18 ⟨Nat.le_of_ble_eq_true rfl, Nat.le_of_ble_eq_true rfl⟩) hS (fun u H locs hw hM hS => ?_)
      obtain ⟨I39, L40, rfl, hI, hkI39, xI39⟩ := hw
      have hM : Mem D A ad ns I39 L40 G H := hM
      have hK := hK.trans hkI39 rfl
      have hxf := xI39
      refine lv_goto (tgt := 69) hx hb dX4_takeMirror_21 (by decide) ?_
      exact m_vret hx hb hr hlocks hM hS (Nat.le_of_ble_eq_true rfl) (Nat.le_of_ble_eq_true rfl) ⟨_, _, rfl, hI, hK, ⟨(show OTH w I I39 from OTH.kp hkI39 rfl rfl), (fun K p => by unfold cbM2 cbM; rw [if_pos (by omega)]; exact ars_f (by omega) (by omega))⟩⟩ dX4_takeMirror_69
set_option maxHeartbeats 4000000 in
set_option maxRecDepth 20000 in
theorem V_X4_takeValue_h (l : Launch) (D : va_G) (A : Nat → Prop) (ad : Nat → Nat) (ns : List Nat) (I : MI) (L : ML) (G : MG) (w : Nat) (hG : SGC ns G) (hI : INV I) (hW : LOK ns G w) (hd : G 70 13 = w) (hf0 : (I 70 12).toInt = 0) : Met l yX4_takeValue (wd yX4_takeValue cX4_takeValue 1 none) ({ frames := 2, cells := 0, slots := 0, locals := 41 }) (va_Pc [.ref (ad (70))] (PM D A ad ns I L G)) (va_Qv (fun u => ∃ I2 L2, u = (ad, ns, I2, L2, G) ∧ INV I2 ∧ Kp [(200, 300)] [(70, 7), (70, 11), (70, 12)] I I2 ∧ (OTH w I I2 ∧ (SX cbV w I I2))) (BM D A) A) 0 0 A := by
  refine m_ofW (by decide) (Nat.le_of_ble_eq_true rfl) ?_
  intro p e s m below meth c ls args hC hE hM hA hS hl
  obtain ⟨hx, hb, hml, hown, hts, hr, hlocks, hin⟩ := hC
  have km46 : (-46 : Int32).toInt = -46 := by decide
  have km14 : (-14 : Int32).toInt = -14 := by decide
  have k0 : (0 : Int32).toInt = 0 := by decide
  have k1 : (1 : Int32).toInt = 1 := by decide
  have k4 : (4 : Int32).toInt = 4 := by decide
  have hK : Kp [(200, 300)] [(70, 7), (70, 11), (70, 12)] I I := Kp.rf
  have hl : lv_has ls 1 [(0, .ref (ad (70)))] := hl
  refine lv_aload_n hx hb dX4_takeValue_0 rfl (lv_at hl 0 rfl) ?_
  refine m_geti (70) 5 hx hb hts hown hE oc4 hM (hG.1 70 (by decide)) rfl (by decide) rfl tb_323 dX4_takeValue_1 ?_
  refine lv_bipush (v := (-46)) hx hb dX4_takeValue_4 (by decide) ?_
  refine lv_icmp_ne (tgt := 17) hx hb dX4_takeValue_6 (by decide) (fun c1 => ?_) (fun c1 => ?_)
  · have hc1 := c1
    have q1 := q_ne hc1
    refine lv_aload_n hx hb dX4_takeValue_17 rfl (lv_at hl 0 rfl) ?_
    refine m_geti (70) 5 hx hb hts hown hE oc4 hM (hG.1 70 (by decide)) rfl (by decide) rfl tb_323 dX4_takeValue_18 ?_
    refine lv_bipush (v := (-14)) hx hb dX4_takeValue_21 (by decide) ?_
    refine lv_icmp_gt (tgt := 34) hx hb dX4_takeValue_23 (by decide) (fun c2 => ?_) (fun c2 => ?_)
    · have hc2 := c2
      have q2 := q_lt hc2
      refine lv_aload_n hx hb dX4_takeValue_34 rfl (lv_at hl 0 rfl) ?_
      refine m_calli (m_runV (70) (As := []) (rest := []) hx hb hml hown hts hE hM hS hA ce_X4_countsOneMore tb_693 (V_X4_countsOneMore_h l D A ad ns I L G hG hI) rfl rfl ⟨Nat.le_of_ble_eq_true rfl, Nat.le_of_ble_eq_true rfl⟩ (hG.1 70 (by decide)) rfl rfl (by decide) rfl hl.1 rfl (Nat.le_of_ble_eq_true rfl) dX4_takeValue_35 ⟨Nat.le_of_ble_eq_true rfl, Nat.le_of_ble_eq_true rfl⟩) hS (fun r3 u H locs hw hM hS => ?_)
      obtain ⟨I4, L5, rfl, hI, hkI4, xr3⟩ := hw
      have hM : Mem D A ad ns I4 L5 G H := hM
      have hK := hK.trans hkI4 rfl
      have hcx := xr3
      unfold CNT at hcx
      refine lv_if_eq (tgt := 57) hx hb dX4_takeValue_38 (by decide) (fun c6 => ?_) (fun c6 => ?_)
      · have hc6 := c6
        have q6 := q_eq hc6
        exact m_vret hx hb hr hlocks hM hS (Nat.le_of_ble_eq_true rfl) (Nat.le_of_ble_eq_true rfl) ⟨_, _, rfl, hI, hK, ⟨(show OTH w I I4 from OTH.kp hkI4 rfl rfl), (fun K p => by unfold cbV; rw [if_neg (by omega), if_neg (by omega), if_pos (by omega)]; exact ars_f (by omega) (by omega))⟩⟩ dX4_takeValue_57
      · have hc6 := c6
        have q6 := q_ne hc6
        refine lv_aload_n hx hb dX4_takeValue_41 rfl (lv_at hl 0 rfl) ?_
        refine m_getr (70) 13 (w) hx hb hts hown hE oc4 hM (hG.1 70 (by decide)) rfl (by decide) rfl hd (by have := lbw hW.1; omega) tb_331 dX4_takeValue_42 ?_
        refine lv_aload_n hx hb dX4_takeValue_45 rfl (lv_at hl 0 rfl) ?_
        refine m_geti (70) 5 hx hb hts hown hE oc4 hM (hG.1 70 (by decide)) rfl (by decide) rfl tb_323 dX4_takeValue_46 ?_
        have z7 : I4 (70) 5 = I (70) 5 := (hkI4.get (70) 5 rfl)
        rw [z7]
        refine m_callv (m_runV (w) (As := [.int (I (70) 5)]) (rest := []) hx hb hml hown hts hE hM hS hA ce_X3_add tb_697 (V_X3_add_h l D A ad ns I4 L5 G (w) (I (70) 5) hG hI hW) rfl rfl ⟨Nat.le_of_ble_eq_true rfl, Nat.le_of_ble_eq_true rfl⟩ hW.l (kW _ hW.1).1 rfl (by decide) rfl hl.1 rfl (Nat.le_of_ble_eq_true rfl) dX4_takeValue_49 ⟨Nat.le_of_ble_eq_true rfl, Nat.le_of_ble_eq_true rfl⟩) hS (fun u H locs hw hM hS => ?_)
        obtain ⟨I8, L9, rfl, hI, hkI8, xI8⟩ := hw
        have hM : Mem D A ad ns I8 L9 G H := hM
        have hK := hK.trans hkI8 rfl
        obtain ⟨ot10, xI8⟩ := xI8
        refine lv_aload_n hx hb dX4_takeValue_52 rfl (lv_at hl 0 rfl) ?_
        refine lv_iconst (v := (4)) hx hb dX4_takeValue_53 (by decide) ?_
        refine m_puti (70) 7 hx hb hts hown hE oc4 hM hS (hG.1 70 (by decide)) rfl (by decide) rfl rfl rfl rfl tb_325 dX4_takeValue_54 (fun H locs I11 eI11 hM hS => ?_)
        subst eI11
        have hI := hI.put (n := 70) (k := 7) (v := 4) (lo := 0) (hi := 5) rfl (by first | omega | decide)
        have hK := hK.put (n := 70) (k := 7) (v := 4) (by first | rfl | simp [inR])
        have fz12 : (u2 I8 (70) 7 (4)) (70) 2 = I (70) 2 := (((show (u2 I8 (70) 7 (4)) (70) 2 = I8 (70) 2 from by simp [u2_v])).trans (hkI8.get (70) 2 rfl)).trans (hkI4.get (70) 2 rfl)
        have fz12q := congrArg Int32.toInt fz12
        have fz13 : (u2 I8 (70) 7 (4)) (70) 7 = 4 := (show (u2 I8 (70) 7 (4)) (70) 7 = 4 from by simp [u2_v])
        have fz13q := congrArg Int32.toInt fz13
        have fz14 : (u2 I8 (70) 7 (4)) (70) 8 = I (70) 8 := (((show (u2 I8 (70) 7 (4)) (70) 8 = I8 (70) 8 from by simp [u2_v])).trans (hkI8.get (70) 8 rfl)).trans (hkI4.get (70) 8 rfl)
        have fz14q := congrArg Int32.toInt fz14
        have fz15 : (u2 I8 (70) 7 (4)) (70) 9 = I (70) 9 := (((show (u2 I8 (70) 7 (4)) (70) 9 = I8 (70) 9 from by simp [u2_v])).trans (hkI8.get (70) 9 rfl)).trans (hkI4.get (70) 9 rfl)
        have fz15q := congrArg Int32.toInt fz15
        have fz16 : (u2 I8 (70) 7 (4)) (70) 10 = I (70) 10 := (((show (u2 I8 (70) 7 (4)) (70) 10 = I8 (70) 10 from by simp [u2_v])).trans (hkI8.get (70) 10 rfl)).trans (hkI4.get (70) 10 rfl)
        have fz16q := congrArg Int32.toInt fz16
        have fz17 : (u2 I8 (70) 7 (4)) (70) 11 = I4 (70) 11 := ((show (u2 I8 (70) 7 (4)) (70) 11 = I8 (70) 11 from by simp [u2_v])).trans (hkI8.get (70) 11 rfl)
        have fz17q := congrArg Int32.toInt fz17
        have fz18 : (u2 I8 (70) 7 (4)) (70) 12 = I4 (70) 12 := ((show (u2 I8 (70) 7 (4)) (70) 12 = I8 (70) 12 from by simp [u2_v])).trans (hkI8.get (70) 12 rfl)
        have fz18q := congrArg Int32.toInt fz18
        exact m_vret hx hb hr hlocks hM hS (Nat.le_of_ble_eq_true rfl) (Nat.le_of_ble_eq_true rfl) ⟨_, _, rfl, hI, hK, ⟨(((show OTH w I I4 from OTH.kp hkI4 rfl rfl).trans (show OTH w I4 I8 from ot10)).trans (show OTH w I8 (u2 I8 (70) 7 (4)) from OTH.put (by omega))), (fun K p => by unfold cbV; rw [if_neg (by omega), if_neg (by omega), if_neg (by omega)]; exact ars_k (by omega) (by omega) (by decide) (by omega) (STK_of ((((show (u2 I8 (70) 7 (4)) 72 = I8 72 from by funext zz; simp [u2_v])).trans (hkI8.getA 72 rfl)).trans (hkI4.getA 72 rfl)) fz12) fz15 ((show LQ w I8 (u2 I8 (70) 7 (4)) from LQ.put hW.1 (by decide)).1.trans (xI8.1.trans (by rw [(show LQ w I I4 from LQ.kp hW.1 hkI4 rfl rfl).1]))) fz16 (by omega) ((show LQ w I8 (u2 I8 (70) 7 (4)) from LQ.put hW.1 (by decide)).2.trans (xI8.2.trans (show LQ w I I4 from LQ.kp hW.1 hkI4 rfl rfl).2)))⟩⟩ dX4_takeValue_57
    · have hc2 := c2
      have q2 := q_nlt hc2
      refine lv_aload_n hx hb dX4_takeValue_26 rfl (lv_at hl 0 rfl) ?_
      refine lv_iconst (v := (0)) hx hb dX4_takeValue_27 (by decide) ?_
      refine m_callv (m_runV (70) (As := [.int (0)]) (rest := []) hx hb hml hown hts hE hM hS hA ce_X4_fail tb_673 (V_X4_fail_h l D A ad ns I L G (0) hG hI (by first | omega | decide)) rfl rfl ⟨Nat.le_of_ble_eq_true rfl, Nat.le_of_ble_eq_true rfl⟩ (hG.1 70 (by decide)) rfl rfl (by decide) rfl hl.1 rfl (Nat.le_of_ble_eq_true rfl) dX4_takeValue_28 ⟨Nat.le_of_ble_eq_true rfl, Nat.le_of_ble_eq_true rfl⟩) hS (fun u H locs hw hM hS => ?_)
      obtain ⟨I19, L20, rfl, hI, hkI19, xI19⟩ := hw
      have hM : Mem D A ad ns I19 L20 G H := hM
      have hK := hK.trans hkI19 rfl
      have hxf := xI19
      refine lv_goto (tgt := 57) hx hb dX4_takeValue_31 (by decide) ?_
      exact m_vret hx hb hr hlocks hM hS (Nat.le_of_ble_eq_true rfl) (Nat.le_of_ble_eq_true rfl) ⟨_, _, rfl, hI, hK, ⟨(show OTH w I I19 from OTH.kp hkI19 rfl rfl), (fun K p => by unfold cbV; rw [if_neg (by omega), if_pos (by omega)]; exact ars_f (by omega) (by omega))⟩⟩ dX4_takeValue_57
  · have hc1 := c1
    have q1 := q_eq hc1
    refine lv_aload_n hx hb dX4_takeValue_9 rfl (lv_at hl 0 rfl) ?_
    refine lv_iconst (v := (1)) hx hb dX4_takeValue_10 (by decide) ?_
    refine m_callv (m_runV (70) (As := [.int (1)]) (rest := []) hx hb hml hown hts hE hM hS hA ce_X4_fail tb_673 (V_X4_fail_h l D A ad ns I L G (1) hG hI (by first | omega | decide)) rfl rfl ⟨Nat.le_of_ble_eq_true rfl, Nat.le_of_ble_eq_true rfl⟩ (hG.1 70 (by decide)) rfl rfl (by decide) rfl hl.1 rfl (Nat.le_of_ble_eq_true rfl) dX4_takeValue_11 ⟨Nat.le_of_ble_eq_true rfl, Nat.le_of_ble_eq_true rfl⟩) hS (fun u H locs hw hM hS => ?_)
    obtain ⟨I21, L22, rfl, hI, hkI21, xI21⟩ := hw
    have hM : Mem D A ad ns I21 L22 G H := hM
    have hK := hK.trans hkI21 rfl
    have hxf := xI21
    refine lv_goto (tgt := 57) hx hb dX4_takeValue_14 (by decide) ?_
    exact m_vret hx hb hr hlocks hM hS (Nat.le_of_ble_eq_true rfl) (Nat.le_of_ble_eq_true rfl) ⟨_, _, rfl, hI, hK, ⟨(show OTH w I I21 from OTH.kp hkI21 rfl rfl), (fun K p => by unfold cbV; rw [if_pos (by omega)]; exact ars_f (by omega) (by omega))⟩⟩ dX4_takeValue_57
set_option maxHeartbeats 4000000 in
set_option maxRecDepth 20000 in
theorem V_X4_takeFact_h (l : Launch) (D : va_G) (A : Nat → Prop) (ad : Nat → Nat) (ns : List Nat) (I : MI) (L : ML) (G : MG) (w : Nat) (hG : SGC ns G) (hI : INV I) (hW : LOK ns G w) (hd : G 70 13 = w) (hf0 : (I 70 12).toInt = 0) (h7 : (I 70 7).toInt = 2) : Met l yX4_takeFact (wd yX4_takeFact cX4_takeFact 1 none) ({ frames := 3, cells := 0, slots := 0, locals := 61 }) (va_Pc [.ref (ad (70))] (PM D A ad ns I L G)) (va_Qv (fun u => ∃ I2 L2, u = (ad, ns, I2, L2, G) ∧ INV I2 ∧ Kp [(72, 73), (200, 300)] [(70, 2), (70, 7), (70, 8), (70, 9), (70, 10), (70, 11), (70, 12)] I I2 ∧ (OTH w I I2 ∧ (SX cbF w I I2))) (BM D A) A) 0 0 A := by
  refine m_ofW (by decide) (Nat.le_of_ble_eq_true rfl) ?_
  intro p e s m below meth c ls args hC hE hM hA hS hl
  obtain ⟨hx, hb, hml, hown, hts, hr, hlocks, hin⟩ := hC
  have km42 : (-42 : Int32).toInt = -42 := by decide
  have km14 : (-14 : Int32).toInt = -14 := by decide
  have k0 : (0 : Int32).toInt = 0 := by decide
  have k1 : (1 : Int32).toInt = 1 := by decide
  have k2 : (2 : Int32).toInt = 2 := by decide
  have k10 : (10 : Int32).toInt = 10 := by decide
  have hK : Kp [(72, 73), (200, 300)] [(70, 2), (70, 7), (70, 8), (70, 9), (70, 10), (70, 11), (70, 12)] I I := Kp.rf
  have hl : lv_has ls 1 [(0, .ref (ad (70)))] := hl
  refine lv_aload_n hx hb dX4_takeFact_0 rfl (lv_at hl 0 rfl) ?_
  refine m_geti (70) 5 hx hb hts hown hE oc4 hM (hG.1 70 (by decide)) rfl (by decide) rfl tb_323 dX4_takeFact_1 ?_
  refine lv_bipush (v := (-14)) hx hb dX4_takeFact_4 (by decide) ?_
  refine lv_icmp_eq (tgt := 30) hx hb dX4_takeFact_6 (by decide) (fun c1 => ?_) (fun c1 => ?_)
  · have hc1 := c1
    have q1 := q_eq hc1
    refine lv_aload_n hx hb dX4_takeFact_30 rfl (lv_at hl 0 rfl) ?_
    refine m_geti (70) 9 hx hb hts hown hE oc4 hM (hG.1 70 (by decide)) rfl (by decide) rfl tb_327 dX4_takeFact_31 ?_
    refine lv_bipush (v := (10)) hx hb dX4_takeFact_34 (by decide) ?_
    refine lv_icmp_lt (tgt := 47) hx hb dX4_takeFact_36 (by decide) (fun c2 => ?_) (fun c2 => ?_)
    · have hc2 := c2
      have q2 := q_lt hc2
      refine lv_aload_n hx hb dX4_takeFact_47 rfl (lv_at hl 0 rfl) ?_
      refine lv_dup hx hb dX4_takeFact_48 rfl ?_
      refine m_geti (70) 9 hx hb hts hown hE oc4 hM (hG.1 70 (by decide)) rfl (by decide) rfl tb_327 dX4_takeFact_49 ?_
      refine lv_iconst (v := (1)) hx hb dX4_takeFact_52 (by decide) ?_
      refine lv_iadd hx hb dX4_takeFact_53 ?_
      refine lv_topi (fun v3 ev3 => ?_)
      refine m_puti (70) 9 hx hb hts hown hE oc4 hM hS (hG.1 70 (by decide)) rfl (by decide) rfl rfl rfl rfl tb_327 dX4_takeFact_54 (fun H locs I4 eI4 hM hS => ?_)
      subst eI4
      have hI := hI.putF (n := 70) (k := 9) (v := v3) rfl
      have hK := hK.put (n := 70) (k := 9) (v := v3) (by first | rfl | simp [inR])
      refine lv_aload_n hx hb dX4_takeFact_57 rfl (lv_at hl 0 rfl) ?_
      refine lv_dup hx hb dX4_takeFact_58 rfl ?_
      refine m_geti (70) 10 hx hb hts hown hE oc4 hM (hG.1 70 (by decide)) rfl (by decide) rfl tb_328 dX4_takeFact_59 ?_
      have z5 : (u2 I (70) 9 (v3)) (70) 10 = I (70) 10 := (show (u2 I (70) 9 (v3)) (70) 10 = I (70) 10 from by simp [u2_v])
      rw [z5]
      refine lv_aload_n hx hb dX4_takeFact_62 rfl (lv_at hl 0 rfl) ?_
      refine m_geti (70) 5 hx hb hts hown hE oc4 hM (hG.1 70 (by decide)) rfl (by decide) rfl tb_323 dX4_takeFact_63 ?_
      have z6 : (u2 I (70) 9 (v3)) (70) 5 = I (70) 5 := (show (u2 I (70) 9 (v3)) (70) 5 = I (70) 5 from by simp [u2_v])
      rw [z6]
      refine lv_bipush (v := (-42)) hx hb dX4_takeFact_66 (by decide) ?_
      refine lv_icmp_ne (tgt := 75) hx hb dX4_takeFact_68 (by decide) (fun c7 => ?_) (fun c7 => ?_)
      · have hc7 := c7
        have q7 := q_ne hc7
        refine lv_iconst (v := (0)) hx hb dX4_takeFact_75 (by decide) ?_
        refine lv_iadd hx hb dX4_takeFact_76 ?_
        refine lv_topi (fun v8 ev8 => ?_)
        refine m_puti (70) 10 hx hb hts hown hE oc4 hM hS (hG.1 70 (by decide)) rfl (by decide) rfl rfl rfl rfl tb_328 dX4_takeFact_77 (fun H locs I9 eI9 hM hS => ?_)
        subst eI9
        have hI := hI.putF (n := 70) (k := 10) (v := v8) rfl
        have hK := hK.put (n := 70) (k := 10) (v := v8) (by first | rfl | simp [inR])
        refine lv_aload_n hx hb dX4_takeFact_80 rfl (lv_at hl 0 rfl) ?_
        refine lv_aload_n hx hb dX4_takeFact_81 rfl (lv_at hl 0 rfl) ?_
        refine m_geti (70) 5 hx hb hts hown hE oc4 hM (hG.1 70 (by decide)) rfl (by decide) rfl tb_323 dX4_takeFact_82 ?_
        have z10 : (u2 (u2 I (70) 9 (v3)) (70) 10 (v8)) (70) 5 = I (70) 5 := (show (u2 (u2 I (70) 9 (v3)) (70) 10 (v8)) (70) 5 = I (70) 5 from by simp [u2_v])
        rw [z10]
        refine m_callv (m_runV (70) (As := [.int (I (70) 5)]) (rest := []) hx hb hml hown hts hE hM hS hA ce_X4_push tb_701 (V_X4_push_h l D A ad ns (u2 (u2 I (70) 9 (v3)) (70) 10 (v8)) L G (I (70) 5) hG hI) rfl rfl ⟨Nat.le_of_ble_eq_true rfl, Nat.le_of_ble_eq_true rfl⟩ (hG.1 70 (by decide)) rfl rfl (by decide) rfl hl.1 rfl (Nat.le_of_ble_eq_true rfl) dX4_takeFact_85 ⟨Nat.le_of_ble_eq_true rfl, Nat.le_of_ble_eq_true rfl⟩) hS (fun u H locs hw hM hS => ?_)
        obtain ⟨I11, L12, rfl, hI, hkI11, xI11⟩ := hw
        have hM : Mem D A ad ns I11 L12 G H := hM
        have hK := hK.trans hkI11 rfl
        have fz13 : I11 (70) 7 = I (70) 7 := ((hkI11.get (70) 7 rfl)).trans (show (u2 (u2 I (70) 9 (v3)) (70) 10 (v8)) (70) 7 = I (70) 7 from by simp [u2_v])
        have fz13q := congrArg Int32.toInt fz13
        have fz14 : I11 (70) 8 = I (70) 8 := ((hkI11.get (70) 8 rfl)).trans (show (u2 (u2 I (70) 9 (v3)) (70) 10 (v8)) (70) 8 = I (70) 8 from by simp [u2_v])
        have fz14q := congrArg Int32.toInt fz14
        have fz15 : I11 (70) 9 = v3 := ((hkI11.get (70) 9 rfl)).trans (show (u2 (u2 I (70) 9 (v3)) (70) 10 (v8)) (70) 9 = v3 from by simp [u2_v])
        have fz15q := congrArg Int32.toInt fz15
        have fz16 : I11 (70) 10 = v8 := ((hkI11.get (70) 10 rfl)).trans (show (u2 (u2 I (70) 9 (v3)) (70) 10 (v8)) (70) 10 = v8 from by simp [u2_v])
        have fz16q := congrArg Int32.toInt fz16
        have fz17 : I11 (70) 11 = I (70) 11 := ((hkI11.get (70) 11 rfl)).trans (show (u2 (u2 I (70) 9 (v3)) (70) 10 (v8)) (70) 11 = I (70) 11 from by simp [u2_v])
        have fz17q := congrArg Int32.toInt fz17
        have fz18 : I11 (70) 12 = I (70) 12 := ((hkI11.get (70) 12 rfl)).trans (show (u2 (u2 I (70) 9 (v3)) (70) 10 (v8)) (70) 12 = I (70) 12 from by simp [u2_v])
        have fz18q := congrArg Int32.toInt fz18
        exact m_vret hx hb hr hlocks hM hS (Nat.le_of_ble_eq_true rfl) (Nat.le_of_ble_eq_true rfl) ⟨_, _, rfl, hI, hK, ⟨(((show OTH w I (u2 I (70) 9 (v3)) from OTH.put (by omega)).trans (show OTH w (u2 I (70) 9 (v3)) (u2 (u2 I (70) 9 (v3)) (70) 10 (v8)) from OTH.put (by omega))).trans (show OTH w (u2 (u2 I (70) 9 (v3)) (70) 10 (v8)) I11 from OTH.kp hkI11 rfl rfl)), (fun K p => by unfold cbF; rw [if_pos (by omega), if_neg (by omega)]; exact ars_k (by omega) (by omega) (by decide) (by omega) (xI11.trans (by rw [STK_of (I := I) (I2 := (u2 (u2 I (70) 9 (v3)) (70) 10 (v8))) (by funext zz; simp [u2_v]) (by simp [u2_v])])) ((((hkI11.get (70) 9 rfl)).trans (show (u2 (u2 I (70) 9 (v3)) (70) 10 (v8)) (70) 9 = v3 from by simp [u2_v])).trans ev3) (((show LQ w I (u2 I (70) 9 (v3)) from LQ.put hW.1 (by decide)).trans (show LQ w (u2 I (70) 9 (v3)) (u2 (u2 I (70) 9 (v3)) (70) 10 (v8)) from LQ.put hW.1 (by decide))).trans (show LQ w (u2 (u2 I (70) 9 (v3)) (70) 10 (v8)) I11 from LQ.kp hW.1 hkI11 rfl rfl)).1 (by rw [if_neg (by omega)]; exact (((hkI11.get (70) 10 rfl)).trans (show (u2 (u2 I (70) 9 (v3)) (70) 10 (v8)) (70) 10 = v8 from by simp [u2_v])).trans ev8) (by omega) (((show LQ w I (u2 I (70) 9 (v3)) from LQ.put hW.1 (by decide)).trans (show LQ w (u2 I (70) 9 (v3)) (u2 (u2 I (70) 9 (v3)) (70) 10 (v8)) from LQ.put hW.1 (by decide))).trans (show LQ w (u2 (u2 I (70) 9 (v3)) (70) 10 (v8)) I11 from LQ.kp hW.1 hkI11 rfl rfl)).2)⟩⟩ dX4_takeFact_88
      · have hc7 := c7
        have q7 := q_eq hc7
        refine lv_iconst (v := (1)) hx hb dX4_takeFact_71 (by decide) ?_
        refine lv_goto (tgt := 76) hx hb dX4_takeFact_72 (by decide) ?_
        refine lv_iadd hx hb dX4_takeFact_76 ?_
        refine lv_topi (fun v19 ev19 => ?_)
        refine m_puti (70) 10 hx hb hts hown hE oc4 hM hS (hG.1 70 (by decide)) rfl (by decide) rfl rfl rfl rfl tb_328 dX4_takeFact_77 (fun H locs I20 eI20 hM hS => ?_)
        subst eI20
        have hI := hI.putF (n := 70) (k := 10) (v := v19) rfl
        have hK := hK.put (n := 70) (k := 10) (v := v19) (by first | rfl | simp [inR])
        refine lv_aload_n hx hb dX4_takeFact_80 rfl (lv_at hl 0 rfl) ?_
        refine lv_aload_n hx hb dX4_takeFact_81 rfl (lv_at hl 0 rfl) ?_
        refine m_geti (70) 5 hx hb hts hown hE oc4 hM (hG.1 70 (by decide)) rfl (by decide) rfl tb_323 dX4_takeFact_82 ?_
        have z21 : (u2 (u2 I (70) 9 (v3)) (70) 10 (v19)) (70) 5 = I (70) 5 := (show (u2 (u2 I (70) 9 (v3)) (70) 10 (v19)) (70) 5 = I (70) 5 from by simp [u2_v])
        rw [z21]
        refine m_callv (m_runV (70) (As := [.int (I (70) 5)]) (rest := []) hx hb hml hown hts hE hM hS hA ce_X4_push tb_701 (V_X4_push_h l D A ad ns (u2 (u2 I (70) 9 (v3)) (70) 10 (v19)) L G (I (70) 5) hG hI) rfl rfl ⟨Nat.le_of_ble_eq_true rfl, Nat.le_of_ble_eq_true rfl⟩ (hG.1 70 (by decide)) rfl rfl (by decide) rfl hl.1 rfl (Nat.le_of_ble_eq_true rfl) dX4_takeFact_85 ⟨Nat.le_of_ble_eq_true rfl, Nat.le_of_ble_eq_true rfl⟩) hS (fun u H locs hw hM hS => ?_)
        obtain ⟨I22, L23, rfl, hI, hkI22, xI22⟩ := hw
        have hM : Mem D A ad ns I22 L23 G H := hM
        have hK := hK.trans hkI22 rfl
        have fz24 : I22 (70) 7 = I (70) 7 := ((hkI22.get (70) 7 rfl)).trans (show (u2 (u2 I (70) 9 (v3)) (70) 10 (v19)) (70) 7 = I (70) 7 from by simp [u2_v])
        have fz24q := congrArg Int32.toInt fz24
        have fz25 : I22 (70) 8 = I (70) 8 := ((hkI22.get (70) 8 rfl)).trans (show (u2 (u2 I (70) 9 (v3)) (70) 10 (v19)) (70) 8 = I (70) 8 from by simp [u2_v])
        have fz25q := congrArg Int32.toInt fz25
        have fz26 : I22 (70) 9 = v3 := ((hkI22.get (70) 9 rfl)).trans (show (u2 (u2 I (70) 9 (v3)) (70) 10 (v19)) (70) 9 = v3 from by simp [u2_v])
        have fz26q := congrArg Int32.toInt fz26
        have fz27 : I22 (70) 10 = v19 := ((hkI22.get (70) 10 rfl)).trans (show (u2 (u2 I (70) 9 (v3)) (70) 10 (v19)) (70) 10 = v19 from by simp [u2_v])
        have fz27q := congrArg Int32.toInt fz27
        have fz28 : I22 (70) 11 = I (70) 11 := ((hkI22.get (70) 11 rfl)).trans (show (u2 (u2 I (70) 9 (v3)) (70) 10 (v19)) (70) 11 = I (70) 11 from by simp [u2_v])
        have fz28q := congrArg Int32.toInt fz28
        have fz29 : I22 (70) 12 = I (70) 12 := ((hkI22.get (70) 12 rfl)).trans (show (u2 (u2 I (70) 9 (v3)) (70) 10 (v19)) (70) 12 = I (70) 12 from by simp [u2_v])
        have fz29q := congrArg Int32.toInt fz29
        exact m_vret hx hb hr hlocks hM hS (Nat.le_of_ble_eq_true rfl) (Nat.le_of_ble_eq_true rfl) ⟨_, _, rfl, hI, hK, ⟨(((show OTH w I (u2 I (70) 9 (v3)) from OTH.put (by omega)).trans (show OTH w (u2 I (70) 9 (v3)) (u2 (u2 I (70) 9 (v3)) (70) 10 (v19)) from OTH.put (by omega))).trans (show OTH w (u2 (u2 I (70) 9 (v3)) (70) 10 (v19)) I22 from OTH.kp hkI22 rfl rfl)), (fun K p => by unfold cbF; rw [if_pos (by omega), if_neg (by omega)]; exact ars_k (by omega) (by omega) (by decide) (by omega) (xI22.trans (by rw [STK_of (I := I) (I2 := (u2 (u2 I (70) 9 (v3)) (70) 10 (v19))) (by funext zz; simp [u2_v]) (by simp [u2_v])])) ((((hkI22.get (70) 9 rfl)).trans (show (u2 (u2 I (70) 9 (v3)) (70) 10 (v19)) (70) 9 = v3 from by simp [u2_v])).trans ev3) (((show LQ w I (u2 I (70) 9 (v3)) from LQ.put hW.1 (by decide)).trans (show LQ w (u2 I (70) 9 (v3)) (u2 (u2 I (70) 9 (v3)) (70) 10 (v19)) from LQ.put hW.1 (by decide))).trans (show LQ w (u2 (u2 I (70) 9 (v3)) (70) 10 (v19)) I22 from LQ.kp hW.1 hkI22 rfl rfl)).1 (by rw [if_pos (by omega)]; exact (((hkI22.get (70) 10 rfl)).trans (show (u2 (u2 I (70) 9 (v3)) (70) 10 (v19)) (70) 10 = v19 from by simp [u2_v])).trans ev19) (by omega) (((show LQ w I (u2 I (70) 9 (v3)) from LQ.put hW.1 (by decide)).trans (show LQ w (u2 I (70) 9 (v3)) (u2 (u2 I (70) 9 (v3)) (70) 10 (v19)) from LQ.put hW.1 (by decide))).trans (show LQ w (u2 (u2 I (70) 9 (v3)) (70) 10 (v19)) I22 from LQ.kp hW.1 hkI22 rfl rfl)).2)⟩⟩ dX4_takeFact_88
    · have hc2 := c2
      have q2 := q_nlt hc2
      refine lv_aload_n hx hb dX4_takeFact_39 rfl (lv_at hl 0 rfl) ?_
      refine lv_iconst (v := (2)) hx hb dX4_takeFact_40 (by decide) ?_
      refine m_callv (m_runV (70) (As := [.int (2)]) (rest := []) hx hb hml hown hts hE hM hS hA ce_X4_fail tb_673 (V_X4_fail_h l D A ad ns I L G (2) hG hI (by first | omega | decide)) rfl rfl ⟨Nat.le_of_ble_eq_true rfl, Nat.le_of_ble_eq_true rfl⟩ (hG.1 70 (by decide)) rfl rfl (by decide) rfl hl.1 rfl (Nat.le_of_ble_eq_true rfl) dX4_takeFact_41 ⟨Nat.le_of_ble_eq_true rfl, Nat.le_of_ble_eq_true rfl⟩) hS (fun u H locs hw hM hS => ?_)
      obtain ⟨I30, L31, rfl, hI, hkI30, xI30⟩ := hw
      have hM : Mem D A ad ns I30 L31 G H := hM
      have hK := hK.trans hkI30 rfl
      have hxf := xI30
      refine lv_goto (tgt := 88) hx hb dX4_takeFact_44 (by decide) ?_
      exact m_vret hx hb hr hlocks hM hS (Nat.le_of_ble_eq_true rfl) (Nat.le_of_ble_eq_true rfl) ⟨_, _, rfl, hI, hK, ⟨(show OTH w I I30 from OTH.kp hkI30 rfl rfl), (fun K p => by unfold cbF; rw [if_pos (by omega), if_pos (by omega)]; exact ars_f (by omega) (by omega))⟩⟩ dX4_takeFact_88
  · have hc1 := c1
    have q1 := q_ne hc1
    refine lv_aload_n hx hb dX4_takeFact_9 rfl (lv_at hl 0 rfl) ?_
    refine m_geti (70) 5 hx hb hts hown hE oc4 hM (hG.1 70 (by decide)) rfl (by decide) rfl tb_323 dX4_takeFact_10 ?_
    refine lv_bipush (v := (-42)) hx hb dX4_takeFact_13 (by decide) ?_
    refine lv_icmp_eq (tgt := 30) hx hb dX4_takeFact_15 (by decide) (fun c32 => ?_) (fun c32 => ?_)
    · have hc32 := c32
      have q32 := q_eq hc32
      refine lv_aload_n hx hb dX4_takeFact_30 rfl (lv_at hl 0 rfl) ?_
      refine m_geti (70) 9 hx hb hts hown hE oc4 hM (hG.1 70 (by decide)) rfl (by decide) rfl tb_327 dX4_takeFact_31 ?_
      refine lv_bipush (v := (10)) hx hb dX4_takeFact_34 (by decide) ?_
      refine lv_icmp_lt (tgt := 47) hx hb dX4_takeFact_36 (by decide) (fun c33 => ?_) (fun c33 => ?_)
      · have hc33 := c33
        have q33 := q_lt hc33
        refine lv_aload_n hx hb dX4_takeFact_47 rfl (lv_at hl 0 rfl) ?_
        refine lv_dup hx hb dX4_takeFact_48 rfl ?_
        refine m_geti (70) 9 hx hb hts hown hE oc4 hM (hG.1 70 (by decide)) rfl (by decide) rfl tb_327 dX4_takeFact_49 ?_
        refine lv_iconst (v := (1)) hx hb dX4_takeFact_52 (by decide) ?_
        refine lv_iadd hx hb dX4_takeFact_53 ?_
        refine lv_topi (fun v34 ev34 => ?_)
        refine m_puti (70) 9 hx hb hts hown hE oc4 hM hS (hG.1 70 (by decide)) rfl (by decide) rfl rfl rfl rfl tb_327 dX4_takeFact_54 (fun H locs I35 eI35 hM hS => ?_)
        subst eI35
        have hI := hI.putF (n := 70) (k := 9) (v := v34) rfl
        have hK := hK.put (n := 70) (k := 9) (v := v34) (by first | rfl | simp [inR])
        refine lv_aload_n hx hb dX4_takeFact_57 rfl (lv_at hl 0 rfl) ?_
        refine lv_dup hx hb dX4_takeFact_58 rfl ?_
        refine m_geti (70) 10 hx hb hts hown hE oc4 hM (hG.1 70 (by decide)) rfl (by decide) rfl tb_328 dX4_takeFact_59 ?_
        have z36 : (u2 I (70) 9 (v34)) (70) 10 = I (70) 10 := (show (u2 I (70) 9 (v34)) (70) 10 = I (70) 10 from by simp [u2_v])
        rw [z36]
        refine lv_aload_n hx hb dX4_takeFact_62 rfl (lv_at hl 0 rfl) ?_
        refine m_geti (70) 5 hx hb hts hown hE oc4 hM (hG.1 70 (by decide)) rfl (by decide) rfl tb_323 dX4_takeFact_63 ?_
        have z37 : (u2 I (70) 9 (v34)) (70) 5 = I (70) 5 := (show (u2 I (70) 9 (v34)) (70) 5 = I (70) 5 from by simp [u2_v])
        rw [z37]
        refine lv_bipush (v := (-42)) hx hb dX4_takeFact_66 (by decide) ?_
        refine lv_icmp_ne (tgt := 75) hx hb dX4_takeFact_68 (by decide) (fun c38 => ?_) (fun c38 => ?_)
        · have hc38 := c38
          have q38 := q_ne hc38
          refine lv_iconst (v := (0)) hx hb dX4_takeFact_75 (by decide) ?_
          refine lv_iadd hx hb dX4_takeFact_76 ?_
          refine lv_topi (fun v39 ev39 => ?_)
          refine m_puti (70) 10 hx hb hts hown hE oc4 hM hS (hG.1 70 (by decide)) rfl (by decide) rfl rfl rfl rfl tb_328 dX4_takeFact_77 (fun H locs I40 eI40 hM hS => ?_)
          subst eI40
          have hI := hI.putF (n := 70) (k := 10) (v := v39) rfl
          have hK := hK.put (n := 70) (k := 10) (v := v39) (by first | rfl | simp [inR])
          refine lv_aload_n hx hb dX4_takeFact_80 rfl (lv_at hl 0 rfl) ?_
          refine lv_aload_n hx hb dX4_takeFact_81 rfl (lv_at hl 0 rfl) ?_
          refine m_geti (70) 5 hx hb hts hown hE oc4 hM (hG.1 70 (by decide)) rfl (by decide) rfl tb_323 dX4_takeFact_82 ?_
          have z41 : (u2 (u2 I (70) 9 (v34)) (70) 10 (v39)) (70) 5 = I (70) 5 := (show (u2 (u2 I (70) 9 (v34)) (70) 10 (v39)) (70) 5 = I (70) 5 from by simp [u2_v])
          rw [z41]
          refine m_callv (m_runV (70) (As := [.int (I (70) 5)]) (rest := []) hx hb hml hown hts hE hM hS hA ce_X4_push tb_701 (V_X4_push_h l D A ad ns (u2 (u2 I (70) 9 (v34)) (70) 10 (v39)) L G (I (70) 5) hG hI) rfl rfl ⟨Nat.le_of_ble_eq_true rfl, Nat.le_of_ble_eq_true rfl⟩ (hG.1 70 (by decide)) rfl rfl (by decide) rfl hl.1 rfl (Nat.le_of_ble_eq_true rfl) dX4_takeFact_85 ⟨Nat.le_of_ble_eq_true rfl, Nat.le_of_ble_eq_true rfl⟩) hS (fun u H locs hw hM hS => ?_)
          obtain ⟨I42, L43, rfl, hI, hkI42, xI42⟩ := hw
          have hM : Mem D A ad ns I42 L43 G H := hM
          have hK := hK.trans hkI42 rfl
          have fz44 : I42 (70) 7 = I (70) 7 := ((hkI42.get (70) 7 rfl)).trans (show (u2 (u2 I (70) 9 (v34)) (70) 10 (v39)) (70) 7 = I (70) 7 from by simp [u2_v])
          have fz44q := congrArg Int32.toInt fz44
          have fz45 : I42 (70) 8 = I (70) 8 := ((hkI42.get (70) 8 rfl)).trans (show (u2 (u2 I (70) 9 (v34)) (70) 10 (v39)) (70) 8 = I (70) 8 from by simp [u2_v])
          have fz45q := congrArg Int32.toInt fz45
          have fz46 : I42 (70) 9 = v34 := ((hkI42.get (70) 9 rfl)).trans (show (u2 (u2 I (70) 9 (v34)) (70) 10 (v39)) (70) 9 = v34 from by simp [u2_v])
          have fz46q := congrArg Int32.toInt fz46
          have fz47 : I42 (70) 10 = v39 := ((hkI42.get (70) 10 rfl)).trans (show (u2 (u2 I (70) 9 (v34)) (70) 10 (v39)) (70) 10 = v39 from by simp [u2_v])
          have fz47q := congrArg Int32.toInt fz47
          have fz48 : I42 (70) 11 = I (70) 11 := ((hkI42.get (70) 11 rfl)).trans (show (u2 (u2 I (70) 9 (v34)) (70) 10 (v39)) (70) 11 = I (70) 11 from by simp [u2_v])
          have fz48q := congrArg Int32.toInt fz48
          have fz49 : I42 (70) 12 = I (70) 12 := ((hkI42.get (70) 12 rfl)).trans (show (u2 (u2 I (70) 9 (v34)) (70) 10 (v39)) (70) 12 = I (70) 12 from by simp [u2_v])
          have fz49q := congrArg Int32.toInt fz49
          exact m_vret hx hb hr hlocks hM hS (Nat.le_of_ble_eq_true rfl) (Nat.le_of_ble_eq_true rfl) ⟨_, _, rfl, hI, hK, ⟨(((show OTH w I (u2 I (70) 9 (v34)) from OTH.put (by omega)).trans (show OTH w (u2 I (70) 9 (v34)) (u2 (u2 I (70) 9 (v34)) (70) 10 (v39)) from OTH.put (by omega))).trans (show OTH w (u2 (u2 I (70) 9 (v34)) (70) 10 (v39)) I42 from OTH.kp hkI42 rfl rfl)), (fun K p => by unfold cbF; rw [if_pos (by omega), if_neg (by omega)]; exact ars_k (by omega) (by omega) (by decide) (by omega) (xI42.trans (by rw [STK_of (I := I) (I2 := (u2 (u2 I (70) 9 (v34)) (70) 10 (v39))) (by funext zz; simp [u2_v]) (by simp [u2_v])])) ((((hkI42.get (70) 9 rfl)).trans (show (u2 (u2 I (70) 9 (v34)) (70) 10 (v39)) (70) 9 = v34 from by simp [u2_v])).trans ev34) (((show LQ w I (u2 I (70) 9 (v34)) from LQ.put hW.1 (by decide)).trans (show LQ w (u2 I (70) 9 (v34)) (u2 (u2 I (70) 9 (v34)) (70) 10 (v39)) from LQ.put hW.1 (by decide))).trans (show LQ w (u2 (u2 I (70) 9 (v34)) (70) 10 (v39)) I42 from LQ.kp hW.1 hkI42 rfl rfl)).1 (by rw [if_neg (by omega)]; exact (((hkI42.get (70) 10 rfl)).trans (show (u2 (u2 I (70) 9 (v34)) (70) 10 (v39)) (70) 10 = v39 from by simp [u2_v])).trans ev39) (by omega) (((show LQ w I (u2 I (70) 9 (v34)) from LQ.put hW.1 (by decide)).trans (show LQ w (u2 I (70) 9 (v34)) (u2 (u2 I (70) 9 (v34)) (70) 10 (v39)) from LQ.put hW.1 (by decide))).trans (show LQ w (u2 (u2 I (70) 9 (v34)) (70) 10 (v39)) I42 from LQ.kp hW.1 hkI42 rfl rfl)).2)⟩⟩ dX4_takeFact_88
        · have hc38 := c38
          have q38 := q_eq hc38
          refine lv_iconst (v := (1)) hx hb dX4_takeFact_71 (by decide) ?_
          refine lv_goto (tgt := 76) hx hb dX4_takeFact_72 (by decide) ?_
          refine lv_iadd hx hb dX4_takeFact_76 ?_
          refine lv_topi (fun v50 ev50 => ?_)
          refine m_puti (70) 10 hx hb hts hown hE oc4 hM hS (hG.1 70 (by decide)) rfl (by decide) rfl rfl rfl rfl tb_328 dX4_takeFact_77 (fun H locs I51 eI51 hM hS => ?_)
          subst eI51
          have hI := hI.putF (n := 70) (k := 10) (v := v50) rfl
          have hK := hK.put (n := 70) (k := 10) (v := v50) (by first | rfl | simp [inR])
          refine lv_aload_n hx hb dX4_takeFact_80 rfl (lv_at hl 0 rfl) ?_
          refine lv_aload_n hx hb dX4_takeFact_81 rfl (lv_at hl 0 rfl) ?_
          refine m_geti (70) 5 hx hb hts hown hE oc4 hM (hG.1 70 (by decide)) rfl (by decide) rfl tb_323 dX4_takeFact_82 ?_
          have z52 : (u2 (u2 I (70) 9 (v34)) (70) 10 (v50)) (70) 5 = I (70) 5 := (show (u2 (u2 I (70) 9 (v34)) (70) 10 (v50)) (70) 5 = I (70) 5 from by simp [u2_v])
          rw [z52]
          refine m_callv (m_runV (70) (As := [.int (I (70) 5)]) (rest := []) hx hb hml hown hts hE hM hS hA ce_X4_push tb_701 (V_X4_push_h l D A ad ns (u2 (u2 I (70) 9 (v34)) (70) 10 (v50)) L G (I (70) 5) hG hI) rfl rfl ⟨Nat.le_of_ble_eq_true rfl, Nat.le_of_ble_eq_true rfl⟩ (hG.1 70 (by decide)) rfl rfl (by decide) rfl hl.1 rfl (Nat.le_of_ble_eq_true rfl) dX4_takeFact_85 ⟨Nat.le_of_ble_eq_true rfl, Nat.le_of_ble_eq_true rfl⟩) hS (fun u H locs hw hM hS => ?_)
          obtain ⟨I53, L54, rfl, hI, hkI53, xI53⟩ := hw
          have hM : Mem D A ad ns I53 L54 G H := hM
          have hK := hK.trans hkI53 rfl
          have fz55 : I53 (70) 7 = I (70) 7 := ((hkI53.get (70) 7 rfl)).trans (show (u2 (u2 I (70) 9 (v34)) (70) 10 (v50)) (70) 7 = I (70) 7 from by simp [u2_v])
          have fz55q := congrArg Int32.toInt fz55
          have fz56 : I53 (70) 8 = I (70) 8 := ((hkI53.get (70) 8 rfl)).trans (show (u2 (u2 I (70) 9 (v34)) (70) 10 (v50)) (70) 8 = I (70) 8 from by simp [u2_v])
          have fz56q := congrArg Int32.toInt fz56
          have fz57 : I53 (70) 9 = v34 := ((hkI53.get (70) 9 rfl)).trans (show (u2 (u2 I (70) 9 (v34)) (70) 10 (v50)) (70) 9 = v34 from by simp [u2_v])
          have fz57q := congrArg Int32.toInt fz57
          have fz58 : I53 (70) 10 = v50 := ((hkI53.get (70) 10 rfl)).trans (show (u2 (u2 I (70) 9 (v34)) (70) 10 (v50)) (70) 10 = v50 from by simp [u2_v])
          have fz58q := congrArg Int32.toInt fz58
          have fz59 : I53 (70) 11 = I (70) 11 := ((hkI53.get (70) 11 rfl)).trans (show (u2 (u2 I (70) 9 (v34)) (70) 10 (v50)) (70) 11 = I (70) 11 from by simp [u2_v])
          have fz59q := congrArg Int32.toInt fz59
          have fz60 : I53 (70) 12 = I (70) 12 := ((hkI53.get (70) 12 rfl)).trans (show (u2 (u2 I (70) 9 (v34)) (70) 10 (v50)) (70) 12 = I (70) 12 from by simp [u2_v])
          have fz60q := congrArg Int32.toInt fz60
          exact m_vret hx hb hr hlocks hM hS (Nat.le_of_ble_eq_true rfl) (Nat.le_of_ble_eq_true rfl) ⟨_, _, rfl, hI, hK, ⟨(((show OTH w I (u2 I (70) 9 (v34)) from OTH.put (by omega)).trans (show OTH w (u2 I (70) 9 (v34)) (u2 (u2 I (70) 9 (v34)) (70) 10 (v50)) from OTH.put (by omega))).trans (show OTH w (u2 (u2 I (70) 9 (v34)) (70) 10 (v50)) I53 from OTH.kp hkI53 rfl rfl)), (fun K p => by unfold cbF; rw [if_pos (by omega), if_neg (by omega)]; exact ars_k (by omega) (by omega) (by decide) (by omega) (xI53.trans (by rw [STK_of (I := I) (I2 := (u2 (u2 I (70) 9 (v34)) (70) 10 (v50))) (by funext zz; simp [u2_v]) (by simp [u2_v])])) ((((hkI53.get (70) 9 rfl)).trans (show (u2 (u2 I (70) 9 (v34)) (70) 10 (v50)) (70) 9 = v34 from by simp [u2_v])).trans ev34) (((show LQ w I (u2 I (70) 9 (v34)) from LQ.put hW.1 (by decide)).trans (show LQ w (u2 I (70) 9 (v34)) (u2 (u2 I (70) 9 (v34)) (70) 10 (v50)) from LQ.put hW.1 (by decide))).trans (show LQ w (u2 (u2 I (70) 9 (v34)) (70) 10 (v50)) I53 from LQ.kp hW.1 hkI53 rfl rfl)).1 (by rw [if_pos (by omega)]; exact (((hkI53.get (70) 10 rfl)).trans (show (u2 (u2 I (70) 9 (v34)) (70) 10 (v50)) (70) 10 = v50 from by simp [u2_v])).trans ev50) (by omega) (((show LQ w I (u2 I (70) 9 (v34)) from LQ.put hW.1 (by decide)).trans (show LQ w (u2 I (70) 9 (v34)) (u2 (u2 I (70) 9 (v34)) (70) 10 (v50)) from LQ.put hW.1 (by decide))).trans (show LQ w (u2 (u2 I (70) 9 (v34)) (70) 10 (v50)) I53 from LQ.kp hW.1 hkI53 rfl rfl)).2)⟩⟩ dX4_takeFact_88
      · have hc33 := c33
        have q33 := q_nlt hc33
        refine lv_aload_n hx hb dX4_takeFact_39 rfl (lv_at hl 0 rfl) ?_
        refine lv_iconst (v := (2)) hx hb dX4_takeFact_40 (by decide) ?_
        refine m_callv (m_runV (70) (As := [.int (2)]) (rest := []) hx hb hml hown hts hE hM hS hA ce_X4_fail tb_673 (V_X4_fail_h l D A ad ns I L G (2) hG hI (by first | omega | decide)) rfl rfl ⟨Nat.le_of_ble_eq_true rfl, Nat.le_of_ble_eq_true rfl⟩ (hG.1 70 (by decide)) rfl rfl (by decide) rfl hl.1 rfl (Nat.le_of_ble_eq_true rfl) dX4_takeFact_41 ⟨Nat.le_of_ble_eq_true rfl, Nat.le_of_ble_eq_true rfl⟩) hS (fun u H locs hw hM hS => ?_)
        obtain ⟨I61, L62, rfl, hI, hkI61, xI61⟩ := hw
        have hM : Mem D A ad ns I61 L62 G H := hM
        have hK := hK.trans hkI61 rfl
        have hxf := xI61
        refine lv_goto (tgt := 88) hx hb dX4_takeFact_44 (by decide) ?_
        exact m_vret hx hb hr hlocks hM hS (Nat.le_of_ble_eq_true rfl) (Nat.le_of_ble_eq_true rfl) ⟨_, _, rfl, hI, hK, ⟨(show OTH w I I61 from OTH.kp hkI61 rfl rfl), (fun K p => by unfold cbF; rw [if_pos (by omega), if_pos (by omega)]; exact ars_f (by omega) (by omega))⟩⟩ dX4_takeFact_88
    · have hc32 := c32
      have q32 := q_ne hc32
      refine lv_aload_n hx hb dX4_takeFact_18 rfl (lv_at hl 0 rfl) ?_
      refine lv_iconst (v := (1)) hx hb dX4_takeFact_19 (by decide) ?_
      refine m_puti (70) 8 hx hb hts hown hE oc4 hM hS (hG.1 70 (by decide)) rfl (by decide) rfl rfl rfl rfl tb_326 dX4_takeFact_20 (fun H locs I63 eI63 hM hS => ?_)
      subst eI63
      have hI := hI.putF (n := 70) (k := 8) (v := 1) rfl
      have hK := hK.put (n := 70) (k := 8) (v := 1) (by first | rfl | simp [inR])
      refine lv_aload_n hx hb dX4_takeFact_23 rfl (lv_at hl 0 rfl) ?_
      refine m_callv (m_runV (70) (As := []) (rest := []) hx hb hml hown hts hE hM hS hA ce_X4_takeValue tb_689 (V_X4_takeValue_h l D A ad ns (u2 I (70) 8 (1)) L G (w) hG hI hW hd (by rw [(show (u2 I (70) 8 (1)) (70) 12 = I (70) 12 from by simp [u2_v])]; exact hf0)) rfl rfl ⟨Nat.le_of_ble_eq_true rfl, Nat.le_of_ble_eq_true rfl⟩ (hG.1 70 (by decide)) rfl rfl (by decide) rfl hl.1 rfl (Nat.le_of_ble_eq_true rfl) dX4_takeFact_24 ⟨Nat.le_of_ble_eq_true rfl, Nat.le_of_ble_eq_true rfl⟩) hS (fun u H locs hw hM hS => ?_)
      obtain ⟨I64, L65, rfl, hI, hkI64, xI64⟩ := hw
      have hM : Mem D A ad ns I64 L65 G H := hM
      have hK := hK.trans hkI64 rfl
      obtain ⟨ot66, xI64⟩ := xI64
      refine lv_goto (tgt := 88) hx hb dX4_takeFact_27 (by decide) ?_
      exact m_vret hx hb hr hlocks hM hS (Nat.le_of_ble_eq_true rfl) (Nat.le_of_ble_eq_true rfl) ⟨_, _, rfl, hI, hK, ⟨((show OTH w I (u2 I (70) 8 (1)) from OTH.put (by omega)).trans (show OTH w (u2 I (70) 8 (1)) I64 from ot66)), (fun K p => by unfold cbF; rw [if_neg (by omega)]; have hxq := xI64.beg (I := I) (by simp [u2_v]) (by simp [u2_v]) (by simp [u2_v]) (by simp [u2_v]) (by simp [u2_v]) (STK_of (by funext zz; simp [u2_v]) (by simp [u2_v])) (LQ.put hW.1 (by decide)) K p; rw [show ((u2 I (70) 8 (1)) 70 8).toInt = 1 from by rw [u2_self]; exact k1] at hxq; exact hxq)⟩⟩ dX4_takeFact_88
set_option maxHeartbeats 4000000 in
set_option maxRecDepth 20000 in
theorem V_X4_takeBehind_h (l : Launch) (D : va_G) (A : Nat → Prop) (ad : Nat → Nat) (ns : List Nat) (I : MI) (L : ML) (G : MG) (w : Nat) (hG : SGC ns G) (hI : INV I) (hW : LOK ns G w) (hd : G 70 13 = w) (hf0 : (I 70 12).toInt = 0) (h7 : (I 70 7).toInt = 4) : Met l yX4_takeBehind (wd yX4_takeBehind cX4_takeBehind 2 none) ({ frames := 3, cells := 0, slots := 0, locals := 64 }) (va_Pc [.ref (ad (70))] (PM D A ad ns I L G)) (va_Qv (fun u => ∃ I2 L2, u = (ad, ns, I2, L2, G) ∧ INV I2 ∧ Kp [(72, 73), (200, 300)] [(70, 2), (70, 7), (70, 8), (70, 9), (70, 10), (70, 11), (70, 12)] I I2 ∧ (OTH w I I2 ∧ (SX cbB w I I2))) (BM D A) A) 0 0 A := by
  refine m_ofW (by decide) (Nat.le_of_ble_eq_true rfl) ?_
  intro p e s m below meth c ls args hC hE hM hA hS hl
  obtain ⟨hx, hb, hml, hown, hts, hr, hlocks, hin⟩ := hC
  have km45 : (-45 : Int32).toInt = -45 := by decide
  have km44 : (-44 : Int32).toInt = -44 := by decide
  have km43 : (-43 : Int32).toInt = -43 := by decide
  have km41 : (-41 : Int32).toInt = -41 := by decide
  have km25 : (-25 : Int32).toInt = -25 := by decide
  have km24 : (-24 : Int32).toInt = -24 := by decide
  have km23 : (-23 : Int32).toInt = -23 := by decide
  have km19 : (-19 : Int32).toInt = -19 := by decide
  have km18 : (-18 : Int32).toInt = -18 := by decide
  have km15 : (-15 : Int32).toInt = -15 := by decide
  have k0 : (0 : Int32).toInt = 0 := by decide
  have k1 : (1 : Int32).toInt = 1 := by decide
  have k2 : (2 : Int32).toInt = 2 := by decide
  have k3 : (3 : Int32).toInt = 3 := by decide
  have hK : Kp [(72, 73), (200, 300)] [(70, 2), (70, 7), (70, 8), (70, 9), (70, 10), (70, 11), (70, 12)] I I := Kp.rf
  have hl : lv_has ls 2 [(0, .ref (ad (70)))] := hl
  have join236 : ∀ (x1_236 : Int32) (H : Heap) (locs : List Loc) (ls : Array Slot), (0 ≤ x1_236.toInt ∧ x1_236.toInt ≤ 1) → (((x1_236).toInt = 1 ∧ ((I 70 8).toInt = 2 ∨ (I 70 8).toInt = 3)) ∨ ((x1_236).toInt = 0 ∧ (I 70 8).toInt ≠ 2 ∧ (I 70 8).toInt ≠ 3)) → (¬ (((I 70 5).toInt ≤ -15 ∧ -18 ≤ (I 70 5).toInt) ∧ (I 70 8).toInt ≠ 3)) → (¬ (((I 70 5).toInt ≤ -19 ∧ -23 ≤ (I 70 5).toInt) ∧ (I 70 8).toInt = 1)) → (¬ (((I 70 5).toInt = -24 ∨ (I 70 5).toInt = -25) ∧ ((I 70 8).toInt = 2 ∨ (I 70 8).toInt = 3))) → (¬ ((I 70 5).toInt = -43 ∧ ((I 70 8).toInt = 2 ∨ (I 70 8).toInt = 3) ∧ 0 < (I 70 10).toInt)) → (¬ ((I 70 5).toInt = -41 ∧ (I 70 8).toInt = 0)) → (¬ (((I 70 5).toInt = -44 ∨ (I 70 5).toInt = -45) ∧ (I 70 8).toInt ≠ 1 ∧ (I 70 10).toInt = 0)) → Mem D A ad ns I L G H → va_S A s.heap H locs → lv_has ls 2 [(1, .int (x1_236)), (0, .ref (ad (70)))] → W p l e ({ frames := 3, cells := 0, slots := 0, locals := 64 } : Room) s m args below meth c H locs 0 0 (MQ below (va_Qv (fun u => ∃ I2 L2, u = (ad, ns, I2, L2, G) ∧ INV I2 ∧ Kp [(72, 73), (200, 300)] [(70, 2), (70, 7), (70, 8), (70, 9), (70, 10), (70, 11), (70, 12)] I I2 ∧ (OTH w I I2 ∧ (SX cbB w I I2))) (BM D A) A) args s 0 0 A) (F0 m 236 ls []) := by
    intro x1_236 H locs ls hr1_236 j22 j60 j102 j133 j160 j196 j236 hM hS hl
    refine lv_aload_n hx hb dX4_takeBehind_236 rfl (lv_at hl 1 rfl) ?_
    refine lv_iconst (v := (0)) hx hb dX4_takeBehind_237 (by decide) ?_
    refine m_callv (m_runV (70) (As := [.int (0)]) (rest := []) hx hb hml hown hts hE hM hS hA ce_X4_fail tb_673 (V_X4_fail_h l D A ad ns I L G (0) hG hI (by first | omega | decide)) rfl rfl ⟨Nat.le_of_ble_eq_true rfl, Nat.le_of_ble_eq_true rfl⟩ (hG.1 70 (by decide)) rfl rfl (by decide) rfl hl.1 rfl (Nat.le_of_ble_eq_true rfl) dX4_takeBehind_238 ⟨Nat.le_of_ble_eq_true rfl, Nat.le_of_ble_eq_true rfl⟩) hS (fun u H locs hw hM hS => ?_)
    obtain ⟨I1, L2, rfl, hI, hkI1, xI1⟩ := hw
    have hM : Mem D A ad ns I1 L2 G H := hM
    have hK := hK.trans hkI1 rfl
    have hxf := xI1
    exact m_vret hx hb hr hlocks hM hS (Nat.le_of_ble_eq_true rfl) (Nat.le_of_ble_eq_true rfl) ⟨_, _, rfl, hI, hK, ⟨(show OTH w I I1 from OTH.kp hkI1 rfl rfl), (fun K p => by unfold cbB; rw [if_neg j60, if_neg j102, if_neg j133, if_neg j160, if_neg j196, if_neg (fun e => by have e3 := congrArg Int32.toInt e.2.2; omega)]; exact ars_f (by omega) (by omega))⟩⟩ dX4_takeBehind_241
  have join196 : ∀ (x1_196 : Int32) (H : Heap) (locs : List Loc) (ls : Array Slot), (0 ≤ x1_196.toInt ∧ x1_196.toInt ≤ 1) → (((x1_196).toInt = 1 ∧ ((I 70 8).toInt = 2 ∨ (I 70 8).toInt = 3)) ∨ ((x1_196).toInt = 0 ∧ (I 70 8).toInt ≠ 2 ∧ (I 70 8).toInt ≠ 3)) → (¬ (((I 70 5).toInt ≤ -15 ∧ -18 ≤ (I 70 5).toInt) ∧ (I 70 8).toInt ≠ 3)) → (¬ (((I 70 5).toInt ≤ -19 ∧ -23 ≤ (I 70 5).toInt) ∧ (I 70 8).toInt = 1)) → (¬ (((I 70 5).toInt = -24 ∨ (I 70 5).toInt = -25) ∧ ((I 70 8).toInt = 2 ∨ (I 70 8).toInt = 3))) → (¬ ((I 70 5).toInt = -43 ∧ ((I 70 8).toInt = 2 ∨ (I 70 8).toInt = 3) ∧ 0 < (I 70 10).toInt)) → (¬ ((I 70 5).toInt = -41 ∧ (I 70 8).toInt = 0)) → Mem D A ad ns I L G H → va_S A s.heap H locs → lv_has ls 2 [(1, .int (x1_196)), (0, .ref (ad (70)))] → W p l e ({ frames := 3, cells := 0, slots := 0, locals := 64 } : Room) s m args below meth c H locs 0 0 (MQ below (va_Qv (fun u => ∃ I2 L2, u = (ad, ns, I2, L2, G) ∧ INV I2 ∧ Kp [(72, 73), (200, 300)] [(70, 2), (70, 7), (70, 8), (70, 9), (70, 10), (70, 11), (70, 12)] I I2 ∧ (OTH w I I2 ∧ (SX cbB w I I2))) (BM D A) A) args s 0 0 A) (F0 m 196 ls []) := by
    intro x1_196 H locs ls hr1_196 j22 j60 j102 j133 j160 j196 hM hS hl
    refine lv_aload_n hx hb dX4_takeBehind_196 rfl (lv_at hl 1 rfl) ?_
    refine m_geti (70) 5 hx hb hts hown hE oc4 hM (hG.1 70 (by decide)) rfl (by decide) rfl tb_323 dX4_takeBehind_197 ?_
    refine lv_bipush (v := (-44)) hx hb dX4_takeBehind_200 (by decide) ?_
    refine lv_icmp_eq (tgt := 214) hx hb dX4_takeBehind_202 (by decide) (fun c3 => ?_) (fun c3 => ?_)
    · have hc3 := c3
      have q3 := q_eq hc3
      refine lv_aload_n hx hb dX4_takeBehind_214 rfl (lv_at hl 1 rfl) ?_
      refine m_geti (70) 8 hx hb hts hown hE oc4 hM (hG.1 70 (by decide)) rfl (by decide) rfl tb_326 dX4_takeBehind_215 ?_
      refine lv_iconst (v := (1)) hx hb dX4_takeBehind_218 (by decide) ?_
      refine lv_icmp_eq (tgt := 236) hx hb dX4_takeBehind_219 (by decide) (fun c4 => ?_) (fun c4 => ?_)
      · have hc4 := c4
        have q4 := q_eq hc4
        exact join236 (x1_196) _ _ ls (by first | omega | decide) (by first | omega | decide) (by first | omega | decide) (by first | omega | decide) (by first | omega | decide) (by first | omega | decide) (by first | omega | decide) (by first | omega | decide) hM hS (lv_sub hl [0, 1] rfl)
      · have hc4 := c4
        have q4 := q_ne hc4
        refine lv_aload_n hx hb dX4_takeBehind_222 rfl (lv_at hl 1 rfl) ?_
        refine m_geti (70) 10 hx hb hts hown hE oc4 hM (hG.1 70 (by decide)) rfl (by decide) rfl tb_328 dX4_takeBehind_223 ?_
        refine lv_if_ne (tgt := 236) hx hb dX4_takeBehind_226 (by decide) (fun c5 => ?_) (fun c5 => ?_)
        · have hc5 := c5
          have q5 := q_ne hc5
          exact join236 (x1_196) _ _ ls (by first | omega | decide) (by first | omega | decide) (by first | omega | decide) (by first | omega | decide) (by first | omega | decide) (by first | omega | decide) (by first | omega | decide) (by first | omega | decide) hM hS (lv_sub hl [0, 1] rfl)
        · have hc5 := c5
          have q5 := q_eq hc5
          refine lv_aload_n hx hb dX4_takeBehind_229 rfl (lv_at hl 1 rfl) ?_
          refine m_callv (m_runV (70) (As := []) (rest := []) hx hb hml hown hts hE hM hS hA ce_X4_takeClauseEnd tb_728 (V_X4_takeClauseEnd_h l D A ad ns I L G (w) hG hI hW hd) rfl rfl ⟨Nat.le_of_ble_eq_true rfl, Nat.le_of_ble_eq_true rfl⟩ (hG.1 70 (by decide)) rfl rfl (by decide) rfl hl.1 rfl (Nat.le_of_ble_eq_true rfl) dX4_takeBehind_230 ⟨Nat.le_of_ble_eq_true rfl, Nat.le_of_ble_eq_true rfl⟩) hS (fun u H locs hw hM hS => ?_)
          obtain ⟨I6, L7, rfl, hI, hkI6, xI6⟩ := hw
          have hM : Mem D A ad ns I6 L7 G H := hM
          have hK := hK.trans hkI6 rfl
          obtain ⟨ot8, xI6⟩ := xI6
          refine lv_goto (tgt := 241) hx hb dX4_takeBehind_233 (by decide) ?_
          have hxq := xI6
          unfold CEX at hxq
          have fz9 : I6 (70) 8 = I (70) 8 := (hkI6.get (70) 8 rfl)
          have fz9q := congrArg Int32.toInt fz9
          have fz10 : I6 (70) 10 = I (70) 10 := (hkI6.get (70) 10 rfl)
          have fz10q := congrArg Int32.toInt fz10
          have fz11 : I6 (70) 11 = I (70) 11 := (hkI6.get (70) 11 rfl)
          have fz11q := congrArg Int32.toInt fz11
          have fz12 : I6 (70) 12 = I (70) 12 := (hkI6.get (70) 12 rfl)
          have fz12q := congrArg Int32.toInt fz12
          exact m_vret hx hb hr hlocks hM hS (Nat.le_of_ble_eq_true rfl) (Nat.le_of_ble_eq_true rfl) ⟨_, _, rfl, hI, hK, ⟨(show OTH w I I6 from ot8), (fun K p => by unfold cbB; rw [if_neg j60, if_neg j102, if_neg j133, if_neg j160, if_neg j196, if_pos ⟨by omega, by omega, c5⟩]; unfold cbE; by_cases hn : (I 70 5).toInt = -44; rw [if_pos hn]; exact ars_k (by omega) (by omega) (by decide) (by omega) hxq.1 hxq.2.1 hxq.2.2.1 fz10 (by omega) hxq.2.2.2.1; rw [if_neg hn]; exact ars_e (by omega) (by omega) hxq.2.2.1 hxq.2.2.2.1)⟩⟩ dX4_takeBehind_241
    · have hc3 := c3
      have q3 := q_ne hc3
      refine lv_aload_n hx hb dX4_takeBehind_205 rfl (lv_at hl 1 rfl) ?_
      refine m_geti (70) 5 hx hb hts hown hE oc4 hM (hG.1 70 (by decide)) rfl (by decide) rfl tb_323 dX4_takeBehind_206 ?_
      refine lv_bipush (v := (-45)) hx hb dX4_takeBehind_209 (by decide) ?_
      refine lv_icmp_ne (tgt := 236) hx hb dX4_takeBehind_211 (by decide) (fun c13 => ?_) (fun c13 => ?_)
      · have hc13 := c13
        have q13 := q_ne hc13
        exact join236 (x1_196) _ _ ls (by first | omega | decide) (by first | omega | decide) (by first | omega | decide) (by first | omega | decide) (by first | omega | decide) (by first | omega | decide) (by first | omega | decide) (by first | omega | decide) hM hS (lv_sub hl [0, 1] rfl)
      · have hc13 := c13
        have q13 := q_eq hc13
        refine lv_aload_n hx hb dX4_takeBehind_214 rfl (lv_at hl 1 rfl) ?_
        refine m_geti (70) 8 hx hb hts hown hE oc4 hM (hG.1 70 (by decide)) rfl (by decide) rfl tb_326 dX4_takeBehind_215 ?_
        refine lv_iconst (v := (1)) hx hb dX4_takeBehind_218 (by decide) ?_
        refine lv_icmp_eq (tgt := 236) hx hb dX4_takeBehind_219 (by decide) (fun c14 => ?_) (fun c14 => ?_)
        · have hc14 := c14
          have q14 := q_eq hc14
          exact join236 (x1_196) _ _ ls (by first | omega | decide) (by first | omega | decide) (by first | omega | decide) (by first | omega | decide) (by first | omega | decide) (by first | omega | decide) (by first | omega | decide) (by first | omega | decide) hM hS (lv_sub hl [0, 1] rfl)
        · have hc14 := c14
          have q14 := q_ne hc14
          refine lv_aload_n hx hb dX4_takeBehind_222 rfl (lv_at hl 1 rfl) ?_
          refine m_geti (70) 10 hx hb hts hown hE oc4 hM (hG.1 70 (by decide)) rfl (by decide) rfl tb_328 dX4_takeBehind_223 ?_
          refine lv_if_ne (tgt := 236) hx hb dX4_takeBehind_226 (by decide) (fun c15 => ?_) (fun c15 => ?_)
          · have hc15 := c15
            have q15 := q_ne hc15
            exact join236 (x1_196) _ _ ls (by first | omega | decide) (by first | omega | decide) (by first | omega | decide) (by first | omega | decide) (by first | omega | decide) (by first | omega | decide) (by first | omega | decide) (by first | omega | decide) hM hS (lv_sub hl [0, 1] rfl)
          · have hc15 := c15
            have q15 := q_eq hc15
            refine lv_aload_n hx hb dX4_takeBehind_229 rfl (lv_at hl 1 rfl) ?_
            refine m_callv (m_runV (70) (As := []) (rest := []) hx hb hml hown hts hE hM hS hA ce_X4_takeClauseEnd tb_728 (V_X4_takeClauseEnd_h l D A ad ns I L G (w) hG hI hW hd) rfl rfl ⟨Nat.le_of_ble_eq_true rfl, Nat.le_of_ble_eq_true rfl⟩ (hG.1 70 (by decide)) rfl rfl (by decide) rfl hl.1 rfl (Nat.le_of_ble_eq_true rfl) dX4_takeBehind_230 ⟨Nat.le_of_ble_eq_true rfl, Nat.le_of_ble_eq_true rfl⟩) hS (fun u H locs hw hM hS => ?_)
            obtain ⟨I16, L17, rfl, hI, hkI16, xI16⟩ := hw
            have hM : Mem D A ad ns I16 L17 G H := hM
            have hK := hK.trans hkI16 rfl
            obtain ⟨ot18, xI16⟩ := xI16
            refine lv_goto (tgt := 241) hx hb dX4_takeBehind_233 (by decide) ?_
            have hxq := xI16
            unfold CEX at hxq
            have fz19 : I16 (70) 8 = I (70) 8 := (hkI16.get (70) 8 rfl)
            have fz19q := congrArg Int32.toInt fz19
            have fz20 : I16 (70) 10 = I (70) 10 := (hkI16.get (70) 10 rfl)
            have fz20q := congrArg Int32.toInt fz20
            have fz21 : I16 (70) 11 = I (70) 11 := (hkI16.get (70) 11 rfl)
            have fz21q := congrArg Int32.toInt fz21
            have fz22 : I16 (70) 12 = I (70) 12 := (hkI16.get (70) 12 rfl)
            have fz22q := congrArg Int32.toInt fz22
            exact m_vret hx hb hr hlocks hM hS (Nat.le_of_ble_eq_true rfl) (Nat.le_of_ble_eq_true rfl) ⟨_, _, rfl, hI, hK, ⟨(show OTH w I I16 from ot18), (fun K p => by unfold cbB; rw [if_neg j60, if_neg j102, if_neg j133, if_neg j160, if_neg j196, if_pos ⟨by omega, by omega, c15⟩]; unfold cbE; by_cases hn : (I 70 5).toInt = -44; rw [if_pos hn]; exact ars_k (by omega) (by omega) (by decide) (by omega) hxq.1 hxq.2.1 hxq.2.2.1 fz20 (by omega) hxq.2.2.2.1; rw [if_neg hn]; exact ars_e (by omega) (by omega) hxq.2.2.1 hxq.2.2.2.1)⟩⟩ dX4_takeBehind_241
  have join160 : ∀ (x1_160 : Int32) (H : Heap) (locs : List Loc) (ls : Array Slot), (0 ≤ x1_160.toInt ∧ x1_160.toInt ≤ 1) → (((x1_160).toInt = 1 ∧ ((I 70 8).toInt = 2 ∨ (I 70 8).toInt = 3)) ∨ ((x1_160).toInt = 0 ∧ (I 70 8).toInt ≠ 2 ∧ (I 70 8).toInt ≠ 3)) → (¬ (((I 70 5).toInt ≤ -15 ∧ -18 ≤ (I 70 5).toInt) ∧ (I 70 8).toInt ≠ 3)) → (¬ (((I 70 5).toInt ≤ -19 ∧ -23 ≤ (I 70 5).toInt) ∧ (I 70 8).toInt = 1)) → (¬ (((I 70 5).toInt = -24 ∨ (I 70 5).toInt = -25) ∧ ((I 70 8).toInt = 2 ∨ (I 70 8).toInt = 3))) → (¬ ((I 70 5).toInt = -43 ∧ ((I 70 8).toInt = 2 ∨ (I 70 8).toInt = 3) ∧ 0 < (I 70 10).toInt)) → Mem D A ad ns I L G H → va_S A s.heap H locs → lv_has ls 2 [(1, .int (x1_160)), (0, .ref (ad (70)))] → W p l e ({ frames := 3, cells := 0, slots := 0, locals := 64 } : Room) s m args below meth c H locs 0 0 (MQ below (va_Qv (fun u => ∃ I2 L2, u = (ad, ns, I2, L2, G) ∧ INV I2 ∧ Kp [(72, 73), (200, 300)] [(70, 2), (70, 7), (70, 8), (70, 9), (70, 10), (70, 11), (70, 12)] I I2 ∧ (OTH w I I2 ∧ (SX cbB w I I2))) (BM D A) A) args s 0 0 A) (F0 m 160 ls []) := by
    intro x1_160 H locs ls hr1_160 j22 j60 j102 j133 j160 hM hS hl
    refine lv_aload_n hx hb dX4_takeBehind_160 rfl (lv_at hl 1 rfl) ?_
    refine m_geti (70) 5 hx hb hts hown hE oc4 hM (hG.1 70 (by decide)) rfl (by decide) rfl tb_323 dX4_takeBehind_161 ?_
    refine lv_bipush (v := (-41)) hx hb dX4_takeBehind_164 (by decide) ?_
    refine lv_icmp_ne (tgt := 196) hx hb dX4_takeBehind_166 (by decide) (fun c23 => ?_) (fun c23 => ?_)
    · have hc23 := c23
      have q23 := q_ne hc23
      exact join196 (x1_160) _ _ ls (by first | omega | decide) (by first | omega | decide) (by first | omega | decide) (by first | omega | decide) (by first | omega | decide) (by first | omega | decide) (by first | omega | decide) hM hS (lv_sub hl [0, 1] rfl)
    · have hc23 := c23
      have q23 := q_eq hc23
      refine lv_aload_n hx hb dX4_takeBehind_169 rfl (lv_at hl 1 rfl) ?_
      refine m_geti (70) 8 hx hb hts hown hE oc4 hM (hG.1 70 (by decide)) rfl (by decide) rfl tb_326 dX4_takeBehind_170 ?_
      refine lv_if_ne (tgt := 196) hx hb dX4_takeBehind_173 (by decide) (fun c24 => ?_) (fun c24 => ?_)
      · have hc24 := c24
        have q24 := q_ne hc24
        exact join196 (x1_160) _ _ ls (by first | omega | decide) (by first | omega | decide) (by first | omega | decide) (by first | omega | decide) (by first | omega | decide) (by first | omega | decide) (by first | omega | decide) hM hS (lv_sub hl [0, 1] rfl)
      · have hc24 := c24
        have q24 := q_eq hc24
        refine lv_aload_n hx hb dX4_takeBehind_176 rfl (lv_at hl 1 rfl) ?_
        refine lv_iconst (v := (0)) hx hb dX4_takeBehind_177 (by decide) ?_
        refine m_callv (m_runV (70) (As := [.int (0)]) (rest := []) hx hb hml hown hts hE hM hS hA ce_X4_popDownTo tb_716 (V_X4_popDownTo_h l D A ad ns I L G (w) (0) hG hI hW hd) rfl rfl ⟨Nat.le_of_ble_eq_true rfl, Nat.le_of_ble_eq_true rfl⟩ (hG.1 70 (by decide)) rfl rfl (by decide) rfl hl.1 rfl (Nat.le_of_ble_eq_true rfl) dX4_takeBehind_178 ⟨Nat.le_of_ble_eq_true rfl, Nat.le_of_ble_eq_true rfl⟩) hS (fun u H locs hw hM hS => ?_)
        obtain ⟨I25, L26, rfl, hI, hkI25, xI25⟩ := hw
        have hM : Mem D A ad ns I25 L26 G H := hM
        have hK := hK.trans hkI25 rfl
        obtain ⟨ot27, xI25⟩ := xI25
        refine lv_aload_n hx hb dX4_takeBehind_181 rfl (lv_at hl 1 rfl) ?_
        refine m_getr (70) 13 (w) hx hb hts hown hE oc4 hM (hG.1 70 (by decide)) rfl (by decide) rfl hd (by have := lbw hW.1; omega) tb_331 dX4_takeBehind_182 ?_
        refine m_callv (m_runV (w) (As := []) (rest := []) hx hb hml hown hts hE hM hS hA ce_X3_beginTest tb_724 (V_X3_beginTest_h l D A ad ns I25 L26 G (w) hG hI hW) rfl rfl ⟨Nat.le_of_ble_eq_true rfl, Nat.le_of_ble_eq_true rfl⟩ hW.l (kW _ hW.1).1 rfl (by decide) rfl hl.1 rfl (Nat.le_of_ble_eq_true rfl) dX4_takeBehind_185 ⟨Nat.le_of_ble_eq_true rfl, Nat.le_of_ble_eq_true rfl⟩) hS (fun u H locs hw hM hS => ?_)
        obtain ⟨I28, L29, rfl, hI, hkI28, xI28⟩ := hw
        have hM : Mem D A ad ns I28 L29 G H := hM
        have hK := hK.trans hkI28 rfl
        obtain ⟨ot30, xI28⟩ := xI28
        refine lv_aload_n hx hb dX4_takeBehind_188 rfl (lv_at hl 1 rfl) ?_
        refine lv_iconst (v := (2)) hx hb dX4_takeBehind_189 (by decide) ?_
        refine m_puti (70) 7 hx hb hts hown hE oc4 hM hS (hG.1 70 (by decide)) rfl (by decide) rfl rfl rfl rfl tb_325 dX4_takeBehind_190 (fun H locs I31 eI31 hM hS => ?_)
        subst eI31
        have hI := hI.put (n := 70) (k := 7) (v := 2) (lo := 0) (hi := 5) rfl (by first | omega | decide)
        have hK := hK.put (n := 70) (k := 7) (v := 2) (by first | rfl | simp [inR])
        refine lv_goto (tgt := 241) hx hb dX4_takeBehind_193 (by decide) ?_
        have hpz : popc 0 (STK I) (I 70 9) (COD I w) = (STK I25, I25 70 9, COD I25 w) := xI25.1
        have fz32 : (u2 I28 (70) 7 (2)) (70) 7 = 2 := (show (u2 I28 (70) 7 (2)) (70) 7 = 2 from by simp [u2_v])
        have fz32q := congrArg Int32.toInt fz32
        have fz33 : (u2 I28 (70) 7 (2)) (70) 8 = I (70) 8 := (((show (u2 I28 (70) 7 (2)) (70) 8 = I28 (70) 8 from by simp [u2_v])).trans (hkI28.get (70) 8 rfl)).trans (hkI25.get (70) 8 rfl)
        have fz33q := congrArg Int32.toInt fz33
        have fz34 : (u2 I28 (70) 7 (2)) (70) 9 = I25 (70) 9 := ((show (u2 I28 (70) 7 (2)) (70) 9 = I28 (70) 9 from by simp [u2_v])).trans (hkI28.get (70) 9 rfl)
        have fz34q := congrArg Int32.toInt fz34
        have fz35 : (u2 I28 (70) 7 (2)) (70) 10 = I (70) 10 := (((show (u2 I28 (70) 7 (2)) (70) 10 = I28 (70) 10 from by simp [u2_v])).trans (hkI28.get (70) 10 rfl)).trans (hkI25.get (70) 10 rfl)
        have fz35q := congrArg Int32.toInt fz35
        have fz36 : (u2 I28 (70) 7 (2)) (70) 11 = I (70) 11 := (((show (u2 I28 (70) 7 (2)) (70) 11 = I28 (70) 11 from by simp [u2_v])).trans (hkI28.get (70) 11 rfl)).trans (hkI25.get (70) 11 rfl)
        have fz36q := congrArg Int32.toInt fz36
        have fz37 : (u2 I28 (70) 7 (2)) (70) 12 = I (70) 12 := (((show (u2 I28 (70) 7 (2)) (70) 12 = I28 (70) 12 from by simp [u2_v])).trans (hkI28.get (70) 12 rfl)).trans (hkI25.get (70) 12 rfl)
        have fz37q := congrArg Int32.toInt fz37
        exact m_vret hx hb hr hlocks hM hS (Nat.le_of_ble_eq_true rfl) (Nat.le_of_ble_eq_true rfl) ⟨_, _, rfl, hI, hK, ⟨(((show OTH w I I25 from ot27).trans (show OTH w I25 I28 from ot30)).trans (show OTH w I28 (u2 I28 (70) 7 (2)) from OTH.put (by omega))), (fun K p => by unfold cbB; rw [if_neg j60, if_neg j102, if_neg j133, if_neg j160, if_pos (by omega), hpz]; exact ars_k (by omega) (by omega) (by decide) (by omega) (STK_of (((show (u2 I28 (70) 7 (2)) 72 = I28 72 from by funext zz; simp [u2_v])).trans (hkI28.getA 72 rfl)) (((show (u2 I28 (70) 7 (2)) 70 2 = I28 70 2 from by simp [u2_v])).trans (hkI28.get 70 2 rfl))) fz34 ((show LQ w I28 (u2 I28 (70) 7 (2)) from LQ.put hW.1 (by decide)).1.trans xI28.2) fz35 (by omega) ((show LQ w I28 (u2 I28 (70) 7 (2)) from LQ.put hW.1 (by decide)).2.trans (xI28.1.trans (by rw [xI25.2]))))⟩⟩ dX4_takeBehind_241
  have join133 : ∀ (x1_133 : Int32) (H : Heap) (locs : List Loc) (ls : Array Slot), (0 ≤ x1_133.toInt ∧ x1_133.toInt ≤ 1) → (((x1_133).toInt = 1 ∧ ((I 70 8).toInt = 2 ∨ (I 70 8).toInt = 3)) ∨ ((x1_133).toInt = 0 ∧ (I 70 8).toInt ≠ 2 ∧ (I 70 8).toInt ≠ 3)) → (¬ (((I 70 5).toInt ≤ -15 ∧ -18 ≤ (I 70 5).toInt) ∧ (I 70 8).toInt ≠ 3)) → (¬ (((I 70 5).toInt ≤ -19 ∧ -23 ≤ (I 70 5).toInt) ∧ (I 70 8).toInt = 1)) → (¬ (((I 70 5).toInt = -24 ∨ (I 70 5).toInt = -25) ∧ ((I 70 8).toInt = 2 ∨ (I 70 8).toInt = 3))) → Mem D A ad ns I L G H → va_S A s.heap H locs → lv_has ls 2 [(1, .int (x1_133)), (0, .ref (ad (70)))] → W p l e ({ frames := 3, cells := 0, slots := 0, locals := 64 } : Room) s m args below meth c H locs 0 0 (MQ below (va_Qv (fun u => ∃ I2 L2, u = (ad, ns, I2, L2, G) ∧ INV I2 ∧ Kp [(72, 73), (200, 300)] [(70, 2), (70, 7), (70, 8), (70, 9), (70, 10), (70, 11), (70, 12)] I I2 ∧ (OTH w I I2 ∧ (SX cbB w I I2))) (BM D A) A) args s 0 0 A) (F0 m 133 ls []) := by
    intro x1_133 H locs ls hr1_133 j22 j60 j102 j133 hM hS hl
    refine lv_aload_n hx hb dX4_takeBehind_133 rfl (lv_at hl 1 rfl) ?_
    refine m_geti (70) 5 hx hb hts hown hE oc4 hM (hG.1 70 (by decide)) rfl (by decide) rfl tb_323 dX4_takeBehind_134 ?_
    refine lv_bipush (v := (-43)) hx hb dX4_takeBehind_137 (by decide) ?_
    refine lv_icmp_ne (tgt := 160) hx hb dX4_takeBehind_139 (by decide) (fun c38 => ?_) (fun c38 => ?_)
    · have hc38 := c38
      have q38 := q_ne hc38
      exact join160 (x1_133) _ _ ls (by first | omega | decide) (by first | omega | decide) (by first | omega | decide) (by first | omega | decide) (by first | omega | decide) (by first | omega | decide) hM hS (lv_sub hl [0, 1] rfl)
    · have hc38 := c38
      have q38 := q_eq hc38
      refine lv_iload_n hx hb dX4_takeBehind_142 rfl (lv_at hl 0 rfl) ?_
      refine lv_if_eq (tgt := 160) hx hb dX4_takeBehind_143 (by decide) (fun c39 => ?_) (fun c39 => ?_)
      · have hc39 := c39
        have q39 := q_eq hc39
        exact join160 (x1_133) _ _ ls (by first | omega | decide) (by first | omega | decide) (by first | omega | decide) (by first | omega | decide) (by first | omega | decide) (by first | omega | decide) hM hS (lv_sub hl [0, 1] rfl)
      · have hc39 := c39
        have q39 := q_ne hc39
        refine lv_aload_n hx hb dX4_takeBehind_146 rfl (lv_at hl 1 rfl) ?_
        refine m_geti (70) 10 hx hb hts hown hE oc4 hM (hG.1 70 (by decide)) rfl (by decide) rfl tb_328 dX4_takeBehind_147 ?_
        refine lv_if_le (tgt := 160) hx hb dX4_takeBehind_150 (by decide) (fun c40 => ?_) (fun c40 => ?_)
        · have hc40 := c40
          have q40 := q_le hc40
          exact join160 (x1_133) _ _ ls (by first | omega | decide) (by first | omega | decide) (by first | omega | decide) (by first | omega | decide) (by first | omega | decide) (by first | omega | decide) hM hS (lv_sub hl [0, 1] rfl)
        · have hc40 := c40
          have q40 := q_nle hc40
          refine lv_aload_n hx hb dX4_takeBehind_153 rfl (lv_at hl 1 rfl) ?_
          refine m_callv (m_runV (70) (As := []) (rest := []) hx hb hml hown hts hE hM hS hA ce_X4_closeBracket tb_720 (V_X4_closeBracket_h l D A ad ns I L G (w) hG hI hW hd) rfl rfl ⟨Nat.le_of_ble_eq_true rfl, Nat.le_of_ble_eq_true rfl⟩ (hG.1 70 (by decide)) rfl rfl (by decide) rfl hl.1 rfl (Nat.le_of_ble_eq_true rfl) dX4_takeBehind_154 ⟨Nat.le_of_ble_eq_true rfl, Nat.le_of_ble_eq_true rfl⟩) hS (fun u H locs hw hM hS => ?_)
          obtain ⟨I41, L42, rfl, hI, hkI41, xI41⟩ := hw
          have hM : Mem D A ad ns I41 L42 G H := hM
          have hK := hK.trans hkI41 rfl
          obtain ⟨ot43, xI41⟩ := xI41
          refine lv_goto (tgt := 241) hx hb dX4_takeBehind_157 (by decide) ?_
          have hxq := xI41
          unfold CBX at hxq
          have fz44 : I41 (70) 7 = I (70) 7 := (hkI41.get (70) 7 rfl)
          have fz44q := congrArg Int32.toInt fz44
          have fz45 : I41 (70) 11 = I (70) 11 := (hkI41.get (70) 11 rfl)
          have fz45q := congrArg Int32.toInt fz45
          have fz46 : I41 (70) 12 = I (70) 12 := (hkI41.get (70) 12 rfl)
          have fz46q := congrArg Int32.toInt fz46
          exact m_vret hx hb hr hlocks hM hS (Nat.le_of_ble_eq_true rfl) (Nat.le_of_ble_eq_true rfl) ⟨_, _, rfl, hI, hK, ⟨(show OTH w I I41 from ot43), (fun K p => by unfold cbB; rw [if_neg j60, if_neg j102, if_neg j133, if_pos (by omega)]; exact ars_k (by omega) (by omega) (by decide) (by omega) hxq.1 hxq.2.1 hxq.2.2.1 hxq.2.2.2.2.2 (by omega) hxq.2.2.2.1)⟩⟩ dX4_takeBehind_241
  have join102 : ∀ (x1_102 : Int32) (H : Heap) (locs : List Loc) (ls : Array Slot), (0 ≤ x1_102.toInt ∧ x1_102.toInt ≤ 1) → (((x1_102).toInt = 1 ∧ ((I 70 8).toInt = 2 ∨ (I 70 8).toInt = 3)) ∨ ((x1_102).toInt = 0 ∧ (I 70 8).toInt ≠ 2 ∧ (I 70 8).toInt ≠ 3)) → (¬ (((I 70 5).toInt ≤ -15 ∧ -18 ≤ (I 70 5).toInt) ∧ (I 70 8).toInt ≠ 3)) → (¬ (((I 70 5).toInt ≤ -19 ∧ -23 ≤ (I 70 5).toInt) ∧ (I 70 8).toInt = 1)) → Mem D A ad ns I L G H → va_S A s.heap H locs → lv_has ls 2 [(1, .int (x1_102)), (0, .ref (ad (70)))] → W p l e ({ frames := 3, cells := 0, slots := 0, locals := 64 } : Room) s m args below meth c H locs 0 0 (MQ below (va_Qv (fun u => ∃ I2 L2, u = (ad, ns, I2, L2, G) ∧ INV I2 ∧ Kp [(72, 73), (200, 300)] [(70, 2), (70, 7), (70, 8), (70, 9), (70, 10), (70, 11), (70, 12)] I I2 ∧ (OTH w I I2 ∧ (SX cbB w I I2))) (BM D A) A) args s 0 0 A) (F0 m 102 ls []) := by
    intro x1_102 H locs ls hr1_102 j22 j60 j102 hM hS hl
    refine lv_aload_n hx hb dX4_takeBehind_102 rfl (lv_at hl 1 rfl) ?_
    refine m_geti (70) 5 hx hb hts hown hE oc4 hM (hG.1 70 (by decide)) rfl (by decide) rfl tb_323 dX4_takeBehind_103 ?_
    refine lv_bipush (v := (-24)) hx hb dX4_takeBehind_106 (by decide) ?_
    refine lv_icmp_eq (tgt := 120) hx hb dX4_takeBehind_108 (by decide) (fun c47 => ?_) (fun c47 => ?_)
    · have hc47 := c47
      have q47 := q_eq hc47
      refine lv_iload_n hx hb dX4_takeBehind_120 rfl (lv_at hl 0 rfl) ?_
      refine lv_if_eq (tgt := 133) hx hb dX4_takeBehind_121 (by decide) (fun c48 => ?_) (fun c48 => ?_)
      · have hc48 := c48
        have q48 := q_eq hc48
        exact join133 (x1_102) _ _ ls (by first | omega | decide) (by first | omega | decide) (by first | omega | decide) (by first | omega | decide) (by first | omega | decide) hM hS (lv_sub hl [0, 1] rfl)
      · have hc48 := c48
        have q48 := q_ne hc48
        refine lv_aload_n hx hb dX4_takeBehind_124 rfl (lv_at hl 1 rfl) ?_
        refine lv_iconst (v := (1)) hx hb dX4_takeBehind_125 (by decide) ?_
        refine lv_iconst (v := (2)) hx hb dX4_takeBehind_126 (by decide) ?_
        refine m_callv (m_runV (70) (As := [.int (1), .int (2)]) (rest := []) hx hb hml hown hts hE hM hS hA ce_X4_takeSign tb_709 (V_X4_takeSign_h l D A ad ns I L G (w) (1) (2) hG hI hW hd (by first | omega | decide)) rfl rfl ⟨Nat.le_of_ble_eq_true rfl, Nat.le_of_ble_eq_true rfl⟩ (hG.1 70 (by decide)) rfl rfl (by decide) rfl hl.1 rfl (Nat.le_of_ble_eq_true rfl) dX4_takeBehind_127 ⟨Nat.le_of_ble_eq_true rfl, Nat.le_of_ble_eq_true rfl⟩) hS (fun u H locs hw hM hS => ?_)
        obtain ⟨I49, L50, rfl, hI, hkI49, xI49⟩ := hw
        have hM : Mem D A ad ns I49 L50 G H := hM
        have hK := hK.trans hkI49 rfl
        obtain ⟨ot51, xI49⟩ := xI49
        refine lv_goto (tgt := 241) hx hb dX4_takeBehind_130 (by decide) ?_
        have hxq := xI49
        unfold TSX at hxq
        have fz52 : I49 (70) 10 = I (70) 10 := (hkI49.get (70) 10 rfl)
        have fz52q := congrArg Int32.toInt fz52
        have fz53 : I49 (70) 11 = I (70) 11 := (hkI49.get (70) 11 rfl)
        have fz53q := congrArg Int32.toInt fz53
        have fz54 : I49 (70) 12 = I (70) 12 := (hkI49.get (70) 12 rfl)
        have fz54q := congrArg Int32.toInt fz54
        exact m_vret hx hb hr hlocks hM hS (Nat.le_of_ble_eq_true rfl) (Nat.le_of_ble_eq_true rfl) ⟨_, _, rfl, hI, hK, ⟨(show OTH w I I49 from ot51), (fun K p => by unfold cbB; rw [if_neg j60, if_neg j102, if_pos (by omega)]; unfold cbS; exact ars_k (by omega) (by omega) (by decide) (by omega) hxq.1 hxq.2.1 hxq.2.2.1 fz52 (by omega) hxq.2.2.2.1)⟩⟩ dX4_takeBehind_241
    · have hc47 := c47
      have q47 := q_ne hc47
      refine lv_aload_n hx hb dX4_takeBehind_111 rfl (lv_at hl 1 rfl) ?_
      refine m_geti (70) 5 hx hb hts hown hE oc4 hM (hG.1 70 (by decide)) rfl (by decide) rfl tb_323 dX4_takeBehind_112 ?_
      refine lv_bipush (v := (-25)) hx hb dX4_takeBehind_115 (by decide) ?_
      refine lv_icmp_ne (tgt := 133) hx hb dX4_takeBehind_117 (by decide) (fun c55 => ?_) (fun c55 => ?_)
      · have hc55 := c55
        have q55 := q_ne hc55
        exact join133 (x1_102) _ _ ls (by first | omega | decide) (by first | omega | decide) (by first | omega | decide) (by first | omega | decide) (by first | omega | decide) hM hS (lv_sub hl [0, 1] rfl)
      · have hc55 := c55
        have q55 := q_eq hc55
        refine lv_iload_n hx hb dX4_takeBehind_120 rfl (lv_at hl 0 rfl) ?_
        refine lv_if_eq (tgt := 133) hx hb dX4_takeBehind_121 (by decide) (fun c56 => ?_) (fun c56 => ?_)
        · have hc56 := c56
          have q56 := q_eq hc56
          exact join133 (x1_102) _ _ ls (by first | omega | decide) (by first | omega | decide) (by first | omega | decide) (by first | omega | decide) (by first | omega | decide) hM hS (lv_sub hl [0, 1] rfl)
        · have hc56 := c56
          have q56 := q_ne hc56
          refine lv_aload_n hx hb dX4_takeBehind_124 rfl (lv_at hl 1 rfl) ?_
          refine lv_iconst (v := (1)) hx hb dX4_takeBehind_125 (by decide) ?_
          refine lv_iconst (v := (2)) hx hb dX4_takeBehind_126 (by decide) ?_
          refine m_callv (m_runV (70) (As := [.int (1), .int (2)]) (rest := []) hx hb hml hown hts hE hM hS hA ce_X4_takeSign tb_709 (V_X4_takeSign_h l D A ad ns I L G (w) (1) (2) hG hI hW hd (by first | omega | decide)) rfl rfl ⟨Nat.le_of_ble_eq_true rfl, Nat.le_of_ble_eq_true rfl⟩ (hG.1 70 (by decide)) rfl rfl (by decide) rfl hl.1 rfl (Nat.le_of_ble_eq_true rfl) dX4_takeBehind_127 ⟨Nat.le_of_ble_eq_true rfl, Nat.le_of_ble_eq_true rfl⟩) hS (fun u H locs hw hM hS => ?_)
          obtain ⟨I57, L58, rfl, hI, hkI57, xI57⟩ := hw
          have hM : Mem D A ad ns I57 L58 G H := hM
          have hK := hK.trans hkI57 rfl
          obtain ⟨ot59, xI57⟩ := xI57
          refine lv_goto (tgt := 241) hx hb dX4_takeBehind_130 (by decide) ?_
          have hxq := xI57
          unfold TSX at hxq
          have fz60 : I57 (70) 10 = I (70) 10 := (hkI57.get (70) 10 rfl)
          have fz60q := congrArg Int32.toInt fz60
          have fz61 : I57 (70) 11 = I (70) 11 := (hkI57.get (70) 11 rfl)
          have fz61q := congrArg Int32.toInt fz61
          have fz62 : I57 (70) 12 = I (70) 12 := (hkI57.get (70) 12 rfl)
          have fz62q := congrArg Int32.toInt fz62
          exact m_vret hx hb hr hlocks hM hS (Nat.le_of_ble_eq_true rfl) (Nat.le_of_ble_eq_true rfl) ⟨_, _, rfl, hI, hK, ⟨(show OTH w I I57 from ot59), (fun K p => by unfold cbB; rw [if_neg j60, if_neg j102, if_pos (by omega)]; unfold cbS; exact ars_k (by omega) (by omega) (by decide) (by omega) hxq.1 hxq.2.1 hxq.2.2.1 fz60 (by omega) hxq.2.2.2.1)⟩⟩ dX4_takeBehind_241
  have join60 : ∀ (x1_60 : Int32) (H : Heap) (locs : List Loc) (ls : Array Slot), (0 ≤ x1_60.toInt ∧ x1_60.toInt ≤ 1) → (((x1_60).toInt = 1 ∧ ((I 70 8).toInt = 2 ∨ (I 70 8).toInt = 3)) ∨ ((x1_60).toInt = 0 ∧ (I 70 8).toInt ≠ 2 ∧ (I 70 8).toInt ≠ 3)) → (¬ (((I 70 5).toInt ≤ -15 ∧ -18 ≤ (I 70 5).toInt) ∧ (I 70 8).toInt ≠ 3)) → Mem D A ad ns I L G H → va_S A s.heap H locs → lv_has ls 2 [(1, .int (x1_60)), (0, .ref (ad (70)))] → W p l e ({ frames := 3, cells := 0, slots := 0, locals := 64 } : Room) s m args below meth c H locs 0 0 (MQ below (va_Qv (fun u => ∃ I2 L2, u = (ad, ns, I2, L2, G) ∧ INV I2 ∧ Kp [(72, 73), (200, 300)] [(70, 2), (70, 7), (70, 8), (70, 9), (70, 10), (70, 11), (70, 12)] I I2 ∧ (OTH w I I2 ∧ (SX cbB w I I2))) (BM D A) A) args s 0 0 A) (F0 m 60 ls []) := by
    intro x1_60 H locs ls hr1_60 j22 j60 hM hS hl
    refine lv_aload_n hx hb dX4_takeBehind_60 rfl (lv_at hl 1 rfl) ?_
    refine m_geti (70) 5 hx hb hts hown hE oc4 hM (hG.1 70 (by decide)) rfl (by decide) rfl tb_323 dX4_takeBehind_61 ?_
    refine lv_bipush (v := (-19)) hx hb dX4_takeBehind_64 (by decide) ?_
    refine lv_icmp_gt (tgt := 102) hx hb dX4_takeBehind_66 (by decide) (fun c63 => ?_) (fun c63 => ?_)
    · have hc63 := c63
      have q63 := q_lt hc63
      exact join102 (x1_60) _ _ ls (by first | omega | decide) (by first | omega | decide) (by first | omega | decide) (by first | omega | decide) hM hS (lv_sub hl [0, 1] rfl)
    · have hc63 := c63
      have q63 := q_nlt hc63
      refine lv_aload_n hx hb dX4_takeBehind_69 rfl (lv_at hl 1 rfl) ?_
      refine m_geti (70) 5 hx hb hts hown hE oc4 hM (hG.1 70 (by decide)) rfl (by decide) rfl tb_323 dX4_takeBehind_70 ?_
      refine lv_bipush (v := (-23)) hx hb dX4_takeBehind_73 (by decide) ?_
      refine lv_icmp_lt (tgt := 102) hx hb dX4_takeBehind_75 (by decide) (fun c64 => ?_) (fun c64 => ?_)
      · have hc64 := c64
        have q64 := q_lt hc64
        exact join102 (x1_60) _ _ ls (by first | omega | decide) (by first | omega | decide) (by first | omega | decide) (by first | omega | decide) hM hS (lv_sub hl [0, 1] rfl)
      · have hc64 := c64
        have q64 := q_nlt hc64
        refine lv_aload_n hx hb dX4_takeBehind_78 rfl (lv_at hl 1 rfl) ?_
        refine m_geti (70) 8 hx hb hts hown hE oc4 hM (hG.1 70 (by decide)) rfl (by decide) rfl tb_326 dX4_takeBehind_79 ?_
        refine lv_iconst (v := (1)) hx hb dX4_takeBehind_82 (by decide) ?_
        refine lv_icmp_ne (tgt := 102) hx hb dX4_takeBehind_83 (by decide) (fun c65 => ?_) (fun c65 => ?_)
        · have hc65 := c65
          have q65 := q_ne hc65
          exact join102 (x1_60) _ _ ls (by first | omega | decide) (by first | omega | decide) (by first | omega | decide) (by first | omega | decide) hM hS (lv_sub hl [0, 1] rfl)
        · have hc65 := c65
          have q65 := q_eq hc65
          refine lv_aload_n hx hb dX4_takeBehind_86 rfl (lv_at hl 1 rfl) ?_
          refine m_calli (m_runV (70) (As := []) (rest := []) hx hb hml hown hts hE hM hS hA ce_X4_countsOneMore tb_693 (V_X4_countsOneMore_h l D A ad ns I L G hG hI) rfl rfl ⟨Nat.le_of_ble_eq_true rfl, Nat.le_of_ble_eq_true rfl⟩ (hG.1 70 (by decide)) rfl rfl (by decide) rfl hl.1 rfl (Nat.le_of_ble_eq_true rfl) dX4_takeBehind_87 ⟨Nat.le_of_ble_eq_true rfl, Nat.le_of_ble_eq_true rfl⟩) hS (fun r66 u H locs hw hM hS => ?_)
          obtain ⟨I67, L68, rfl, hI, hkI67, xr66⟩ := hw
          have hM : Mem D A ad ns I67 L68 G H := hM
          have hK := hK.trans hkI67 rfl
          have hcx := xr66
          unfold CNT at hcx
          refine lv_if_eq (tgt := 241) hx hb dX4_takeBehind_90 (by decide) (fun c69 => ?_) (fun c69 => ?_)
          · have hc69 := c69
            have q69 := q_eq hc69
            exact m_vret hx hb hr hlocks hM hS (Nat.le_of_ble_eq_true rfl) (Nat.le_of_ble_eq_true rfl) ⟨_, _, rfl, hI, hK, ⟨(show OTH w I I67 from OTH.kp hkI67 rfl rfl), (fun K p => by unfold cbB; rw [if_neg j60, if_pos (by omega), if_pos (by omega)]; exact ars_f (by omega) (by omega))⟩⟩ dX4_takeBehind_241
          · have hc69 := c69
            have q69 := q_ne hc69
            refine lv_aload_n hx hb dX4_takeBehind_93 rfl (lv_at hl 1 rfl) ?_
            refine lv_iconst (v := (2)) hx hb dX4_takeBehind_94 (by decide) ?_
            refine lv_iconst (v := (3)) hx hb dX4_takeBehind_95 (by decide) ?_
            refine m_callv (m_runV (70) (As := [.int (2), .int (3)]) (rest := []) hx hb hml hown hts hE hM hS hA ce_X4_takeSign tb_709 (V_X4_takeSign_h l D A ad ns I67 L68 G (w) (2) (3) hG hI hW hd (by first | omega | decide)) rfl rfl ⟨Nat.le_of_ble_eq_true rfl, Nat.le_of_ble_eq_true rfl⟩ (hG.1 70 (by decide)) rfl rfl (by decide) rfl hl.1 rfl (Nat.le_of_ble_eq_true rfl) dX4_takeBehind_96 ⟨Nat.le_of_ble_eq_true rfl, Nat.le_of_ble_eq_true rfl⟩) hS (fun u H locs hw hM hS => ?_)
            obtain ⟨I70, L71, rfl, hI, hkI70, xI70⟩ := hw
            have hM : Mem D A ad ns I70 L71 G H := hM
            have hK := hK.trans hkI70 rfl
            obtain ⟨ot72, xI70⟩ := xI70
            refine lv_goto (tgt := 241) hx hb dX4_takeBehind_99 (by decide) ?_
            have hxq := xI70
            unfold TSX at hxq
            rw [show I67 70 5 = I 70 5 from (hkI67.get (70) 5 rfl), show I67 70 9 = I 70 9 from (hkI67.get (70) 9 rfl), STK_of (I := I) (I2 := I67) ((hkI67.getA 72 rfl)) ((hkI67.get (70) 2 rfl)), ((show LQ w I I67 from LQ.kp hW.1 hkI67 rfl rfl)).1, ((show LQ w I I67 from LQ.kp hW.1 hkI67 rfl rfl)).2] at hxq
            have fz73 : I70 (70) 10 = I (70) 10 := ((hkI70.get (70) 10 rfl)).trans (hkI67.get (70) 10 rfl)
            have fz73q := congrArg Int32.toInt fz73
            have fz74 : I70 (70) 11 = I67 (70) 11 := (hkI70.get (70) 11 rfl)
            have fz74q := congrArg Int32.toInt fz74
            have fz75 : I70 (70) 12 = I67 (70) 12 := (hkI70.get (70) 12 rfl)
            have fz75q := congrArg Int32.toInt fz75
            exact m_vret hx hb hr hlocks hM hS (Nat.le_of_ble_eq_true rfl) (Nat.le_of_ble_eq_true rfl) ⟨_, _, rfl, hI, hK, ⟨((show OTH w I I67 from OTH.kp hkI67 rfl rfl).trans (show OTH w I67 I70 from ot72)), (fun K p => by unfold cbB; rw [if_neg j60, if_pos (by omega), if_neg (by omega)]; unfold cbS; exact ars_k (by omega) (by omega) (by decide) (by omega) hxq.1 hxq.2.1 hxq.2.2.1 fz73 (by omega) hxq.2.2.2.1)⟩⟩ dX4_takeBehind_241
  have join22 : ∀ (x1_22 : Int32) (H : Heap) (locs : List Loc) (ls : Array Slot), (0 ≤ x1_22.toInt ∧ x1_22.toInt ≤ 1) → (((x1_22).toInt = 1 ∧ ((I 70 8).toInt = 2 ∨ (I 70 8).toInt = 3)) ∨ ((x1_22).toInt = 0 ∧ (I 70 8).toInt ≠ 2 ∧ (I 70 8).toInt ≠ 3)) → Mem D A ad ns I L G H → va_S A s.heap H locs → lv_has ls 2 [(1, .int (x1_22)), (0, .ref (ad (70)))] → W p l e ({ frames := 3, cells := 0, slots := 0, locals := 64 } : Room) s m args below meth c H locs 0 0 (MQ below (va_Qv (fun u => ∃ I2 L2, u = (ad, ns, I2, L2, G) ∧ INV I2 ∧ Kp [(72, 73), (200, 300)] [(70, 2), (70, 7), (70, 8), (70, 9), (70, 10), (70, 11), (70, 12)] I I2 ∧ (OTH w I I2 ∧ (SX cbB w I I2))) (BM D A) A) args s 0 0 A) (F0 m 22 ls []) := by
    intro x1_22 H locs ls hr1_22 j22 hM hS hl
    refine lv_aload_n hx hb dX4_takeBehind_22 rfl (lv_at hl 1 rfl) ?_
    refine m_geti (70) 5 hx hb hts hown hE oc4 hM (hG.1 70 (by decide)) rfl (by decide) rfl tb_323 dX4_takeBehind_23 ?_
    refine lv_bipush (v := (-15)) hx hb dX4_takeBehind_26 (by decide) ?_
    refine lv_icmp_gt (tgt := 60) hx hb dX4_takeBehind_28 (by decide) (fun c76 => ?_) (fun c76 => ?_)
    · have hc76 := c76
      have q76 := q_lt hc76
      exact join60 (x1_22) _ _ ls (by first | omega | decide) (by first | omega | decide) (by first | omega | decide) hM hS (lv_sub hl [0, 1] rfl)
    · have hc76 := c76
      have q76 := q_nlt hc76
      refine lv_aload_n hx hb dX4_takeBehind_31 rfl (lv_at hl 1 rfl) ?_
      refine m_geti (70) 5 hx hb hts hown hE oc4 hM (hG.1 70 (by decide)) rfl (by decide) rfl tb_323 dX4_takeBehind_32 ?_
      refine lv_bipush (v := (-18)) hx hb dX4_takeBehind_35 (by decide) ?_
      refine lv_icmp_lt (tgt := 60) hx hb dX4_takeBehind_37 (by decide) (fun c77 => ?_) (fun c77 => ?_)
      · have hc77 := c77
        have q77 := q_lt hc77
        exact join60 (x1_22) _ _ ls (by first | omega | decide) (by first | omega | decide) (by first | omega | decide) hM hS (lv_sub hl [0, 1] rfl)
      · have hc77 := c77
        have q77 := q_nlt hc77
        refine lv_aload_n hx hb dX4_takeBehind_40 rfl (lv_at hl 1 rfl) ?_
        refine m_geti (70) 8 hx hb hts hown hE oc4 hM (hG.1 70 (by decide)) rfl (by decide) rfl tb_326 dX4_takeBehind_41 ?_
        refine lv_iconst (v := (3)) hx hb dX4_takeBehind_44 (by decide) ?_
        refine lv_icmp_eq (tgt := 60) hx hb dX4_takeBehind_45 (by decide) (fun c78 => ?_) (fun c78 => ?_)
        · have hc78 := c78
          have q78 := q_eq hc78
          exact join60 (x1_22) _ _ ls (by first | omega | decide) (by first | omega | decide) (by first | omega | decide) hM hS (lv_sub hl [0, 1] rfl)
        · have hc78 := c78
          have q78 := q_ne hc78
          refine lv_aload_n hx hb dX4_takeBehind_48 rfl (lv_at hl 1 rfl) ?_
          refine lv_aload_n hx hb dX4_takeBehind_49 rfl (lv_at hl 1 rfl) ?_
          refine m_geti (70) 8 hx hb hts hown hE oc4 hM (hG.1 70 (by decide)) rfl (by decide) rfl tb_326 dX4_takeBehind_50 ?_
          refine lv_iconst (v := (3)) hx hb dX4_takeBehind_53 (by decide) ?_
          refine m_callv (m_runV (70) (As := [.int (I (70) 8), .int (3)]) (rest := []) hx hb hml hown hts hE hM hS hA ce_X4_takeSign tb_709 (V_X4_takeSign_h l D A ad ns I L G (w) (I (70) 8) (3) hG hI hW hd (by first | omega | decide)) rfl rfl ⟨Nat.le_of_ble_eq_true rfl, Nat.le_of_ble_eq_true rfl⟩ (hG.1 70 (by decide)) rfl rfl (by decide) rfl hl.1 rfl (Nat.le_of_ble_eq_true rfl) dX4_takeBehind_54 ⟨Nat.le_of_ble_eq_true rfl, Nat.le_of_ble_eq_true rfl⟩) hS (fun u H locs hw hM hS => ?_)
          obtain ⟨I79, L80, rfl, hI, hkI79, xI79⟩ := hw
          have hM : Mem D A ad ns I79 L80 G H := hM
          have hK := hK.trans hkI79 rfl
          obtain ⟨ot81, xI79⟩ := xI79
          refine lv_goto (tgt := 241) hx hb dX4_takeBehind_57 (by decide) ?_
          have hxq := xI79
          unfold TSX at hxq
          have fz82 : I79 (70) 10 = I (70) 10 := (hkI79.get (70) 10 rfl)
          have fz82q := congrArg Int32.toInt fz82
          have fz83 : I79 (70) 11 = I (70) 11 := (hkI79.get (70) 11 rfl)
          have fz83q := congrArg Int32.toInt fz83
          have fz84 : I79 (70) 12 = I (70) 12 := (hkI79.get (70) 12 rfl)
          have fz84q := congrArg Int32.toInt fz84
          exact m_vret hx hb hr hlocks hM hS (Nat.le_of_ble_eq_true rfl) (Nat.le_of_ble_eq_true rfl) ⟨_, _, rfl, hI, hK, ⟨(show OTH w I I79 from ot81), (fun K p => by unfold cbB; rw [if_pos (by omega)]; unfold cbS; exact ars_k (by omega) (by omega) (by decide) (by omega) hxq.1 hxq.2.1 hxq.2.2.1 fz82 (by omega) hxq.2.2.2.1)⟩⟩ dX4_takeBehind_241
  refine lv_aload_n hx hb dX4_takeBehind_0 rfl (lv_at hl 0 rfl) ?_
  refine m_geti (70) 8 hx hb hts hown hE oc4 hM (hG.1 70 (by decide)) rfl (by decide) rfl tb_326 dX4_takeBehind_1 ?_
  refine lv_iconst (v := (2)) hx hb dX4_takeBehind_4 (by decide) ?_
  refine lv_icmp_eq (tgt := 16) hx hb dX4_takeBehind_5 (by decide) (fun c85 => ?_) (fun c85 => ?_)
  · have hc85 := c85
    have q85 := q_eq hc85
    refine lv_iconst (v := (1)) hx hb dX4_takeBehind_16 (by decide) ?_
    refine lv_goto (tgt := 21) hx hb dX4_takeBehind_17 (by decide) ?_
    refine lv_istore_n (lv' := [(1, .int (1)), (0, .ref (ad (70)))]) hx hb dX4_takeBehind_21 rfl hl (by decide) rfl (fun ls hl => ?_)
    exact join22 (1) _ _ ls (by first | omega | decide) (by first | omega | decide) hM hS (lv_sub hl [0, 1] rfl)
  · have hc85 := c85
    have q85 := q_ne hc85
    refine lv_aload_n hx hb dX4_takeBehind_8 rfl (lv_at hl 0 rfl) ?_
    refine m_geti (70) 8 hx hb hts hown hE oc4 hM (hG.1 70 (by decide)) rfl (by decide) rfl tb_326 dX4_takeBehind_9 ?_
    refine lv_iconst (v := (3)) hx hb dX4_takeBehind_12 (by decide) ?_
    refine lv_icmp_ne (tgt := 20) hx hb dX4_takeBehind_13 (by decide) (fun c86 => ?_) (fun c86 => ?_)
    · have hc86 := c86
      have q86 := q_ne hc86
      refine lv_iconst (v := (0)) hx hb dX4_takeBehind_20 (by decide) ?_
      refine lv_istore_n (lv' := [(1, .int (0)), (0, .ref (ad (70)))]) hx hb dX4_takeBehind_21 rfl hl (by decide) rfl (fun ls hl => ?_)
      exact join22 (0) _ _ ls (by first | omega | decide) (by first | omega | decide) hM hS (lv_sub hl [0, 1] rfl)
    · have hc86 := c86
      have q86 := q_eq hc86
      refine lv_iconst (v := (1)) hx hb dX4_takeBehind_16 (by decide) ?_
      refine lv_goto (tgt := 21) hx hb dX4_takeBehind_17 (by decide) ?_
      refine lv_istore_n (lv' := [(1, .int (1)), (0, .ref (ad (70)))]) hx hb dX4_takeBehind_21 rfl hl (by decide) rfl (fun ls hl => ?_)
      exact join22 (1) _ _ ls (by first | omega | decide) (by first | omega | decide) hM hS (lv_sub hl [0, 1] rfl)
set_option maxHeartbeats 4000000 in
set_option maxRecDepth 20000 in
theorem V_X4_takeToken_h (l : Launch) (D : va_G) (A : Nat → Prop) (ad : Nat → Nat) (ns : List Nat) (I : MI) (L : ML) (G : MG) (w : Nat) (hG : SGC ns G) (hI : INV I) (hW : LOK ns G w) (hd : G 70 13 = w) (hf0 : (I 70 12).toInt = 0) (h5 : (I 70 7).toInt ≠ 5) : Met l yX4_takeToken (wd yX4_takeToken cX4_takeToken 1 none) ({ frames := 4, cells := 0, slots := 0, locals := 85 }) (va_Pc [.ref (ad (70))] (PM D A ad ns I L G)) (va_Qv (fun u => ∃ I2 L2, u = (ad, ns, I2, L2, G) ∧ INV I2 ∧ Kp [(72, 73), (200, 300)] [(70, 2), (70, 7), (70, 8), (70, 9), (70, 10), (70, 11), (70, 12)] I I2 ∧ (OTH w I I2 ∧ (SXO w I I2))) (BM D A) A) 0 0 A := by
  refine m_ofW (by decide) (Nat.le_of_ble_eq_true rfl) ?_
  intro p e s m below meth c ls args hC hE hM hA hS hl
  obtain ⟨hx, hb, hml, hown, hts, hr, hlocks, hin⟩ := hC
  have k0 : (0 : Int32).toInt = 0 := by decide
  have hK : Kp [(72, 73), (200, 300)] [(70, 2), (70, 7), (70, 8), (70, 9), (70, 10), (70, 11), (70, 12)] I I := Kp.rf
  have hl : lv_has ls 1 [(0, .ref (ad (70)))] := hl
  refine lv_aload_n hx hb dX4_takeToken_0 rfl (lv_at hl 0 rfl) ?_
  refine m_geti (70) 7 hx hb hts hown hE oc4 hM (hG.1 70 (by decide)) rfl (by decide) rfl tb_325 dX4_takeToken_1 ?_
  have g1 := hI.get (70) 7 (lo := 0) (hi := 5) rfl
  by_cases c2 : (I (70) 7).toInt < 0 ∨ 3 < (I (70) 7).toInt
  · refine lv_tableOut (tgt := 64) hx hb dX4_takeToken_4 c2 (by decide) ?_
    refine lv_aload_n hx hb dX4_takeToken_64 rfl (lv_at hl 0 rfl) ?_
    refine m_callv (m_runV (70) (As := []) (rest := []) hx hb hml hown hts hE hM hS hA ce_X4_takeBehind tb_705 (V_X4_takeBehind_h l D A ad ns I L G (w) hG hI hW hd hf0 (by omega)) rfl rfl ⟨Nat.le_of_ble_eq_true rfl, Nat.le_of_ble_eq_true rfl⟩ (hG.1 70 (by decide)) rfl rfl (by decide) rfl hl.1 rfl (Nat.le_of_ble_eq_true rfl) dX4_takeToken_65 ⟨Nat.le_of_ble_eq_true rfl, Nat.le_of_ble_eq_true rfl⟩) hS (fun u H locs hw hM hS => ?_)
    obtain ⟨I3, L4, rfl, hI, hkI3, xI3⟩ := hw
    have hM : Mem D A ad ns I3 L4 G H := hM
    have hK := hK.trans hkI3 rfl
    obtain ⟨ot5, xI3⟩ := xI3
    exact m_vret hx hb hr hlocks hM hS (Nat.le_of_ble_eq_true rfl) (Nat.le_of_ble_eq_true rfl) ⟨_, _, rfl, hI, hK, ⟨(show OTH w I I3 from ot5), (fun K p => by unfold cbo; rw [if_neg (by omega), if_neg (by omega), if_neg (by omega), if_neg (by omega)]; exact xI3 K p)⟩⟩ dX4_takeToken_68
  · have qc2 : (I (70) 7).toInt = 0 ∨ (I (70) 7).toInt = 1 ∨ (I (70) 7).toInt = 2 ∨ (I (70) 7).toInt = 3 := by omega
    rcases qc2 with qc2 | qc2 | qc2 | qc2
    · refine lv_tableIn (off := 32) (tgt := 36) hx hb dX4_takeToken_4 (by omega) (by omega) (by rw [qc2]; rfl) (by decide) ?_
      refine lv_aload_n hx hb dX4_takeToken_36 rfl (lv_at hl 0 rfl) ?_
      refine m_callv (m_runV (70) (As := []) (rest := []) hx hb hml hown hts hE hM hS hA ce_X4_takeTurn tb_669 (V_X4_takeTurn_h l D A ad ns I L G (w) hG hI hW hd hf0) rfl rfl ⟨Nat.le_of_ble_eq_true rfl, Nat.le_of_ble_eq_true rfl⟩ (hG.1 70 (by decide)) rfl rfl (by decide) rfl hl.1 rfl (Nat.le_of_ble_eq_true rfl) dX4_takeToken_37 ⟨Nat.le_of_ble_eq_true rfl, Nat.le_of_ble_eq_true rfl⟩) hS (fun u H locs hw hM hS => ?_)
      obtain ⟨I6, L7, rfl, hI, hkI6, xI6⟩ := hw
      have hM : Mem D A ad ns I6 L7 G H := hM
      have hK := hK.trans hkI6 rfl
      obtain ⟨ot8, xI6⟩ := xI6
      refine lv_goto (tgt := 68) hx hb dX4_takeToken_40 (by decide) ?_
      exact m_vret hx hb hr hlocks hM hS (Nat.le_of_ble_eq_true rfl) (Nat.le_of_ble_eq_true rfl) ⟨_, _, rfl, hI, hK, ⟨(show OTH w I I6 from ot8), (fun K p => by rw [show (I 70 7).toInt = 0 from by omega, cbo_0]; exact xI6 K p)⟩⟩ dX4_takeToken_68
    · refine lv_tableIn (off := 39) (tgt := 43) hx hb dX4_takeToken_4 (by omega) (by omega) (by rw [qc2]; rfl) (by decide) ?_
      refine lv_aload_n hx hb dX4_takeToken_43 rfl (lv_at hl 0 rfl) ?_
      refine m_callv (m_runV (70) (As := []) (rest := []) hx hb hml hown hts hE hM hS hA ce_X4_takeMirror tb_677 (V_X4_takeMirror_h l D A ad ns I L G (w) hG hI hW hd hf0) rfl rfl ⟨Nat.le_of_ble_eq_true rfl, Nat.le_of_ble_eq_true rfl⟩ (hG.1 70 (by decide)) rfl rfl (by decide) rfl hl.1 rfl (Nat.le_of_ble_eq_true rfl) dX4_takeToken_44 ⟨Nat.le_of_ble_eq_true rfl, Nat.le_of_ble_eq_true rfl⟩) hS (fun u H locs hw hM hS => ?_)
      obtain ⟨I9, L10, rfl, hI, hkI9, xI9⟩ := hw
      have hM : Mem D A ad ns I9 L10 G H := hM
      have hK := hK.trans hkI9 rfl
      obtain ⟨ot11, xI9⟩ := xI9
      refine lv_goto (tgt := 68) hx hb dX4_takeToken_47 (by decide) ?_
      exact m_vret hx hb hr hlocks hM hS (Nat.le_of_ble_eq_true rfl) (Nat.le_of_ble_eq_true rfl) ⟨_, _, rfl, hI, hK, ⟨(show OTH w I I9 from ot11), (fun K p => by rw [show (I 70 7).toInt = 1 from by omega, cbo_1]; exact xI9 K p)⟩⟩ dX4_takeToken_68
    · refine lv_tableIn (off := 46) (tgt := 50) hx hb dX4_takeToken_4 (by omega) (by omega) (by rw [qc2]; rfl) (by decide) ?_
      refine lv_aload_n hx hb dX4_takeToken_50 rfl (lv_at hl 0 rfl) ?_
      refine m_callv (m_runV (70) (As := []) (rest := []) hx hb hml hown hts hE hM hS hA ce_X4_takeFact tb_685 (V_X4_takeFact_h l D A ad ns I L G (w) hG hI hW hd hf0 (by omega)) rfl rfl ⟨Nat.le_of_ble_eq_true rfl, Nat.le_of_ble_eq_true rfl⟩ (hG.1 70 (by decide)) rfl rfl (by decide) rfl hl.1 rfl (Nat.le_of_ble_eq_true rfl) dX4_takeToken_51 ⟨Nat.le_of_ble_eq_true rfl, Nat.le_of_ble_eq_true rfl⟩) hS (fun u H locs hw hM hS => ?_)
      obtain ⟨I12, L13, rfl, hI, hkI12, xI12⟩ := hw
      have hM : Mem D A ad ns I12 L13 G H := hM
      have hK := hK.trans hkI12 rfl
      obtain ⟨ot14, xI12⟩ := xI12
      refine lv_goto (tgt := 68) hx hb dX4_takeToken_54 (by decide) ?_
      exact m_vret hx hb hr hlocks hM hS (Nat.le_of_ble_eq_true rfl) (Nat.le_of_ble_eq_true rfl) ⟨_, _, rfl, hI, hK, ⟨(show OTH w I I12 from ot14), (fun K p => by rw [show (I 70 7).toInt = 2 from by omega, cbo_2]; exact xI12 K p)⟩⟩ dX4_takeToken_68
    · refine lv_tableIn (off := 53) (tgt := 57) hx hb dX4_takeToken_4 (by omega) (by omega) (by rw [qc2]; rfl) (by decide) ?_
      refine lv_aload_n hx hb dX4_takeToken_57 rfl (lv_at hl 0 rfl) ?_
      refine m_callv (m_runV (70) (As := []) (rest := []) hx hb hml hown hts hE hM hS hA ce_X4_takeValue tb_689 (V_X4_takeValue_h l D A ad ns I L G (w) hG hI hW hd hf0) rfl rfl ⟨Nat.le_of_ble_eq_true rfl, Nat.le_of_ble_eq_true rfl⟩ (hG.1 70 (by decide)) rfl rfl (by decide) rfl hl.1 rfl (Nat.le_of_ble_eq_true rfl) dX4_takeToken_58 ⟨Nat.le_of_ble_eq_true rfl, Nat.le_of_ble_eq_true rfl⟩) hS (fun u H locs hw hM hS => ?_)
      obtain ⟨I15, L16, rfl, hI, hkI15, xI15⟩ := hw
      have hM : Mem D A ad ns I15 L16 G H := hM
      have hK := hK.trans hkI15 rfl
      obtain ⟨ot17, xI15⟩ := xI15
      refine lv_goto (tgt := 68) hx hb dX4_takeToken_61 (by decide) ?_
      exact m_vret hx hb hr hlocks hM hS (Nat.le_of_ble_eq_true rfl) (Nat.le_of_ble_eq_true rfl) ⟨_, _, rfl, hI, hK, ⟨(show OTH w I I15 from ot17), (fun K p => by rw [show (I 70 7).toInt = 3 from by omega, cbo_3]; exact xI15 K p)⟩⟩ dX4_takeToken_68
