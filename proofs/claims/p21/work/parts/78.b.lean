set_option maxHeartbeats 4000000 in
set_option maxRecDepth 20000 in
theorem V_X3_add_h (l : Launch) (D : va_G) (A : Nat → Prop) (ad : Nat → Nat) (ns : List Nat) (I : MI) (L : ML) (G : MG) (w : Nat) (a0 : Int32) (hG : SGC ns G) (hI : INV I) (hW : LOK ns G w) : Met l yX3_add (wd yX3_add cX3_add 2 none) ({ frames := 0, cells := 0, slots := 0, locals := 0 }) (va_Pc [.ref (ad (w)), .int a0] (PM D A ad ns I L G)) (va_Qv (fun u => ∃ I2 L2, u = (ad, ns, I2, L2, G) ∧ INV I2 ∧ Kp [(200, 300)] [] I I2 ∧ (OTH w I I2 ∧ (COD I2 w = adl (COD I w) a0.toInt ∧ CLS I2 w = CLS I w))) (BM D A) A) 0 0 A := by
  refine m_ofW (by decide) (Nat.le_of_ble_eq_true rfl) ?_
  intro p e s m below meth c ls args hC hE hM hA hS hl
  obtain ⟨hx, hb, hml, hown, hts, hr, hlocks, hin⟩ := hC
  have k0 : (0 : Int32).toInt = 0 := by decide
  have k1 : (1 : Int32).toInt = 1 := by decide
  have k400 : (400 : Int32).toInt = 400 := by decide
  have hI0 := hI
  have hK : Kp [(200, 300)] [] I I := Kp.rf
  have hl : lv_has ls 2 [(0, .ref (ad (w))), (1, .int (a0))] := hl
  refine lv_aload_n hx hb dX3_add_0 rfl (lv_at hl 0 rfl) ?_
  refine m_geti (w) 6 hx hb hts hown hE oc3 hM hW.l (kW _ hW.1).1 (by decide) rfl tb_382 dX3_add_1 ?_
  have g1 := hI.get (w) 6 (lo := 0) (hi := 400) (rgw0 hW.1).2
  refine lv_sipush (v := (400)) hx hb dX3_add_4 (by decide) ?_
  refine lv_icmp_ge (tgt := 30) hx hb dX3_add_7 (by decide) (fun c2 => ?_) (fun c2 => ?_)
  · have hc2 := c2
    have q2 := q_le hc2
    have g6 := hI0.get w 6 (lo := 0) (hi := 400) (rgw0 hW.1).2
    have t6 := tn (i := I w 6) (by omega)
    have l6 := COD_len I w
    exact m_vret hx hb hr hlocks hM hS (Nat.le_of_ble_eq_true rfl) (Nat.le_of_ble_eq_true rfl) ⟨_, _, rfl, hI, hK, ⟨OTH.rf, ⟨(adl_n (by omega)).symm, rfl⟩⟩⟩ dX3_add_30
  · have hc2 := c2
    have q2 := q_nle hc2
    refine lv_aload_n hx hb dX3_add_10 rfl (lv_at hl 0 rfl) ?_
    refine m_getr (w) 0 (w + 1) hx hb hts hown hE oc3 hM hW.l (kW _ hW.1).1 (by decide) rfl (hW.2.2 0 (by decide)) (by have := lbw hW.1; omega) tb_369 dX3_add_11 ?_
    refine lv_aload_n hx hb dX3_add_14 rfl (lv_at hl 0 rfl) ?_
    refine m_geti (w) 6 hx hb hts hown hE oc3 hM hW.l (kW _ hW.1).1 (by decide) rfl tb_382 dX3_add_15 ?_
    refine lv_iload_n hx hb dX3_add_18 rfl (lv_at hl 1 rfl) ?_
    refine m_iast (w + 1) hx hb hE hM hS (hW.2.1 1 (by decide)) (kW _ hW.1).2.1 (vp_in_iff.mpr (by omega)) dX3_add_19 (fun H locs I3 eI3 hM hS => ?_)
    subst eI3
    have hI := hI.putF (n := w + 1) (k := ((I (w) 6).toNatClampNeg)) (v := a0) (rgw1 hW.1 _)
    have hK := hK.putR (n := w + 1) (k := ((I (w) 6).toNatClampNeg)) (v := a0) (200, 300) (by decide) (by have := lbw hW.1; omega)
    refine lv_aload_n hx hb dX3_add_20 rfl (lv_at hl 0 rfl) ?_
    refine lv_dup hx hb dX3_add_21 rfl ?_
    refine m_geti (w) 6 hx hb hts hown hE oc3 hM hW.l (kW _ hW.1).1 (by decide) rfl tb_382 dX3_add_22 ?_
    have z4 : (u2 I (w + 1) ((I (w) 6).toNatClampNeg) (a0)) (w) 6 = I (w) 6 := (show (u2 I (w + 1) ((I (w) 6).toNatClampNeg) (a0)) (w) 6 = I (w) 6 from by simp [u2_v])
    rw [z4]
    refine lv_iconst (v := (1)) hx hb dX3_add_25 (by decide) ?_
    refine lv_iadd hx hb dX3_add_26 ?_
    refine lv_topi (fun v5 ev5 => ?_)
    have tv5 := a_add ev5 (by omega) (by omega)
    refine m_puti (w) 6 hx hb hts hown hE oc3 hM hS hW.l (kW _ hW.1).1 (by decide) rfl rfl rfl rfl tb_382 dX3_add_27 (fun H locs I6 eI6 hM hS => ?_)
    subst eI6
    have hI := hI.put (n := w) (k := 6) (v := v5) (lo := 0) (hi := 400) (rgw0 hW.1).2 (by first | omega | decide)
    have hK := hK.putR (n := w) (k := 6) (v := v5) (200, 300) (by decide) (by have := lbw hW.1; omega)
    have g6 := hI0.get w 6 (lo := 0) (hi := 400) (rgw0 hW.1).2
    have t6 := tn (i := I w 6) (by omega)
    have l6 := COD_len I w
    exact m_vret hx hb hr hlocks hM hS (Nat.le_of_ble_eq_true rfl) (Nat.le_of_ble_eq_true rfl) ⟨_, _, rfl, hI, hK, ⟨((show OTH w I (u2 I (w + 1) ((I (w) 6).toNatClampNeg) (a0)) from OTH.put (by omega)).trans (show OTH w (u2 I (w + 1) ((I (w) 6).toNatClampNeg) (a0)) (u2 (u2 I (w + 1) ((I (w) 6).toNatClampNeg) (a0)) (w) 6 (v5)) from OTH.put (by omega))), ⟨by rw [adl_y (by omega)]; exact COD_add (fun zz => by simp [u2_v]) (by omega) (by rw [u2_self]; omega), CLS_of (by simp [u2_v]) (by funext zz; simp [u2_v]) (by funext zz; simp [u2_v]) (by funext zz; simp [u2_v]) (by funext zz; simp [u2_v])⟩⟩⟩ dX3_add_30
set_option maxHeartbeats 4000000 in
set_option maxRecDepth 20000 in
theorem V_X3_clear_h (l : Launch) (D : va_G) (A : Nat → Prop) (ad : Nat → Nat) (ns : List Nat) (I : MI) (L : ML) (G : MG) (w : Nat) (hG : SGC ns G) (hI : INV I) (hW : LOK ns G w) : Met l yX3_clear (wd yX3_clear cX3_clear 1 none) ({ frames := 0, cells := 0, slots := 0, locals := 0 }) (va_Pc [.ref (ad (w))] (PM D A ad ns I L G)) (va_Qv (fun u => ∃ I2 L2, u = (ad, ns, I2, L2, G) ∧ INV I2 ∧ Kp [(200, 300)] [] I I2 ∧ (OTH w I I2 ∧ (COD I2 w = [] ∧ CLS I2 w = (0, (CLS I w).2)))) (BM D A) A) 0 0 A := by
  refine m_ofW (by decide) (Nat.le_of_ble_eq_true rfl) ?_
  intro p e s m below meth c ls args hC hE hM hA hS hl
  obtain ⟨hx, hb, hml, hown, hts, hr, hlocks, hin⟩ := hC
  have k0 : (0 : Int32).toInt = 0 := by decide
  have hK : Kp [(200, 300)] [] I I := Kp.rf
  have hl : lv_has ls 1 [(0, .ref (ad (w)))] := hl
  refine lv_aload_n hx hb dX3_clear_0 rfl (lv_at hl 0 rfl) ?_
  refine lv_iconst (v := (0)) hx hb dX3_clear_1 (by decide) ?_
  refine m_puti (w) 5 hx hb hts hown hE oc3 hM hS hW.l (kW _ hW.1).1 (by decide) rfl rfl rfl rfl tb_379 dX3_clear_2 (fun H locs I1 eI1 hM hS => ?_)
  subst eI1
  have hI := hI.put (n := w) (k := 5) (v := 0) (lo := 0) (hi := 12) (rgw0 hW.1).1 (by first | omega | decide)
  have hK := hK.putR (n := w) (k := 5) (v := 0) (200, 300) (by decide) (by have := lbw hW.1; omega)
  refine lv_aload_n hx hb dX3_clear_5 rfl (lv_at hl 0 rfl) ?_
  refine lv_iconst (v := (0)) hx hb dX3_clear_6 (by decide) ?_
  refine m_puti (w) 6 hx hb hts hown hE oc3 hM hS hW.l (kW _ hW.1).1 (by decide) rfl rfl rfl rfl tb_382 dX3_clear_7 (fun H locs I2 eI2 hM hS => ?_)
  subst eI2
  have hI := hI.put (n := w) (k := 6) (v := 0) (lo := 0) (hi := 400) (rgw0 hW.1).2 (by first | omega | decide)
  have hK := hK.putR (n := w) (k := 6) (v := 0) (200, 300) (by decide) (by have := lbw hW.1; omega)
  exact m_vret hx hb hr hlocks hM hS (Nat.le_of_ble_eq_true rfl) (Nat.le_of_ble_eq_true rfl) ⟨_, _, rfl, hI, hK, ⟨((show OTH w I (u2 I (w) 5 (0)) from OTH.put (by omega)).trans (show OTH w (u2 I (w) 5 (0)) (u2 (u2 I (w) 5 (0)) (w) 6 (0)) from OTH.put (by omega))), ⟨COD_nil (by rw [u2_self]; exact k0), CLS_c (by rw [u2_v, if_neg (by simp), u2_self]; exact k0) (by funext zz; simp [u2_v]) (by funext zz; simp [u2_v]) (by funext zz; simp [u2_v]) (by funext zz; simp [u2_v])⟩⟩⟩ dX3_clear_10
set_option maxHeartbeats 4000000 in
set_option maxRecDepth 20000 in
theorem V_X3_beginClause_h (l : Launch) (D : va_G) (A : Nat → Prop) (ad : Nat → Nat) (ns : List Nat) (I : MI) (L : ML) (G : MG) (w : Nat) (a0 : Int32) (hG : SGC ns G) (hI : INV I) (hW : LOK ns G w) : Met l yX3_beginClause (wd yX3_beginClause cX3_beginClause 2 none) ({ frames := 0, cells := 0, slots := 0, locals := 0 }) (va_Pc [.ref (ad (w)), .int a0] (PM D A ad ns I L G)) (va_Qv (fun u => ∃ I2 L2, u = (ad, ns, I2, L2, G) ∧ INV I2 ∧ Kp [(200, 300)] [] I I2 ∧ (OTH w I I2 ∧ (CLS I2 w = bgc (CLS I w) a0.toInt (COD I w).length ∧ COD I2 w = COD I w))) (BM D A) A) 0 0 A := by
  refine m_ofW (by decide) (Nat.le_of_ble_eq_true rfl) ?_
  intro p e s m below meth c ls args hC hE hM hA hS hl
  obtain ⟨hx, hb, hml, hown, hts, hr, hlocks, hin⟩ := hC
  have k0 : (0 : Int32).toInt = 0 := by decide
  have k12 : (12 : Int32).toInt = 12 := by decide
  have hI0 := hI
  have hK : Kp [(200, 300)] [] I I := Kp.rf
  have hl : lv_has ls 2 [(0, .ref (ad (w))), (1, .int (a0))] := hl
  refine lv_aload_n hx hb dX3_beginClause_0 rfl (lv_at hl 0 rfl) ?_
  refine m_geti (w) 5 hx hb hts hown hE oc3 hM hW.l (kW _ hW.1).1 (by decide) rfl tb_379 dX3_beginClause_1 ?_
  have g1 := hI.get (w) 5 (lo := 0) (hi := 12) (rgw0 hW.1).1
  refine lv_bipush (v := (12)) hx hb dX3_beginClause_4 (by decide) ?_
  refine lv_icmp_ge (tgt := 32) hx hb dX3_beginClause_6 (by decide) (fun c2 => ?_) (fun c2 => ?_)
  · have hc2 := c2
    have q2 := q_le hc2
    have g5 := hI0.get w 5 (lo := 0) (hi := 12) (rgw0 hW.1).1
    have t5 := tn (i := I w 5) (by omega)
    have g6 := hI0.get w 6 (lo := 0) (hi := 400) (rgw0 hW.1).2
    exact m_vret hx hb hr hlocks hM hS (Nat.le_of_ble_eq_true rfl) (Nat.le_of_ble_eq_true rfl) ⟨_, _, rfl, hI, hK, ⟨OTH.rf, ⟨(bgc_n (show 12 ≤ (I w 5).toNatClampNeg by omega)).symm, rfl⟩⟩⟩ dX3_beginClause_32
  · have hc2 := c2
    have q2 := q_nle hc2
    refine lv_aload_n hx hb dX3_beginClause_9 rfl (lv_at hl 0 rfl) ?_
    refine m_getr (w) 1 (w + 2) hx hb hts hown hE oc3 hM hW.l (kW _ hW.1).1 (by decide) rfl (hW.2.2 1 (by decide)) (by have := lbw hW.1; omega) tb_371 dX3_beginClause_10 ?_
    refine lv_aload_n hx hb dX3_beginClause_13 rfl (lv_at hl 0 rfl) ?_
    refine m_geti (w) 5 hx hb hts hown hE oc3 hM hW.l (kW _ hW.1).1 (by decide) rfl tb_379 dX3_beginClause_14 ?_
    refine lv_iload_n hx hb dX3_beginClause_17 rfl (lv_at hl 1 rfl) ?_
    refine m_iast (w + 2) hx hb hE hM hS (hW.2.1 2 (by decide)) (kW _ hW.1).2.2.1 (vp_in_iff.mpr (by omega)) dX3_beginClause_18 (fun H locs I3 eI3 hM hS => ?_)
    subst eI3
    have hI := hI.putF (n := w + 2) (k := ((I (w) 5).toNatClampNeg)) (v := a0) (rgw2 hW.1 _)
    have hK := hK.putR (n := w + 2) (k := ((I (w) 5).toNatClampNeg)) (v := a0) (200, 300) (by decide) (by have := lbw hW.1; omega)
    refine lv_aload_n hx hb dX3_beginClause_19 rfl (lv_at hl 0 rfl) ?_
    refine m_getr (w) 2 (w + 3) hx hb hts hown hE oc3 hM hW.l (kW _ hW.1).1 (by decide) rfl (hW.2.2 2 (by decide)) (by have := lbw hW.1; omega) tb_373 dX3_beginClause_20 ?_
    refine lv_aload_n hx hb dX3_beginClause_23 rfl (lv_at hl 0 rfl) ?_
    refine m_geti (w) 5 hx hb hts hown hE oc3 hM hW.l (kW _ hW.1).1 (by decide) rfl tb_379 dX3_beginClause_24 ?_
    have z4 : (u2 I (w + 2) ((I (w) 5).toNatClampNeg) (a0)) (w) 5 = I (w) 5 := (show (u2 I (w + 2) ((I (w) 5).toNatClampNeg) (a0)) (w) 5 = I (w) 5 from by simp [u2_v])
    rw [z4]
    refine lv_aload_n hx hb dX3_beginClause_27 rfl (lv_at hl 0 rfl) ?_
    refine m_geti (w) 6 hx hb hts hown hE oc3 hM hW.l (kW _ hW.1).1 (by decide) rfl tb_382 dX3_beginClause_28 ?_
    have g5 := hI.get (w) 6 (lo := 0) (hi := 400) (rgw0 hW.1).2
    have z6 : (u2 I (w + 2) ((I (w) 5).toNatClampNeg) (a0)) (w) 6 = I (w) 6 := (show (u2 I (w + 2) ((I (w) 5).toNatClampNeg) (a0)) (w) 6 = I (w) 6 from by simp [u2_v])
    rw [z6] at g5 ⊢
    refine m_iast (w + 3) hx hb hE hM hS (hW.2.1 3 (by decide)) (kW _ hW.1).2.2.2.1 (vp_in_iff.mpr (by omega)) dX3_beginClause_31 (fun H locs I7 eI7 hM hS => ?_)
    subst eI7
    have hI := hI.put (n := w + 3) (k := ((I (w) 5).toNatClampNeg)) (v := I (w) 6) (lo := 0) (hi := 400) (rgw3 hW.1 _) (by first | omega | decide)
    have hK := hK.putR (n := w + 3) (k := ((I (w) 5).toNatClampNeg)) (v := I (w) 6) (200, 300) (by decide) (by have := lbw hW.1; omega)
    have g5 := hI0.get w 5 (lo := 0) (hi := 12) (rgw0 hW.1).1
    have t5 := tn (i := I w 5) (by omega)
    have g6 := hI0.get w 6 (lo := 0) (hi := 400) (rgw0 hW.1).2
    exact m_vret hx hb hr hlocks hM hS (Nat.le_of_ble_eq_true rfl) (Nat.le_of_ble_eq_true rfl) ⟨_, _, rfl, hI, hK, ⟨((show OTH w I (u2 I (w + 2) ((I (w) 5).toNatClampNeg) (a0)) from OTH.put (by omega)).trans (show OTH w (u2 I (w + 2) ((I (w) 5).toNatClampNeg) (a0)) (u2 (u2 I (w + 2) ((I (w) 5).toNatClampNeg) (a0)) (w + 3) ((I (w) 5).toNatClampNeg) (I (w) 6)) from OTH.put (by omega))), ⟨CLS_bg (by omega) (by omega) (by simp [u2_v]) (fun zz => by simp [u2_v]) (fun zz => by simp [u2_v]) (by funext zz; simp [u2_v]) (by funext zz; simp [u2_v]) rfl (by omega), COD_of (by funext zz; simp [u2_v]) (by simp [u2_v])⟩⟩⟩ dX3_beginClause_32
set_option maxHeartbeats 4000000 in
set_option maxRecDepth 20000 in
theorem V_X3_beginTest_h (l : Launch) (D : va_G) (A : Nat → Prop) (ad : Nat → Nat) (ns : List Nat) (I : MI) (L : ML) (G : MG) (w : Nat) (hG : SGC ns G) (hI : INV I) (hW : LOK ns G w) : Met l yX3_beginTest (wd yX3_beginTest cX3_beginTest 1 none) ({ frames := 0, cells := 0, slots := 0, locals := 0 }) (va_Pc [.ref (ad (w))] (PM D A ad ns I L G)) (va_Qv (fun u => ∃ I2 L2, u = (ad, ns, I2, L2, G) ∧ INV I2 ∧ Kp [(200, 300)] [] I I2 ∧ (OTH w I I2 ∧ (CLS I2 w = bgt (CLS I w) (COD I w).length ∧ COD I2 w = COD I w))) (BM D A) A) 0 0 A := by
  refine m_ofW (by decide) (Nat.le_of_ble_eq_true rfl) ?_
  intro p e s m below meth c ls args hC hE hM hA hS hl
  obtain ⟨hx, hb, hml, hown, hts, hr, hlocks, hin⟩ := hC
  have k0 : (0 : Int32).toInt = 0 := by decide
  have k12 : (12 : Int32).toInt = 12 := by decide
  have hI0 := hI
  have hK : Kp [(200, 300)] [] I I := Kp.rf
  have hl : lv_has ls 1 [(0, .ref (ad (w)))] := hl
  refine lv_aload_n hx hb dX3_beginTest_0 rfl (lv_at hl 0 rfl) ?_
  refine m_geti (w) 5 hx hb hts hown hE oc3 hM hW.l (kW _ hW.1).1 (by decide) rfl tb_379 dX3_beginTest_1 ?_
  have g1 := hI.get (w) 5 (lo := 0) (hi := 12) (rgw0 hW.1).1
  refine lv_bipush (v := (12)) hx hb dX3_beginTest_4 (by decide) ?_
  refine lv_icmp_ge (tgt := 22) hx hb dX3_beginTest_6 (by decide) (fun c2 => ?_) (fun c2 => ?_)
  · have hc2 := c2
    have q2 := q_le hc2
    have g5 := hI0.get w 5 (lo := 0) (hi := 12) (rgw0 hW.1).1
    have t5 := tn (i := I w 5) (by omega)
    have g6 := hI0.get w 6 (lo := 0) (hi := 400) (rgw0 hW.1).2
    exact m_vret hx hb hr hlocks hM hS (Nat.le_of_ble_eq_true rfl) (Nat.le_of_ble_eq_true rfl) ⟨_, _, rfl, hI, hK, ⟨OTH.rf, ⟨(bgt_n (show 12 ≤ (I w 5).toNatClampNeg by omega)).symm, rfl⟩⟩⟩ dX3_beginTest_22
  · have hc2 := c2
    have q2 := q_nle hc2
    refine lv_aload_n hx hb dX3_beginTest_9 rfl (lv_at hl 0 rfl) ?_
    refine m_getr (w) 3 (w + 4) hx hb hts hown hE oc3 hM hW.l (kW _ hW.1).1 (by decide) rfl (hW.2.2 3 (by decide)) (by have := lbw hW.1; omega) tb_375 dX3_beginTest_10 ?_
    refine lv_aload_n hx hb dX3_beginTest_13 rfl (lv_at hl 0 rfl) ?_
    refine m_geti (w) 5 hx hb hts hown hE oc3 hM hW.l (kW _ hW.1).1 (by decide) rfl tb_379 dX3_beginTest_14 ?_
    refine lv_aload_n hx hb dX3_beginTest_17 rfl (lv_at hl 0 rfl) ?_
    refine m_geti (w) 6 hx hb hts hown hE oc3 hM hW.l (kW _ hW.1).1 (by decide) rfl tb_382 dX3_beginTest_18 ?_
    have g3 := hI.get (w) 6 (lo := 0) (hi := 400) (rgw0 hW.1).2
    refine m_iast (w + 4) hx hb hE hM hS (hW.2.1 4 (by decide)) (kW _ hW.1).2.2.2.2.1 (vp_in_iff.mpr (by omega)) dX3_beginTest_21 (fun H locs I4 eI4 hM hS => ?_)
    subst eI4
    have hI := hI.put (n := w + 4) (k := ((I (w) 5).toNatClampNeg)) (v := I (w) 6) (lo := 0) (hi := 400) (rgw4 hW.1 _) (by first | omega | decide)
    have hK := hK.putR (n := w + 4) (k := ((I (w) 5).toNatClampNeg)) (v := I (w) 6) (200, 300) (by decide) (by have := lbw hW.1; omega)
    have g5 := hI0.get w 5 (lo := 0) (hi := 12) (rgw0 hW.1).1
    have t5 := tn (i := I w 5) (by omega)
    have g6 := hI0.get w 6 (lo := 0) (hi := 400) (rgw0 hW.1).2
    exact m_vret hx hb hr hlocks hM hS (Nat.le_of_ble_eq_true rfl) (Nat.le_of_ble_eq_true rfl) ⟨_, _, rfl, hI, hK, ⟨(show OTH w I (u2 I (w + 4) ((I (w) 5).toNatClampNeg) (I (w) 6)) from OTH.put (by omega)), ⟨CLS_bt (by omega) (by omega) (by simp [u2_v]) (by funext zz; simp [u2_v]) (by funext zz; simp [u2_v]) (fun zz => by simp [u2_v]) (by funext zz; simp [u2_v]) rfl (by omega), COD_of (by funext zz; simp [u2_v]) (by simp [u2_v])⟩⟩⟩ dX3_beginTest_22
set_option maxHeartbeats 4000000 in
set_option maxRecDepth 20000 in
theorem V_X3_endClause_h (l : Launch) (D : va_G) (A : Nat → Prop) (ad : Nat → Nat) (ns : List Nat) (I : MI) (L : ML) (G : MG) (w : Nat) (hG : SGC ns G) (hI : INV I) (hW : LOK ns G w) : Met l yX3_endClause (wd yX3_endClause cX3_endClause 1 none) ({ frames := 0, cells := 0, slots := 0, locals := 0 }) (va_Pc [.ref (ad (w))] (PM D A ad ns I L G)) (va_Qv (fun u => ∃ I2 L2, u = (ad, ns, I2, L2, G) ∧ INV I2 ∧ Kp [(200, 300)] [] I I2 ∧ (OTH w I I2 ∧ (CLS I2 w = edc (CLS I w) (COD I w).length ∧ COD I2 w = COD I w))) (BM D A) A) 0 0 A := by
  refine m_ofW (by decide) (Nat.le_of_ble_eq_true rfl) ?_
  intro p e s m below meth c ls args hC hE hM hA hS hl
  obtain ⟨hx, hb, hml, hown, hts, hr, hlocks, hin⟩ := hC
  have k0 : (0 : Int32).toInt = 0 := by decide
  have k1 : (1 : Int32).toInt = 1 := by decide
  have k12 : (12 : Int32).toInt = 12 := by decide
  have hI0 := hI
  have hK : Kp [(200, 300)] [] I I := Kp.rf
  have hl : lv_has ls 1 [(0, .ref (ad (w)))] := hl
  refine lv_aload_n hx hb dX3_endClause_0 rfl (lv_at hl 0 rfl) ?_
  refine m_geti (w) 5 hx hb hts hown hE oc3 hM hW.l (kW _ hW.1).1 (by decide) rfl tb_379 dX3_endClause_1 ?_
  have g1 := hI.get (w) 5 (lo := 0) (hi := 12) (rgw0 hW.1).1
  refine lv_bipush (v := (12)) hx hb dX3_endClause_4 (by decide) ?_
  refine lv_icmp_ge (tgt := 32) hx hb dX3_endClause_6 (by decide) (fun c2 => ?_) (fun c2 => ?_)
  · have hc2 := c2
    have q2 := q_le hc2
    have g5 := hI0.get w 5 (lo := 0) (hi := 12) (rgw0 hW.1).1
    have t5 := tn (i := I w 5) (by omega)
    have g6 := hI0.get w 6 (lo := 0) (hi := 400) (rgw0 hW.1).2
    exact m_vret hx hb hr hlocks hM hS (Nat.le_of_ble_eq_true rfl) (Nat.le_of_ble_eq_true rfl) ⟨_, _, rfl, hI, hK, ⟨OTH.rf, ⟨(edc_n (show 12 ≤ (I w 5).toNatClampNeg by omega)).symm, rfl⟩⟩⟩ dX3_endClause_32
  · have hc2 := c2
    have q2 := q_nle hc2
    refine lv_aload_n hx hb dX3_endClause_9 rfl (lv_at hl 0 rfl) ?_
    refine m_getr (w) 4 (w + 5) hx hb hts hown hE oc3 hM hW.l (kW _ hW.1).1 (by decide) rfl (hW.2.2 4 (by decide)) (by have := lbw hW.1; omega) tb_377 dX3_endClause_10 ?_
    refine lv_aload_n hx hb dX3_endClause_13 rfl (lv_at hl 0 rfl) ?_
    refine m_geti (w) 5 hx hb hts hown hE oc3 hM hW.l (kW _ hW.1).1 (by decide) rfl tb_379 dX3_endClause_14 ?_
    refine lv_aload_n hx hb dX3_endClause_17 rfl (lv_at hl 0 rfl) ?_
    refine m_geti (w) 6 hx hb hts hown hE oc3 hM hW.l (kW _ hW.1).1 (by decide) rfl tb_382 dX3_endClause_18 ?_
    have g3 := hI.get (w) 6 (lo := 0) (hi := 400) (rgw0 hW.1).2
    refine m_iast (w + 5) hx hb hE hM hS (hW.2.1 5 (by decide)) (kW _ hW.1).2.2.2.2.2.1 (vp_in_iff.mpr (by omega)) dX3_endClause_21 (fun H locs I4 eI4 hM hS => ?_)
    subst eI4
    have hI := hI.put (n := w + 5) (k := ((I (w) 5).toNatClampNeg)) (v := I (w) 6) (lo := 0) (hi := 400) (rgw5 hW.1 _) (by first | omega | decide)
    have hK := hK.putR (n := w + 5) (k := ((I (w) 5).toNatClampNeg)) (v := I (w) 6) (200, 300) (by decide) (by have := lbw hW.1; omega)
    refine lv_aload_n hx hb dX3_endClause_22 rfl (lv_at hl 0 rfl) ?_
    refine lv_dup hx hb dX3_endClause_23 rfl ?_
    refine m_geti (w) 5 hx hb hts hown hE oc3 hM hW.l (kW _ hW.1).1 (by decide) rfl tb_379 dX3_endClause_24 ?_
    have z5 : (u2 I (w + 5) ((I (w) 5).toNatClampNeg) (I (w) 6)) (w) 5 = I (w) 5 := (show (u2 I (w + 5) ((I (w) 5).toNatClampNeg) (I (w) 6)) (w) 5 = I (w) 5 from by simp [u2_v])
    rw [z5]
    refine lv_iconst (v := (1)) hx hb dX3_endClause_27 (by decide) ?_
    refine lv_iadd hx hb dX3_endClause_28 ?_
    refine lv_topi (fun v6 ev6 => ?_)
    have tv6 := a_add ev6 (by omega) (by omega)
    refine m_puti (w) 5 hx hb hts hown hE oc3 hM hS hW.l (kW _ hW.1).1 (by decide) rfl rfl rfl rfl tb_379 dX3_endClause_29 (fun H locs I7 eI7 hM hS => ?_)
    subst eI7
    have hI := hI.put (n := w) (k := 5) (v := v6) (lo := 0) (hi := 12) (rgw0 hW.1).1 (by first | omega | decide)
    have hK := hK.putR (n := w) (k := 5) (v := v6) (200, 300) (by decide) (by have := lbw hW.1; omega)
    have g5 := hI0.get w 5 (lo := 0) (hi := 12) (rgw0 hW.1).1
    have t5 := tn (i := I w 5) (by omega)
    have g6 := hI0.get w 6 (lo := 0) (hi := 400) (rgw0 hW.1).2
    exact m_vret hx hb hr hlocks hM hS (Nat.le_of_ble_eq_true rfl) (Nat.le_of_ble_eq_true rfl) ⟨_, _, rfl, hI, hK, ⟨((show OTH w I (u2 I (w + 5) ((I (w) 5).toNatClampNeg) (I (w) 6)) from OTH.put (by omega)).trans (show OTH w (u2 I (w + 5) ((I (w) 5).toNatClampNeg) (I (w) 6)) (u2 (u2 I (w + 5) ((I (w) 5).toNatClampNeg) (I (w) 6)) (w) 5 (v6)) from OTH.put (by omega))), ⟨CLS_ed (by omega) (by omega) (by rw [u2_self]; omega) (by funext zz; simp [u2_v]) (by funext zz; simp [u2_v]) (by funext zz; simp [u2_v]) (fun zz => by simp [u2_v]) rfl (by omega), COD_of (by funext zz; simp [u2_v]) (by simp [u2_v])⟩⟩⟩ dX3_endClause_32
set_option maxHeartbeats 4000000 in
set_option maxRecDepth 20000 in
theorem V_X4_rankOf_h (l : Launch) (D : va_G) (A : Nat → Prop) (ad : Nat → Nat) (ns : List Nat) (I : MI) (L : ML) (G : MG) (a0 : Int32) (hI : INV I) : Met l yX4_rankOf (wd yX4_rankOf cX4_rankOf 1 (some .int)) ({ frames := 0, cells := 0, slots := 0, locals := 0 }) (va_Pc [.int a0] (PM D A ad ns I L G)) (va_Qi (fun r u => u = (ad, ns, I, L, G) ∧ (r.toInt = rk a0.toInt)) (BM D A) A) 0 0 A := by
  refine m_ofW (by decide) (Nat.le_of_ble_eq_true rfl) ?_
  intro p e s m below meth c ls args hC hE hM hA hS hl
  obtain ⟨hx, hb, hml, hown, hts, hr, hlocks, hin⟩ := hC
  have k0 : (0 : Int32).toInt = 0 := by decide
  have k1 : (1 : Int32).toInt = 1 := by decide
  have k2 : (2 : Int32).toInt = 2 := by decide
  have k3 : (3 : Int32).toInt = 3 := by decide
  have k4 : (4 : Int32).toInt = 4 := by decide
  have k5 : (5 : Int32).toInt = 5 := by decide
  have k6 : (6 : Int32).toInt = 6 := by decide
  have hl : lv_has ls 1 [(0, .int (a0))] := hl
  refine lv_iload_n hx hb dX4_rankOf_0 rfl (lv_at hl 0 rfl) ?_
  by_cases c1 : (a0).toInt < -25 ∨ -14 < (a0).toInt
  · refine lv_tableOut (tgt := 75) hx hb dX4_rankOf_1 c1 (by decide) ?_
    refine lv_iconst (v := (4)) hx hb dX4_rankOf_75 (by decide) ?_
    exact m_iret hx hb hr hlocks hM hS (Nat.le_of_ble_eq_true rfl) (Nat.le_of_ble_eq_true rfl) ⟨rfl, (rk_of (by omega))⟩ dX4_rankOf_76
  · have qc1 : (a0).toInt = -25 ∨ (a0).toInt = -24 ∨ (a0).toInt = -23 ∨ (a0).toInt = -22 ∨ (a0).toInt = -21 ∨ (a0).toInt = -20 ∨ (a0).toInt = -19 ∨ (a0).toInt = -18 ∨ (a0).toInt = -17 ∨ (a0).toInt = -16 ∨ (a0).toInt = -15 ∨ (a0).toInt = -14 := by omega
    rcases qc1 with qc1 | qc1 | qc1 | qc1 | qc1 | qc1 | qc1 | qc1 | qc1 | qc1 | qc1 | qc1
    · refine lv_tableIn (off := 63) (tgt := 64) hx hb dX4_rankOf_1 (by omega) (by omega) (by rw [qc1]; rfl) (by decide) ?_
      refine lv_iconst (v := (1)) hx hb dX4_rankOf_64 (by decide) ?_
      exact m_iret hx hb hr hlocks hM hS (Nat.le_of_ble_eq_true rfl) (Nat.le_of_ble_eq_true rfl) ⟨rfl, (rk_of (by omega))⟩ dX4_rankOf_65
    · refine lv_tableIn (off := 65) (tgt := 66) hx hb dX4_rankOf_1 (by omega) (by omega) (by rw [qc1]; rfl) (by decide) ?_
      refine lv_iconst (v := (2)) hx hb dX4_rankOf_66 (by decide) ?_
      exact m_iret hx hb hr hlocks hM hS (Nat.le_of_ble_eq_true rfl) (Nat.le_of_ble_eq_true rfl) ⟨rfl, (rk_of (by omega))⟩ dX4_rankOf_67
    · refine lv_tableIn (off := 74) (tgt := 75) hx hb dX4_rankOf_1 (by omega) (by omega) (by rw [qc1]; rfl) (by decide) ?_
      refine lv_iconst (v := (4)) hx hb dX4_rankOf_75 (by decide) ?_
      exact m_iret hx hb hr hlocks hM hS (Nat.le_of_ble_eq_true rfl) (Nat.le_of_ble_eq_true rfl) ⟨rfl, (rk_of (by omega))⟩ dX4_rankOf_76
    · refine lv_tableIn (off := 74) (tgt := 75) hx hb dX4_rankOf_1 (by omega) (by omega) (by rw [qc1]; rfl) (by decide) ?_
      refine lv_iconst (v := (4)) hx hb dX4_rankOf_75 (by decide) ?_
      exact m_iret hx hb hr hlocks hM hS (Nat.le_of_ble_eq_true rfl) (Nat.le_of_ble_eq_true rfl) ⟨rfl, (rk_of (by omega))⟩ dX4_rankOf_76
    · refine lv_tableIn (off := 74) (tgt := 75) hx hb dX4_rankOf_1 (by omega) (by omega) (by rw [qc1]; rfl) (by decide) ?_
      refine lv_iconst (v := (4)) hx hb dX4_rankOf_75 (by decide) ?_
      exact m_iret hx hb hr hlocks hM hS (Nat.le_of_ble_eq_true rfl) (Nat.le_of_ble_eq_true rfl) ⟨rfl, (rk_of (by omega))⟩ dX4_rankOf_76
    · refine lv_tableIn (off := 74) (tgt := 75) hx hb dX4_rankOf_1 (by omega) (by omega) (by rw [qc1]; rfl) (by decide) ?_
      refine lv_iconst (v := (4)) hx hb dX4_rankOf_75 (by decide) ?_
      exact m_iret hx hb hr hlocks hM hS (Nat.le_of_ble_eq_true rfl) (Nat.le_of_ble_eq_true rfl) ⟨rfl, (rk_of (by omega))⟩ dX4_rankOf_76
    · refine lv_tableIn (off := 74) (tgt := 75) hx hb dX4_rankOf_1 (by omega) (by omega) (by rw [qc1]; rfl) (by decide) ?_
      refine lv_iconst (v := (4)) hx hb dX4_rankOf_75 (by decide) ?_
      exact m_iret hx hb hr hlocks hM hS (Nat.le_of_ble_eq_true rfl) (Nat.le_of_ble_eq_true rfl) ⟨rfl, (rk_of (by omega))⟩ dX4_rankOf_76
    · refine lv_tableIn (off := 71) (tgt := 72) hx hb dX4_rankOf_1 (by omega) (by omega) (by rw [qc1]; rfl) (by decide) ?_
      refine lv_bipush (v := (6)) hx hb dX4_rankOf_72 (by decide) ?_
      exact m_iret hx hb hr hlocks hM hS (Nat.le_of_ble_eq_true rfl) (Nat.le_of_ble_eq_true rfl) ⟨rfl, (rk_of (by omega))⟩ dX4_rankOf_74
    · refine lv_tableIn (off := 71) (tgt := 72) hx hb dX4_rankOf_1 (by omega) (by omega) (by rw [qc1]; rfl) (by decide) ?_
      refine lv_bipush (v := (6)) hx hb dX4_rankOf_72 (by decide) ?_
      exact m_iret hx hb hr hlocks hM hS (Nat.le_of_ble_eq_true rfl) (Nat.le_of_ble_eq_true rfl) ⟨rfl, (rk_of (by omega))⟩ dX4_rankOf_74
    · refine lv_tableIn (off := 69) (tgt := 70) hx hb dX4_rankOf_1 (by omega) (by omega) (by rw [qc1]; rfl) (by decide) ?_
      refine lv_iconst (v := (5)) hx hb dX4_rankOf_70 (by decide) ?_
      exact m_iret hx hb hr hlocks hM hS (Nat.le_of_ble_eq_true rfl) (Nat.le_of_ble_eq_true rfl) ⟨rfl, (rk_of (by omega))⟩ dX4_rankOf_71
    · refine lv_tableIn (off := 69) (tgt := 70) hx hb dX4_rankOf_1 (by omega) (by omega) (by rw [qc1]; rfl) (by decide) ?_
      refine lv_iconst (v := (5)) hx hb dX4_rankOf_70 (by decide) ?_
      exact m_iret hx hb hr hlocks hM hS (Nat.le_of_ble_eq_true rfl) (Nat.le_of_ble_eq_true rfl) ⟨rfl, (rk_of (by omega))⟩ dX4_rankOf_71
    · refine lv_tableIn (off := 67) (tgt := 68) hx hb dX4_rankOf_1 (by omega) (by omega) (by rw [qc1]; rfl) (by decide) ?_
      refine lv_iconst (v := (3)) hx hb dX4_rankOf_68 (by decide) ?_
      exact m_iret hx hb hr hlocks hM hS (Nat.le_of_ble_eq_true rfl) (Nat.le_of_ble_eq_true rfl) ⟨rfl, (rk_of (by omega))⟩ dX4_rankOf_69
set_option maxHeartbeats 4000000 in
set_option maxRecDepth 20000 in
theorem V_X4_fail_h (l : Launch) (D : va_G) (A : Nat → Prop) (ad : Nat → Nat) (ns : List Nat) (I : MI) (L : ML) (G : MG) (a0 : Int32) (hG : SGC ns G) (hI : INV I) (ha0 : 0 ≤ a0.toInt ∧ a0.toInt ≤ 4) : Met l yX4_fail (wd yX4_fail cX4_fail 2 none) ({ frames := 0, cells := 0, slots := 0, locals := 0 }) (va_Pc [.ref (ad (70)), .int a0] (PM D A ad ns I L G)) (va_Qv (fun u => ∃ I2 L2, u = (ad, ns, I2, L2, G) ∧ INV I2 ∧ Kp [] [(70, 12)] I I2 ∧ ((I2 70 12).toInt = 1 + 8 * ((I 70 4).toNatClampNeg : Int) + a0.toInt)) (BM D A) A) 0 0 A := by
  refine m_ofW (by decide) (Nat.le_of_ble_eq_true rfl) ?_
  intro p e s m below meth c ls args hC hE hM hA hS hl
  obtain ⟨hx, hb, hml, hown, hts, hr, hlocks, hin⟩ := hC
  have k0 : (0 : Int32).toInt = 0 := by decide
  have k1 : (1 : Int32).toInt = 1 := by decide
  have k8 : (8 : Int32).toInt = 8 := by decide
  have hK : Kp [] [(70, 12)] I I := Kp.rf
  have hl : lv_has ls 2 [(0, .ref (ad (70))), (1, .int (a0))] := hl
  refine lv_aload_n hx hb dX4_fail_0 rfl (lv_at hl 0 rfl) ?_
  refine lv_iconst (v := (1)) hx hb dX4_fail_1 (by decide) ?_
  refine lv_bipush (v := (8)) hx hb dX4_fail_2 (by decide) ?_
  refine lv_aload_n hx hb dX4_fail_4 rfl (lv_at hl 0 rfl) ?_
  refine m_geti (70) 4 hx hb hts hown hE oc4 hM (hG.1 70 (by decide)) rfl (by decide) rfl tb_322 dX4_fail_5 ?_
  have g1 := hI.get (70) 4 (lo := 0) (hi := 801) rfl
  refine lv_imul hx hb dX4_fail_8 ?_
  refine lv_topi (fun v2 ev2 => ?_)
  have tv2 := a_mulL (c := 8) ev2 (by decide) (by omega) (by omega)
  refine lv_iadd hx hb dX4_fail_9 ?_
  refine lv_topi (fun v3 ev3 => ?_)
  have tv3 := a_add ev3 (by omega) (by omega)
  refine lv_iload_n hx hb dX4_fail_10 rfl (lv_at hl 1 rfl) ?_
  refine lv_iadd hx hb dX4_fail_11 ?_
  refine lv_topi (fun v4 ev4 => ?_)
  have tv4 := a_add ev4 (by omega) (by omega)
  refine m_puti (70) 12 hx hb hts hown hE oc4 hM hS (hG.1 70 (by decide)) rfl (by decide) rfl rfl rfl rfl tb_330 dX4_fail_12 (fun H locs I5 eI5 hM hS => ?_)
  subst eI5
  have hI := hI.putF (n := 70) (k := 12) (v := v4) rfl
  have hK := hK.put (n := 70) (k := 12) (v := v4) (by first | rfl | simp [inR])
  exact m_vret hx hb hr hlocks hM hS (Nat.le_of_ble_eq_true rfl) (Nat.le_of_ble_eq_true rfl) ⟨_, _, rfl, hI, hK, (by rw [u2_self]; have z1 := tn (i := I 70 4) (by omega); omega)⟩ dX4_fail_15
set_option maxHeartbeats 4000000 in
set_option maxRecDepth 20000 in
theorem V_X4_countsOneMore_h (l : Launch) (D : va_G) (A : Nat → Prop) (ad : Nat → Nat) (ns : List Nat) (I : MI) (L : ML) (G : MG) (hG : SGC ns G) (hI : INV I) : Met l yX4_countsOneMore (wd yX4_countsOneMore cX4_countsOneMore 1 (some .boolean)) ({ frames := 1, cells := 0, slots := 0, locals := 21 }) (va_Pc [.ref (ad (70))] (PM D A ad ns I L G)) (va_Qi (fun r u => ∃ I2 L2, u = (ad, ns, I2, L2, G) ∧ INV I2 ∧ Kp [] [(70, 11), (70, 12)] I I2 ∧ (CNT I I2 r)) (BM D A) A) 0 0 A := by
  refine m_ofW (by decide) (Nat.le_of_ble_eq_true rfl) ?_
  intro p e s m below meth c ls args hC hE hM hA hS hl
  obtain ⟨hx, hb, hml, hown, hts, hr, hlocks, hin⟩ := hC
  have k0 : (0 : Int32).toInt = 0 := by decide
  have k1 : (1 : Int32).toInt = 1 := by decide
  have k3 : (3 : Int32).toInt = 3 := by decide
  have k60 : (60 : Int32).toInt = 60 := by decide
  have hK : Kp [] [(70, 11), (70, 12)] I I := Kp.rf
  have hl : lv_has ls 1 [(0, .ref (ad (70)))] := hl
  refine lv_aload_n hx hb dX4_countsOneMore_0 rfl (lv_at hl 0 rfl) ?_
  refine m_geti (70) 11 hx hb hts hown hE oc4 hM (hG.1 70 (by decide)) rfl (by decide) rfl tb_329 dX4_countsOneMore_1 ?_
  refine lv_bipush (v := (60)) hx hb dX4_countsOneMore_4 (by decide) ?_
  refine lv_icmp_lt (tgt := 16) hx hb dX4_countsOneMore_6 (by decide) (fun c1 => ?_) (fun c1 => ?_)
  · have hc1 := c1
    have q1 := q_lt hc1
    refine lv_aload_n hx hb dX4_countsOneMore_16 rfl (lv_at hl 0 rfl) ?_
    refine lv_dup hx hb dX4_countsOneMore_17 rfl ?_
    refine m_geti (70) 11 hx hb hts hown hE oc4 hM (hG.1 70 (by decide)) rfl (by decide) rfl tb_329 dX4_countsOneMore_18 ?_
    refine lv_iconst (v := (1)) hx hb dX4_countsOneMore_21 (by decide) ?_
    refine lv_iadd hx hb dX4_countsOneMore_22 ?_
    refine lv_topi (fun v2 ev2 => ?_)
    have hb11 := b_lt (I 70 11)
    have tv2 := a_add ev2 (by omega) (by omega)
    refine m_puti (70) 11 hx hb hts hown hE oc4 hM hS (hG.1 70 (by decide)) rfl (by decide) rfl rfl rfl rfl tb_329 dX4_countsOneMore_23 (fun H locs I3 eI3 hM hS => ?_)
    subst eI3
    have hI := hI.putF (n := 70) (k := 11) (v := v2) rfl
    have hK := hK.put (n := 70) (k := 11) (v := v2) (by first | rfl | simp [inR])
    refine lv_iconst (v := (1)) hx hb dX4_countsOneMore_26 (by decide) ?_
    exact m_zret hx hb hr rfl hlocks hM hS (Nat.le_of_ble_eq_true rfl) (Nat.le_of_ble_eq_true rfl) ⟨_, _, rfl, hI, hK, (Or.inr ⟨k1, by omega, by rw [u2_self]; omega, congrArg Int32.toInt ((show (u2 I (70) 11 (v2)) (70) 12 = I (70) 12 from by simp [u2_v]))⟩)⟩ dX4_countsOneMore_27
  · have hc1 := c1
    have q1 := q_nlt hc1
    refine lv_aload_n hx hb dX4_countsOneMore_9 rfl (lv_at hl 0 rfl) ?_
    refine lv_iconst (v := (3)) hx hb dX4_countsOneMore_10 (by decide) ?_
    refine m_callv (m_runV (70) (As := [.int (3)]) (rest := []) hx hb hml hown hts hE hM hS hA ce_X4_fail tb_673 (V_X4_fail_h l D A ad ns I L G (3) hG hI (by first | omega | decide)) rfl rfl ⟨Nat.le_of_ble_eq_true rfl, Nat.le_of_ble_eq_true rfl⟩ (hG.1 70 (by decide)) rfl rfl (by decide) rfl hl.1 rfl (Nat.le_of_ble_eq_true rfl) dX4_countsOneMore_11 ⟨Nat.le_of_ble_eq_true rfl, Nat.le_of_ble_eq_true rfl⟩) hS (fun u H locs hw hM hS => ?_)
    obtain ⟨I4, L5, rfl, hI, hkI4, xI4⟩ := hw
    have hM : Mem D A ad ns I4 L5 G H := hM
    have hK := hK.trans hkI4 rfl
    refine lv_iconst (v := (0)) hx hb dX4_countsOneMore_14 (by decide) ?_
    exact m_zret hx hb hr rfl hlocks hM hS (Nat.le_of_ble_eq_true rfl) (Nat.le_of_ble_eq_true rfl) ⟨_, _, rfl, hI, hK, (Or.inl ⟨k0, by omega, by have := xI4; omega⟩)⟩ dX4_countsOneMore_15
set_option maxHeartbeats 4000000 in
set_option maxRecDepth 20000 in
theorem V_X4_push_h (l : Launch) (D : va_G) (A : Nat → Prop) (ad : Nat → Nat) (ns : List Nat) (I : MI) (L : ML) (G : MG) (a0 : Int32) (hG : SGC ns G) (hI : INV I) : Met l yX4_push (wd yX4_push cX4_push 2 none) ({ frames := 0, cells := 0, slots := 0, locals := 0 }) (va_Pc [.ref (ad (70)), .int a0] (PM D A ad ns I L G)) (va_Qv (fun u => ∃ I2 L2, u = (ad, ns, I2, L2, G) ∧ INV I2 ∧ Kp [(72, 73)] [(70, 2)] I I2 ∧ (STK I2 = psh (STK I) a0.toInt)) (BM D A) A) 0 0 A := by
  refine m_ofW (by decide) (Nat.le_of_ble_eq_true rfl) ?_
  intro p e s m below meth c ls args hC hE hM hA hS hl
  obtain ⟨hx, hb, hml, hown, hts, hr, hlocks, hin⟩ := hC
  have k0 : (0 : Int32).toInt = 0 := by decide
  have k1 : (1 : Int32).toInt = 1 := by decide
  have k64 : (64 : Int32).toInt = 64 := by decide
  have hI0 := hI
  have hK : Kp [(72, 73)] [(70, 2)] I I := Kp.rf
  have hl : lv_has ls 2 [(0, .ref (ad (70))), (1, .int (a0))] := hl
  refine lv_aload_n hx hb dX4_push_0 rfl (lv_at hl 0 rfl) ?_
  refine m_geti (70) 2 hx hb hts hown hE oc4 hM (hG.1 70 (by decide)) rfl (by decide) rfl tb_320 dX4_push_1 ?_
  have g1 := hI.get (70) 2 (lo := 0) (hi := 64) rfl
  refine lv_bipush (v := (64)) hx hb dX4_push_4 (by decide) ?_
  refine lv_icmp_ge (tgt := 29) hx hb dX4_push_6 (by decide) (fun c2 => ?_) (fun c2 => ?_)
  · have hc2 := c2
    have q2 := q_le hc2
    have g2 := hI0.get 70 2 (lo := 0) (hi := 64) rfl
    have l2 := STK_len (I := I) (by omega)
    exact m_vret hx hb hr hlocks hM hS (Nat.le_of_ble_eq_true rfl) (Nat.le_of_ble_eq_true rfl) ⟨_, _, rfl, hI, hK, ((psh_n (by omega)).symm)⟩ dX4_push_29
  · have hc2 := c2
    have q2 := q_nle hc2
    refine lv_aload_n hx hb dX4_push_9 rfl (lv_at hl 0 rfl) ?_
    refine m_getr (70) 1 (72) hx hb hts hown hE oc4 hM (hG.1 70 (by decide)) rfl (by decide) rfl (hG.2 (70, 1, 72) (by decide)) (by decide) tb_319 dX4_push_10 ?_
    refine lv_aload_n hx hb dX4_push_13 rfl (lv_at hl 0 rfl) ?_
    refine m_geti (70) 2 hx hb hts hown hE oc4 hM (hG.1 70 (by decide)) rfl (by decide) rfl tb_320 dX4_push_14 ?_
    refine lv_iload_n hx hb dX4_push_17 rfl (lv_at hl 1 rfl) ?_
    refine m_iast (72) hx hb hE hM hS (hG.1 72 (by decide)) rfl (vp_in_iff.mpr (by omega)) dX4_push_18 (fun H locs I3 eI3 hM hS => ?_)
    subst eI3
    have hI := hI.putF (n := 72) (k := ((I (70) 2).toNatClampNeg)) (v := a0) rfl
    have hK := hK.put (n := 72) (k := ((I (70) 2).toNatClampNeg)) (v := a0) (by first | rfl | simp [inR])
    refine lv_aload_n hx hb dX4_push_19 rfl (lv_at hl 0 rfl) ?_
    refine lv_dup hx hb dX4_push_20 rfl ?_
    refine m_geti (70) 2 hx hb hts hown hE oc4 hM (hG.1 70 (by decide)) rfl (by decide) rfl tb_320 dX4_push_21 ?_
    have z4 : (u2 I (72) ((I (70) 2).toNatClampNeg) (a0)) (70) 2 = I (70) 2 := (show (u2 I (72) ((I (70) 2).toNatClampNeg) (a0)) (70) 2 = I (70) 2 from by simp [u2_v])
    rw [z4]
    refine lv_iconst (v := (1)) hx hb dX4_push_24 (by decide) ?_
    refine lv_iadd hx hb dX4_push_25 ?_
    refine lv_topi (fun v5 ev5 => ?_)
    have tv5 := a_add ev5 (by omega) (by omega)
    refine m_puti (70) 2 hx hb hts hown hE oc4 hM hS (hG.1 70 (by decide)) rfl (by decide) rfl rfl rfl rfl tb_320 dX4_push_26 (fun H locs I6 eI6 hM hS => ?_)
    subst eI6
    have hI := hI.put (n := 70) (k := 2) (v := v5) (lo := 0) (hi := 64) rfl (by first | omega | decide)
    have hK := hK.put (n := 70) (k := 2) (v := v5) (by first | rfl | simp [inR])
    have g2 := hI0.get 70 2 (lo := 0) (hi := 64) rfl
    have l2 := STK_len (I := I) (by omega)
    exact m_vret hx hb hr hlocks hM hS (Nat.le_of_ble_eq_true rfl) (Nat.le_of_ble_eq_true rfl) ⟨_, _, rfl, hI, hK, (by rw [psh_y (by omega)]; exact STK_push (fun zz => by simp [u2_v]) (by omega) (by rw [u2_self]; omega))⟩ dX4_push_29
theorem pop_step {r t : Int} {st st2 : List Int} {d d2 : Int32} {co co2 : List Int} {X : List Int × Int32 × List Int} (h : popc r st d co = X) (hst : st = t :: st2) (h42 : t ≠ -42) (hr : r ≤ rk t) (hd : (t = -14 ∧ d2 = d - 1) ∨ (t ≠ -14 ∧ d2 = d)) (hc : co2 = adl co t) : popc r st2 d2 co2 = X := by
  rw [hst, popc, if_pos ⟨h42, hr⟩] at h
  rw [hc, ← h]
  rcases hd with ⟨h1, h2⟩ | ⟨h1, h2⟩
  · rw [if_pos h1, h2]
  · rw [if_neg h1, h2]
theorem STK_top {I : MI} (h0 : 0 < (I 70 2).toInt) : ∃ l, STK I = (I 72 ((I 70 2).toNatClampNeg - 1)).toInt :: l := by
  have t1 := tn (i := I 70 2) (by omega)
  obtain ⟨m, hm⟩ : ∃ m, (I 70 2).toNatClampNeg = m + 1 := ⟨(I 70 2).toNatClampNeg - 1, by omega⟩
  unfold STK
  rw [hm, skc]
  exact ⟨_, rfl⟩
theorem low_top {r : Int} {st : List Int} {t : Int} (h : ∃ l, st = t :: l) (ht : t = -42 ∨ rk t < r) : LOW r st := by
  obtain ⟨l, e⟩ := h
  intro x m e2
  rw [e] at e2
  rw [← (List.cons.inj e2).1]
  exact ht
theorem low_nil {r : Int} {st : List Int} (h : st = []) : LOW r st := by
  intro x m e2
  rw [h] at e2
  cases e2
theorem i_sub0 (x : Int32) : x - 0 = x := by simp
theorem SX.beg {X : KON → Nat → Int → Nat → Int → List Int → Int32 → List Int → Int32 → Int → CLT → Option RES} {w : Nat} {I S I2 : MI} (h : SX X w S I2) (h4 : S 70 4 = I 70 4) (h5 : S 70 5 = I 70 5) (h9 : S 70 9 = I 70 9) (h10 : S 70 10 = I 70 10) (h11 : S 70 11 = I 70 11) (hs : STK S = STK I) (hl : LQ w I S) (K : KON) (p : Nat) : X K (I 70 4).toNatClampNeg (I 70 5).toInt p (S 70 8).toInt (STK I) (I 70 9) (COD I w) (I 70 10) (I 70 11).toInt (CLS I w) = ARS K w I2 p := by
  have h0 := h K p
  rw [h4, h5, h9, h10, h11, hs, hl.1, hl.2] at h0
  exact h0
set_option maxHeartbeats 4000000 in
set_option maxRecDepth 20000 in
theorem V_X4_popDownTo_h (l : Launch) (D : va_G) (A : Nat → Prop) (ad : Nat → Nat) (ns : List Nat) (I : MI) (L : ML) (G : MG) (w : Nat) (a0 : Int32) (hG : SGC ns G) (hI : INV I) (hW : LOK ns G w) (hd : G 70 13 = w) : Met l yX4_popDownTo (wd yX4_popDownTo cX4_popDownTo 2 none) ({ frames := 1, cells := 0, slots := 0, locals := 21 }) (va_Pc [.ref (ad (70)), .int a0] (PM D A ad ns I L G)) (va_Qv (fun u => ∃ I2 L2, u = (ad, ns, I2, L2, G) ∧ INV I2 ∧ Kp [(200, 300)] [(70, 2), (70, 9)] I I2 ∧ (OTH w I I2 ∧ (POPX w I I2 a0.toInt))) (BM D A) A) 0 0 A := by
  refine m_ofW (by decide) (Nat.le_of_ble_eq_true rfl) ?_
  intro p e s m below meth c ls args hC hE hM hA hS hl
  obtain ⟨hx, hb, hml, hown, hts, hr, hlocks, hin⟩ := hC
  have km42 : (-42 : Int32).toInt = -42 := by decide
  have km14 : (-14 : Int32).toInt = -14 := by decide
  have k0 : (0 : Int32).toInt = 0 := by decide
  have k1 : (1 : Int32).toInt = 1 := by decide
  have hK : Kp [(200, 300)] [(70, 2), (70, 9)] I I := Kp.rf
  have hl : lv_has ls 2 [(0, .ref (ad (70))), (1, .int (a0))] := hl
  have loop0 : ∀ (n : Nat)  (Ia0 : MI) (La0 : ML) (H : Heap) (locs : List Loc) (ls : Array Slot), INV Ia0 → Kp [(200, 300)] [(70, 2), (70, 9)] I Ia0 → (popc a0.toInt (STK Ia0) (Ia0 70 9) (COD Ia0 w) = popc a0.toInt (STK I) (I 70 9) (COD I w)) → (CLS Ia0 w = CLS I w) → (OTH w I Ia0) → (Ia0 70 2).toInt.toNat < n → Mem D A ad ns Ia0 La0 G H → va_S A s.heap H locs → lv_has ls 2 [(0, .ref (ad (70))), (1, .int (a0))] → W p l e ({ frames := 1, cells := 0, slots := 0, locals := 21 } : Room) s m args below meth c H locs 0 0 (MQ below (va_Qv (fun u => ∃ I2 L2, u = (ad, ns, I2, L2, G) ∧ INV I2 ∧ Kp [(200, 300)] [(70, 2), (70, 9)] I I2 ∧ (OTH w I I2 ∧ (POPX w I I2 a0.toInt))) (BM D A) A) args s 0 0 A) (F0 m 0 ls []) := by
    intro n
    induction n with
    | zero =>
      intro  Ia0 La0 H locs ls hI hK hpp hcl hoth hmu
      exact absurd hmu (Nat.not_lt_zero _)
    | succ n ih0 =>
      intro  Ia0 La0 H locs ls hI hK hpp hcl hoth hmu0 hM hS hl
      refine lv_aload_n hx hb dX4_popDownTo_0 rfl (lv_at hl 0 rfl) ?_
      refine m_geti (70) 2 hx hb hts hown hE oc4 hM (hG.1 70 (by decide)) rfl (by decide) rfl tb_320 dX4_popDownTo_1 ?_
      have g1 := hI.get (70) 2 (lo := 0) (hi := 64) rfl
      refine lv_if_le (tgt := 98) hx hb dX4_popDownTo_4 (by decide) (fun c2 => ?_) (fun c2 => ?_)
      · have hc2 := c2
        have q2 := q_le hc2
        exact m_vret hx hb hr hlocks hM hS (Nat.le_of_ble_eq_true rfl) (Nat.le_of_ble_eq_true rfl) ⟨_, _, rfl, hI, hK, ⟨hoth, ⟨hpp.symm.trans (popc_low (low_nil (STK_nil (by omega)))), hcl⟩⟩⟩ dX4_popDownTo_98
      · have hc2 := c2
        have q2 := q_nle hc2
        refine lv_aload_n hx hb dX4_popDownTo_7 rfl (lv_at hl 0 rfl) ?_
        refine m_getr (70) 1 (72) hx hb hts hown hE oc4 hM (hG.1 70 (by decide)) rfl (by decide) rfl (hG.2 (70, 1, 72) (by decide)) (by decide) tb_319 dX4_popDownTo_8 ?_
        refine lv_aload_n hx hb dX4_popDownTo_11 rfl (lv_at hl 0 rfl) ?_
        refine m_geti (70) 2 hx hb hts hown hE oc4 hM (hG.1 70 (by decide)) rfl (by decide) rfl tb_320 dX4_popDownTo_12 ?_
        refine lv_iconst (v := (1)) hx hb dX4_popDownTo_15 (by decide) ?_
        refine lv_isub hx hb dX4_popDownTo_16 ?_
        refine lv_topi (fun v3 ev3 => ?_)
        have tv3 := a_sub ev3 (by omega) (by omega)
        refine m_iald (72) hx hb hE hM (hG.1 72 (by decide)) rfl (vp_in_iff.mpr (by omega)) dX4_popDownTo_17 ?_
        refine lv_bipush (v := (-42)) hx hb dX4_popDownTo_18 (by decide) ?_
        refine lv_icmp_eq (tgt := 98) hx hb dX4_popDownTo_20 (by decide) (fun c4 => ?_) (fun c4 => ?_)
        · have hc4 := c4
          have q4 := q_eq hc4
          have z1 := tn (i := v3) (by omega)
          have z2 := tn (i := Ia0 70 2) (by omega)
          have htp := STK_top (I := Ia0) (by omega)
          rw [show (Ia0 70 2).toNatClampNeg - 1 = (v3).toNatClampNeg from by omega] at htp
          exact m_vret hx hb hr hlocks hM hS (Nat.le_of_ble_eq_true rfl) (Nat.le_of_ble_eq_true rfl) ⟨_, _, rfl, hI, hK, ⟨hoth, ⟨hpp.symm.trans (popc_low (low_top htp (Or.inl (by omega)))), hcl⟩⟩⟩ dX4_popDownTo_98
        · have hc4 := c4
          have q4 := q_ne hc4
          refine lv_aload_n hx hb dX4_popDownTo_23 rfl (lv_at hl 0 rfl) ?_
          refine m_getr (70) 1 (72) hx hb hts hown hE oc4 hM (hG.1 70 (by decide)) rfl (by decide) rfl (hG.2 (70, 1, 72) (by decide)) (by decide) tb_319 dX4_popDownTo_24 ?_
          refine lv_aload_n hx hb dX4_popDownTo_27 rfl (lv_at hl 0 rfl) ?_
          refine m_geti (70) 2 hx hb hts hown hE oc4 hM (hG.1 70 (by decide)) rfl (by decide) rfl tb_320 dX4_popDownTo_28 ?_
          refine lv_iconst (v := (1)) hx hb dX4_popDownTo_31 (by decide) ?_
          refine lv_isub hx hb dX4_popDownTo_32 ?_
          refine lv_topi (fun v5 ev5 => ?_)
          have tv5 := a_sub ev5 (by omega) (by omega)
          refine m_iald (72) hx hb hE hM (hG.1 72 (by decide)) rfl (vp_in_iff.mpr (by omega)) dX4_popDownTo_33 ?_
          refine m_calli (m_runS (As := [.int (Ia0 (72) (v5).toNatClampNeg)]) (rest := []) hx hb hml hown hts hE hM hS hA ce_X4_rankOf tb_713 (V_X4_rankOf_h l D A ad ns Ia0 La0 G (Ia0 (72) (v5).toNatClampNeg) hI) rfl rfl ⟨Nat.le_of_ble_eq_true rfl, Nat.le_of_ble_eq_true rfl⟩  rfl hl.1 rfl (Nat.le_of_ble_eq_true rfl) dX4_popDownTo_34 ⟨Nat.le_of_ble_eq_true rfl, Nat.le_of_ble_eq_true rfl⟩) hS (fun r6 u H locs hw hM hS => ?_)
          obtain ⟨rfl, xr6⟩ := hw
          have hM : Mem D A ad ns Ia0 La0 G H := hM
          refine lv_iload_n hx hb dX4_popDownTo_37 rfl (lv_at hl 1 rfl) ?_
          refine lv_icmp_lt (tgt := 98) hx hb dX4_popDownTo_38 (by decide) (fun c7 => ?_) (fun c7 => ?_)
          · have hc7 := c7
            have q7 := q_lt hc7
            have z1 := tn (i := v5) (by omega)
            have z2 := tn (i := Ia0 70 2) (by omega)
            have htp := STK_top (I := Ia0) (by omega)
            rw [show (Ia0 70 2).toNatClampNeg - 1 = (v5).toNatClampNeg from by omega] at htp
            exact m_vret hx hb hr hlocks hM hS (Nat.le_of_ble_eq_true rfl) (Nat.le_of_ble_eq_true rfl) ⟨_, _, rfl, hI, hK, ⟨hoth, ⟨hpp.symm.trans (popc_low (low_top htp (Or.inr (by rw [← xr6]; omega)))), hcl⟩⟩⟩ dX4_popDownTo_98
          · have hc7 := c7
            have q7 := q_nlt hc7
            refine lv_aload_n hx hb dX4_popDownTo_41 rfl (lv_at hl 0 rfl) ?_
            refine lv_dup hx hb dX4_popDownTo_42 rfl ?_
            refine m_geti (70) 2 hx hb hts hown hE oc4 hM (hG.1 70 (by decide)) rfl (by decide) rfl tb_320 dX4_popDownTo_43 ?_
            refine lv_iconst (v := (1)) hx hb dX4_popDownTo_46 (by decide) ?_
            refine lv_isub hx hb dX4_popDownTo_47 ?_
            refine lv_topi (fun v8 ev8 => ?_)
            have tv8 := a_sub ev8 (by omega) (by omega)
            refine m_puti (70) 2 hx hb hts hown hE oc4 hM hS (hG.1 70 (by decide)) rfl (by decide) rfl rfl rfl rfl tb_320 dX4_popDownTo_48 (fun H locs I9 eI9 hM hS => ?_)
            subst eI9
            have hI := hI.put (n := 70) (k := 2) (v := v8) (lo := 0) (hi := 64) rfl (by first | omega | decide)
            have hK := hK.put (n := 70) (k := 2) (v := v8) (by first | rfl | simp [inR])
            refine lv_aload_n hx hb dX4_popDownTo_51 rfl (lv_at hl 0 rfl) ?_
            refine lv_dup hx hb dX4_popDownTo_52 rfl ?_
            refine m_geti (70) 9 hx hb hts hown hE oc4 hM (hG.1 70 (by decide)) rfl (by decide) rfl tb_327 dX4_popDownTo_53 ?_
            have z10 : (u2 Ia0 (70) 2 (v8)) (70) 9 = Ia0 (70) 9 := (show (u2 Ia0 (70) 2 (v8)) (70) 9 = Ia0 (70) 9 from by simp [u2_v])
            rw [z10]
            refine lv_aload_n hx hb dX4_popDownTo_56 rfl (lv_at hl 0 rfl) ?_
            refine m_getr (70) 1 (72) hx hb hts hown hE oc4 hM (hG.1 70 (by decide)) rfl (by decide) rfl (hG.2 (70, 1, 72) (by decide)) (by decide) tb_319 dX4_popDownTo_57 ?_
            refine lv_aload_n hx hb dX4_popDownTo_60 rfl (lv_at hl 0 rfl) ?_
            refine m_geti (70) 2 hx hb hts hown hE oc4 hM (hG.1 70 (by decide)) rfl (by decide) rfl tb_320 dX4_popDownTo_61 ?_
            have g11 := hI.get (70) 2 (lo := 0) (hi := 64) rfl
            have z12 : (u2 Ia0 (70) 2 (v8)) (70) 2 = v8 := (show (u2 Ia0 (70) 2 (v8)) (70) 2 = v8 from by simp [u2_v])
            rw [z12] at g11 ⊢
            refine m_iald (72) hx hb hE hM (hG.1 72 (by decide)) rfl (vp_in_iff.mpr (by omega)) dX4_popDownTo_64 ?_
            have z13 : (u2 Ia0 (70) 2 (v8)) (72) (v8).toNatClampNeg = Ia0 (72) ((v8).toNatClampNeg) := (show (u2 Ia0 (70) 2 (v8)) (72) ((v8).toNatClampNeg) = Ia0 (72) ((v8).toNatClampNeg) from by simp [u2_v])
            rw [z13]
            refine lv_bipush (v := (-14)) hx hb dX4_popDownTo_65 (by decide) ?_
            refine lv_icmp_ne (tgt := 74) hx hb dX4_popDownTo_67 (by decide) (fun c14 => ?_) (fun c14 => ?_)
            · have hc14 := c14
              have q14 := q_ne hc14
              refine lv_iconst (v := (0)) hx hb dX4_popDownTo_74 (by decide) ?_
              refine lv_isub hx hb dX4_popDownTo_75 ?_
              refine lv_topi (fun v15 ev15 => ?_)
              refine m_puti (70) 9 hx hb hts hown hE oc4 hM hS (hG.1 70 (by decide)) rfl (by decide) rfl rfl rfl rfl tb_327 dX4_popDownTo_76 (fun H locs I16 eI16 hM hS => ?_)
              subst eI16
              have hI := hI.putF (n := 70) (k := 9) (v := v15) rfl
              have hK := hK.put (n := 70) (k := 9) (v := v15) (by first | rfl | simp [inR])
              refine lv_aload_n hx hb dX4_popDownTo_79 rfl (lv_at hl 0 rfl) ?_
              refine m_getr (70) 13 (w) hx hb hts hown hE oc4 hM (hG.1 70 (by decide)) rfl (by decide) rfl hd (by have := lbw hW.1; omega) tb_331 dX4_popDownTo_80 ?_
              refine lv_aload_n hx hb dX4_popDownTo_83 rfl (lv_at hl 0 rfl) ?_
              refine m_getr (70) 1 (72) hx hb hts hown hE oc4 hM (hG.1 70 (by decide)) rfl (by decide) rfl (hG.2 (70, 1, 72) (by decide)) (by decide) tb_319 dX4_popDownTo_84 ?_
              refine lv_aload_n hx hb dX4_popDownTo_87 rfl (lv_at hl 0 rfl) ?_
              refine m_geti (70) 2 hx hb hts hown hE oc4 hM (hG.1 70 (by decide)) rfl (by decide) rfl tb_320 dX4_popDownTo_88 ?_
              have z17 : (u2 (u2 Ia0 (70) 2 (v8)) (70) 9 (v15)) (70) 2 = v8 := (show (u2 (u2 Ia0 (70) 2 (v8)) (70) 9 (v15)) (70) 2 = v8 from by simp [u2_v])
              rw [z17]
              refine m_iald (72) hx hb hE hM (hG.1 72 (by decide)) rfl (vp_in_iff.mpr (by omega)) dX4_popDownTo_91 ?_
              have z18 : (u2 (u2 Ia0 (70) 2 (v8)) (70) 9 (v15)) (72) (v8).toNatClampNeg = Ia0 (72) ((v8).toNatClampNeg) := (show (u2 (u2 Ia0 (70) 2 (v8)) (70) 9 (v15)) (72) ((v8).toNatClampNeg) = Ia0 (72) ((v8).toNatClampNeg) from by simp [u2_v])
              rw [z18]
              refine m_callv (m_runV (w) (As := [.int (Ia0 (72) ((v8).toNatClampNeg))]) (rest := []) hx hb hml hown hts hE hM hS hA ce_X3_add tb_697 (V_X3_add_h l D A ad ns (u2 (u2 Ia0 (70) 2 (v8)) (70) 9 (v15)) La0 G (w) (Ia0 (72) ((v8).toNatClampNeg)) hG hI hW) rfl rfl ⟨Nat.le_of_ble_eq_true rfl, Nat.le_of_ble_eq_true rfl⟩ hW.l (kW _ hW.1).1 rfl (by decide) rfl hl.1 rfl (Nat.le_of_ble_eq_true rfl) dX4_popDownTo_92 ⟨Nat.le_of_ble_eq_true rfl, Nat.le_of_ble_eq_true rfl⟩) hS (fun u H locs hw hM hS => ?_)
              obtain ⟨I19, L20, rfl, hI, hkI19, xI19⟩ := hw
              have hM : Mem D A ad ns I19 L20 G H := hM
              have hK := hK.trans hkI19 rfl
              obtain ⟨ot21, xI19⟩ := xI19
              refine lv_goto (tgt := 0) hx hb dX4_popDownTo_95 (by decide) ?_
              have tr702 : (I19 (70) 2).toInt = (v8 : Int32).toInt := congrArg Int32.toInt (((hkI19.get (70) 2 rfl)).trans (show (u2 (u2 Ia0 (70) 2 (v8)) (70) 9 (v15)) (70) 2 = v8 from by simp [u2_v]))
              have fz22 : I19 (70) 2 = v8 := ((hkI19.get (70) 2 rfl)).trans (show (u2 (u2 Ia0 (70) 2 (v8)) (70) 9 (v15)) (70) 2 = v8 from by simp [u2_v])
              have fz22q := congrArg Int32.toInt fz22
              have fz23 : I19 (70) 9 = v15 := ((hkI19.get (70) 9 rfl)).trans (show (u2 (u2 Ia0 (70) 2 (v8)) (70) 9 (v15)) (70) 9 = v15 from by simp [u2_v])
              have fz23q := congrArg Int32.toInt fz23
              have e38 : v8 = v3 := ev8.trans ev3.symm
              have e58 : v8 = v5 := ev8.trans ev5.symm
              have hst := STK_pop (I := Ia0) (I2 := I19) (((hkI19.getA 72 rfl)).trans (show (u2 (u2 Ia0 (70) 2 (v8)) (70) 9 (v15)) 72 = Ia0 72 from by funext zz; simp [u2_v])) (by omega) (by omega)
              rw [fz22] at hst
              have h42 : (Ia0 72 (v8).toNatClampNeg).toInt ≠ -42 := by rw [e38]; omega
              have hrk : a0.toInt ≤ rk (Ia0 72 (v8).toNatClampNeg).toInt := by rw [e58, ← xr6]; omega
              exact ih0  I19 L20 _ _ ls hI hK (pop_step hpp hst h42 hrk (Or.inr ⟨by omega, fz23.trans (ev15.trans (i_sub0 _))⟩) (xI19.1.trans (by rw [((show LQ w Ia0 (u2 Ia0 (70) 2 (v8)) from LQ.put hW.1 (by decide)).trans (show LQ w (u2 Ia0 (70) 2 (v8)) (u2 (u2 Ia0 (70) 2 (v8)) (70) 9 (v15)) from LQ.put hW.1 (by decide))).1]))) ((xI19.2.trans ((show LQ w Ia0 (u2 Ia0 (70) 2 (v8)) from LQ.put hW.1 (by decide)).trans (show LQ w (u2 Ia0 (70) 2 (v8)) (u2 (u2 Ia0 (70) 2 (v8)) (70) 9 (v15)) from LQ.put hW.1 (by decide))).2).trans hcl) (((hoth.trans (show OTH w Ia0 (u2 Ia0 (70) 2 (v8)) from OTH.put (by omega))).trans (show OTH w (u2 Ia0 (70) 2 (v8)) (u2 (u2 Ia0 (70) 2 (v8)) (70) 9 (v15)) from OTH.put (by omega))).trans (show OTH w (u2 (u2 Ia0 (70) 2 (v8)) (70) 9 (v15)) I19 from ot21)) (by omega) hM hS (lv_sub hl [0, 1] rfl)
            · have hc14 := c14
              have q14 := q_eq hc14
              refine lv_iconst (v := (1)) hx hb dX4_popDownTo_70 (by decide) ?_
              refine lv_goto (tgt := 75) hx hb dX4_popDownTo_71 (by decide) ?_
              refine lv_isub hx hb dX4_popDownTo_75 ?_
              refine lv_topi (fun v24 ev24 => ?_)
              refine m_puti (70) 9 hx hb hts hown hE oc4 hM hS (hG.1 70 (by decide)) rfl (by decide) rfl rfl rfl rfl tb_327 dX4_popDownTo_76 (fun H locs I25 eI25 hM hS => ?_)
              subst eI25
              have hI := hI.putF (n := 70) (k := 9) (v := v24) rfl
              have hK := hK.put (n := 70) (k := 9) (v := v24) (by first | rfl | simp [inR])
              refine lv_aload_n hx hb dX4_popDownTo_79 rfl (lv_at hl 0 rfl) ?_
              refine m_getr (70) 13 (w) hx hb hts hown hE oc4 hM (hG.1 70 (by decide)) rfl (by decide) rfl hd (by have := lbw hW.1; omega) tb_331 dX4_popDownTo_80 ?_
              refine lv_aload_n hx hb dX4_popDownTo_83 rfl (lv_at hl 0 rfl) ?_
              refine m_getr (70) 1 (72) hx hb hts hown hE oc4 hM (hG.1 70 (by decide)) rfl (by decide) rfl (hG.2 (70, 1, 72) (by decide)) (by decide) tb_319 dX4_popDownTo_84 ?_
              refine lv_aload_n hx hb dX4_popDownTo_87 rfl (lv_at hl 0 rfl) ?_
              refine m_geti (70) 2 hx hb hts hown hE oc4 hM (hG.1 70 (by decide)) rfl (by decide) rfl tb_320 dX4_popDownTo_88 ?_
              have z26 : (u2 (u2 Ia0 (70) 2 (v8)) (70) 9 (v24)) (70) 2 = v8 := (show (u2 (u2 Ia0 (70) 2 (v8)) (70) 9 (v24)) (70) 2 = v8 from by simp [u2_v])
              rw [z26]
              refine m_iald (72) hx hb hE hM (hG.1 72 (by decide)) rfl (vp_in_iff.mpr (by omega)) dX4_popDownTo_91 ?_
              have z27 : (u2 (u2 Ia0 (70) 2 (v8)) (70) 9 (v24)) (72) (v8).toNatClampNeg = Ia0 (72) ((v8).toNatClampNeg) := (show (u2 (u2 Ia0 (70) 2 (v8)) (70) 9 (v24)) (72) ((v8).toNatClampNeg) = Ia0 (72) ((v8).toNatClampNeg) from by simp [u2_v])
              rw [z27]
              refine m_callv (m_runV (w) (As := [.int (Ia0 (72) ((v8).toNatClampNeg))]) (rest := []) hx hb hml hown hts hE hM hS hA ce_X3_add tb_697 (V_X3_add_h l D A ad ns (u2 (u2 Ia0 (70) 2 (v8)) (70) 9 (v24)) La0 G (w) (Ia0 (72) ((v8).toNatClampNeg)) hG hI hW) rfl rfl ⟨Nat.le_of_ble_eq_true rfl, Nat.le_of_ble_eq_true rfl⟩ hW.l (kW _ hW.1).1 rfl (by decide) rfl hl.1 rfl (Nat.le_of_ble_eq_true rfl) dX4_popDownTo_92 ⟨Nat.le_of_ble_eq_true rfl, Nat.le_of_ble_eq_true rfl⟩) hS (fun u H locs hw hM hS => ?_)
              obtain ⟨I28, L29, rfl, hI, hkI28, xI28⟩ := hw
              have hM : Mem D A ad ns I28 L29 G H := hM
              have hK := hK.trans hkI28 rfl
              obtain ⟨ot30, xI28⟩ := xI28
              refine lv_goto (tgt := 0) hx hb dX4_popDownTo_95 (by decide) ?_
              have tr702 : (I28 (70) 2).toInt = (v8 : Int32).toInt := congrArg Int32.toInt (((hkI28.get (70) 2 rfl)).trans (show (u2 (u2 Ia0 (70) 2 (v8)) (70) 9 (v24)) (70) 2 = v8 from by simp [u2_v]))
              have fz31 : I28 (70) 2 = v8 := ((hkI28.get (70) 2 rfl)).trans (show (u2 (u2 Ia0 (70) 2 (v8)) (70) 9 (v24)) (70) 2 = v8 from by simp [u2_v])
              have fz31q := congrArg Int32.toInt fz31
              have fz32 : I28 (70) 9 = v24 := ((hkI28.get (70) 9 rfl)).trans (show (u2 (u2 Ia0 (70) 2 (v8)) (70) 9 (v24)) (70) 9 = v24 from by simp [u2_v])
              have fz32q := congrArg Int32.toInt fz32
              have e38 : v8 = v3 := ev8.trans ev3.symm
              have e58 : v8 = v5 := ev8.trans ev5.symm
              have hst := STK_pop (I := Ia0) (I2 := I28) (((hkI28.getA 72 rfl)).trans (show (u2 (u2 Ia0 (70) 2 (v8)) (70) 9 (v24)) 72 = Ia0 72 from by funext zz; simp [u2_v])) (by omega) (by omega)
              rw [fz31] at hst
              have h42 : (Ia0 72 (v8).toNatClampNeg).toInt ≠ -42 := by rw [e38]; omega
              have hrk : a0.toInt ≤ rk (Ia0 72 (v8).toNatClampNeg).toInt := by rw [e58, ← xr6]; omega
              exact ih0  I28 L29 _ _ ls hI hK (pop_step hpp hst h42 hrk (Or.inl ⟨by omega, fz32.trans ev24⟩) (xI28.1.trans (by rw [((show LQ w Ia0 (u2 Ia0 (70) 2 (v8)) from LQ.put hW.1 (by decide)).trans (show LQ w (u2 Ia0 (70) 2 (v8)) (u2 (u2 Ia0 (70) 2 (v8)) (70) 9 (v24)) from LQ.put hW.1 (by decide))).1]))) ((xI28.2.trans ((show LQ w Ia0 (u2 Ia0 (70) 2 (v8)) from LQ.put hW.1 (by decide)).trans (show LQ w (u2 Ia0 (70) 2 (v8)) (u2 (u2 Ia0 (70) 2 (v8)) (70) 9 (v24)) from LQ.put hW.1 (by decide))).2).trans hcl) (((hoth.trans (show OTH w Ia0 (u2 Ia0 (70) 2 (v8)) from OTH.put (by omega))).trans (show OTH w (u2 Ia0 (70) 2 (v8)) (u2 (u2 Ia0 (70) 2 (v8)) (70) 9 (v24)) from OTH.put (by omega))).trans (show OTH w (u2 (u2 Ia0 (70) 2 (v8)) (70) 9 (v24)) I28 from ot30)) (by omega) hM hS (lv_sub hl [0, 1] rfl)
  exact loop0 (_ + 1)  I L _ _ ls hI hK rfl rfl OTH.rf (Nat.lt_succ_self _) hM hS (lv_sub hl [0, 1] rfl)
set_option maxHeartbeats 4000000 in
set_option maxRecDepth 20000 in
theorem V_X4_takeSign_h (l : Launch) (D : va_G) (A : Nat → Prop) (ad : Nat → Nat) (ns : List Nat) (I : MI) (L : ML) (G : MG) (w : Nat) (a0 : Int32) (a1 : Int32) (hG : SGC ns G) (hI : INV I) (hW : LOK ns G w) (hd : G 70 13 = w) (ha1 : 0 ≤ a1.toInt ∧ a1.toInt ≤ 5) : Met l yX4_takeSign (wd yX4_takeSign cX4_takeSign 3 none) ({ frames := 2, cells := 0, slots := 0, locals := 42 }) (va_Pc [.ref (ad (70)), .int a0, .int a1] (PM D A ad ns I L G)) (va_Qv (fun u => ∃ I2 L2, u = (ad, ns, I2, L2, G) ∧ INV I2 ∧ Kp [(72, 73), (200, 300)] [(70, 2), (70, 7), (70, 8), (70, 9)] I I2 ∧ (OTH w I I2 ∧ (TSX w I I2 a0 a1))) (BM D A) A) 0 0 A := by
  refine m_ofW (by decide) (Nat.le_of_ble_eq_true rfl) ?_
  intro p e s m below meth c ls args hC hE hM hA hS hl
  obtain ⟨hx, hb, hml, hown, hts, hr, hlocks, hin⟩ := hC
  have k0 : (0 : Int32).toInt = 0 := by decide
  have hK : Kp [(72, 73), (200, 300)] [(70, 2), (70, 7), (70, 8), (70, 9)] I I := Kp.rf
  have hl : lv_has ls 3 [(0, .ref (ad (70))), (1, .int (a0)), (2, .int (a1))] := hl
  refine lv_aload_n hx hb dX4_takeSign_0 rfl (lv_at hl 0 rfl) ?_
  refine lv_aload_n hx hb dX4_takeSign_1 rfl (lv_at hl 0 rfl) ?_
  refine m_geti (70) 5 hx hb hts hown hE oc4 hM (hG.1 70 (by decide)) rfl (by decide) rfl tb_323 dX4_takeSign_2 ?_
  refine m_calli (m_runS (As := [.int (I (70) 5)]) (rest := [.ref (ad (70))]) hx hb hml hown hts hE hM hS hA ce_X4_rankOf tb_713 (V_X4_rankOf_h l D A ad ns I L G (I (70) 5) hI) rfl rfl ⟨Nat.le_of_ble_eq_true rfl, Nat.le_of_ble_eq_true rfl⟩  rfl hl.1 rfl (Nat.le_of_ble_eq_true rfl) dX4_takeSign_5 ⟨Nat.le_of_ble_eq_true rfl, Nat.le_of_ble_eq_true rfl⟩) hS (fun r1 u H locs hw hM hS => ?_)
  obtain ⟨rfl, xr1⟩ := hw
  have hM : Mem D A ad ns I L G H := hM
  refine m_callv (m_runV (70) (As := [.int (r1)]) (rest := []) hx hb hml hown hts hE hM hS hA ce_X4_popDownTo tb_716 (V_X4_popDownTo_h l D A ad ns I L G (w) (r1) hG hI hW hd) rfl rfl ⟨Nat.le_of_ble_eq_true rfl, Nat.le_of_ble_eq_true rfl⟩ (hG.1 70 (by decide)) rfl rfl (by decide) rfl hl.1 rfl (Nat.le_of_ble_eq_true rfl) dX4_takeSign_8 ⟨Nat.le_of_ble_eq_true rfl, Nat.le_of_ble_eq_true rfl⟩) hS (fun u H locs hw hM hS => ?_)
  obtain ⟨I2, L3, rfl, hI, hkI2, xI2⟩ := hw
  have hM : Mem D A ad ns I2 L3 G H := hM
  have hK := hK.trans hkI2 rfl
  obtain ⟨ot4, xI2⟩ := xI2
  refine lv_aload_n hx hb dX4_takeSign_11 rfl (lv_at hl 0 rfl) ?_
  refine lv_aload_n hx hb dX4_takeSign_12 rfl (lv_at hl 0 rfl) ?_
  refine m_geti (70) 5 hx hb hts hown hE oc4 hM (hG.1 70 (by decide)) rfl (by decide) rfl tb_323 dX4_takeSign_13 ?_
  have z5 : I2 (70) 5 = I (70) 5 := (hkI2.get (70) 5 rfl)
  rw [z5]
  refine m_callv (m_runV (70) (As := [.int (I (70) 5)]) (rest := []) hx hb hml hown hts hE hM hS hA ce_X4_push tb_701 (V_X4_push_h l D A ad ns I2 L3 G (I (70) 5) hG hI) rfl rfl ⟨Nat.le_of_ble_eq_true rfl, Nat.le_of_ble_eq_true rfl⟩ (hG.1 70 (by decide)) rfl rfl (by decide) rfl hl.1 rfl (Nat.le_of_ble_eq_true rfl) dX4_takeSign_16 ⟨Nat.le_of_ble_eq_true rfl, Nat.le_of_ble_eq_true rfl⟩) hS (fun u H locs hw hM hS => ?_)
  obtain ⟨I6, L7, rfl, hI, hkI6, xI6⟩ := hw
  have hM : Mem D A ad ns I6 L7 G H := hM
  have hK := hK.trans hkI6 rfl
  refine lv_aload_n hx hb dX4_takeSign_19 rfl (lv_at hl 0 rfl) ?_
  refine lv_iload_n hx hb dX4_takeSign_20 rfl (lv_at hl 1 rfl) ?_
  refine m_puti (70) 8 hx hb hts hown hE oc4 hM hS (hG.1 70 (by decide)) rfl (by decide) rfl rfl rfl rfl tb_326 dX4_takeSign_21 (fun H locs I8 eI8 hM hS => ?_)
  subst eI8
  have hI := hI.putF (n := 70) (k := 8) (v := a0) rfl
  have hK := hK.put (n := 70) (k := 8) (v := a0) (by first | rfl | simp [inR])
  refine lv_aload_n hx hb dX4_takeSign_24 rfl (lv_at hl 0 rfl) ?_
  refine lv_iload_n hx hb dX4_takeSign_25 rfl (lv_at hl 2 rfl) ?_
  refine m_puti (70) 7 hx hb hts hown hE oc4 hM hS (hG.1 70 (by decide)) rfl (by decide) rfl rfl rfl rfl tb_325 dX4_takeSign_26 (fun H locs I9 eI9 hM hS => ?_)
  subst eI9
  have hI := hI.put (n := 70) (k := 7) (v := a1) (lo := 0) (hi := 5) rfl (by first | omega | decide)
  have hK := hK.put (n := 70) (k := 7) (v := a1) (by first | rfl | simp [inR])
  have hpz : popc (rk (I 70 5).toInt) (STK I) (I 70 9) (COD I w) = (STK I2, I2 70 9, COD I2 w) := by
    rw [← xr1]; exact xI2.1
  exact m_vret hx hb hr hlocks hM hS (Nat.le_of_ble_eq_true rfl) (Nat.le_of_ble_eq_true rfl) ⟨_, _, rfl, hI, hK, ⟨((((show OTH w I I2 from ot4).trans (show OTH w I2 I6 from OTH.kp hkI6 rfl rfl)).trans (show OTH w I6 (u2 I6 (70) 8 (a0)) from OTH.put (by omega))).trans (show OTH w (u2 I6 (70) 8 (a0)) (u2 (u2 I6 (70) 8 (a0)) (70) 7 (a1)) from OTH.put (by omega))), ⟨by rw [hpz]; exact (STK_of (I := I6) (by funext zz; simp [u2_v]) (by simp [u2_v])).trans xI6, by rw [hpz]; exact ((show (u2 (u2 I6 (70) 8 (a0)) (70) 7 (a1)) (70) 9 = I6 (70) 9 from by simp [u2_v])).trans (hkI6.get (70) 9 rfl), by rw [hpz]; exact (((show LQ w I2 I6 from LQ.kp hW.1 hkI6 rfl rfl).trans (show LQ w I6 (u2 I6 (70) 8 (a0)) from LQ.put hW.1 (by decide))).trans (show LQ w (u2 I6 (70) 8 (a0)) (u2 (u2 I6 (70) 8 (a0)) (70) 7 (a1)) from LQ.put hW.1 (by decide))).1, (((show LQ w I2 I6 from LQ.kp hW.1 hkI6 rfl rfl).trans (show LQ w I6 (u2 I6 (70) 8 (a0)) from LQ.put hW.1 (by decide))).trans (show LQ w (u2 I6 (70) 8 (a0)) (u2 (u2 I6 (70) 8 (a0)) (70) 7 (a1)) from LQ.put hW.1 (by decide))).2.trans xI2.2, congrArg Int32.toInt ((show (u2 (u2 I6 (70) 8 (a0)) (70) 7 (a1)) (70) 8 = a0 from by simp [u2_v])), congrArg Int32.toInt ((show (u2 (u2 I6 (70) 8 (a0)) (70) 7 (a1)) (70) 7 = a1 from by simp [u2_v]))⟩⟩⟩ dX4_takeSign_29
set_option maxHeartbeats 4000000 in
set_option maxRecDepth 20000 in
theorem V_X4_closeBracket_h (l : Launch) (D : va_G) (A : Nat → Prop) (ad : Nat → Nat) (ns : List Nat) (I : MI) (L : ML) (G : MG) (w : Nat) (hG : SGC ns G) (hI : INV I) (hW : LOK ns G w) (hd : G 70 13 = w) : Met l yX4_closeBracket (wd yX4_closeBracket cX4_closeBracket 1 none) ({ frames := 2, cells := 0, slots := 0, locals := 42 }) (va_Pc [.ref (ad (70))] (PM D A ad ns I L G)) (va_Qv (fun u => ∃ I2 L2, u = (ad, ns, I2, L2, G) ∧ INV I2 ∧ Kp [(200, 300)] [(70, 2), (70, 8), (70, 9), (70, 10)] I I2 ∧ (OTH w I I2 ∧ (CBX w I I2))) (BM D A) A) 0 0 A := by
  refine m_ofW (by decide) (Nat.le_of_ble_eq_true rfl) ?_
  intro p e s m below meth c ls args hC hE hM hA hS hl
  obtain ⟨hx, hb, hml, hown, hts, hr, hlocks, hin⟩ := hC
  have km25 : (-25 : Int32).toInt = -25 := by decide
  have k0 : (0 : Int32).toInt = 0 := by decide
  have k1 : (1 : Int32).toInt = 1 := by decide
  have k3 : (3 : Int32).toInt = 3 := by decide
  have hK : Kp [(200, 300)] [(70, 2), (70, 8), (70, 9), (70, 10)] I I := Kp.rf
  have hl : lv_has ls 1 [(0, .ref (ad (70)))] := hl
  refine lv_aload_n hx hb dX4_closeBracket_0 rfl (lv_at hl 0 rfl) ?_
  refine lv_bipush (v := (-25)) hx hb dX4_closeBracket_1 (by decide) ?_
  refine m_calli (m_runS (As := [.int ((-25 : Int32))]) (rest := [.ref (ad (70))]) hx hb hml hown hts hE hM hS hA ce_X4_rankOf tb_713 (V_X4_rankOf_h l D A ad ns I L G ((-25 : Int32)) hI) rfl rfl ⟨Nat.le_of_ble_eq_true rfl, Nat.le_of_ble_eq_true rfl⟩  rfl hl.1 rfl (Nat.le_of_ble_eq_true rfl) dX4_closeBracket_3 ⟨Nat.le_of_ble_eq_true rfl, Nat.le_of_ble_eq_true rfl⟩) hS (fun r1 u H locs hw hM hS => ?_)
  obtain ⟨rfl, xr1⟩ := hw
  have hM : Mem D A ad ns I L G H := hM
  refine m_callv (m_runV (70) (As := [.int (r1)]) (rest := []) hx hb hml hown hts hE hM hS hA ce_X4_popDownTo tb_716 (V_X4_popDownTo_h l D A ad ns I L G (w) (r1) hG hI hW hd) rfl rfl ⟨Nat.le_of_ble_eq_true rfl, Nat.le_of_ble_eq_true rfl⟩ (hG.1 70 (by decide)) rfl rfl (by decide) rfl hl.1 rfl (Nat.le_of_ble_eq_true rfl) dX4_closeBracket_6 ⟨Nat.le_of_ble_eq_true rfl, Nat.le_of_ble_eq_true rfl⟩) hS (fun u H locs hw hM hS => ?_)
  obtain ⟨I2, L3, rfl, hI, hkI2, xI2⟩ := hw
  have hM : Mem D A ad ns I2 L3 G H := hM
  have hK := hK.trans hkI2 rfl
  obtain ⟨ot4, xI2⟩ := xI2
  refine lv_aload_n hx hb dX4_closeBracket_9 rfl (lv_at hl 0 rfl) ?_
  refine m_geti (70) 2 hx hb hts hown hE oc4 hM (hG.1 70 (by decide)) rfl (by decide) rfl tb_320 dX4_closeBracket_10 ?_
  have g5 := hI.get (70) 2 (lo := 0) (hi := 64) rfl
  refine lv_if_le (tgt := 26) hx hb dX4_closeBracket_13 (by decide) (fun c6 => ?_) (fun c6 => ?_)
  · have hc6 := c6
    have q6 := q_le hc6
    refine lv_aload_n hx hb dX4_closeBracket_26 rfl (lv_at hl 0 rfl) ?_
    refine lv_dup hx hb dX4_closeBracket_27 rfl ?_
    refine m_geti (70) 9 hx hb hts hown hE oc4 hM (hG.1 70 (by decide)) rfl (by decide) rfl tb_327 dX4_closeBracket_28 ?_
    refine lv_iconst (v := (1)) hx hb dX4_closeBracket_31 (by decide) ?_
    refine lv_isub hx hb dX4_closeBracket_32 ?_
    refine lv_topi (fun v7 ev7 => ?_)
    refine m_puti (70) 9 hx hb hts hown hE oc4 hM hS (hG.1 70 (by decide)) rfl (by decide) rfl rfl rfl rfl tb_327 dX4_closeBracket_33 (fun H locs I8 eI8 hM hS => ?_)
    subst eI8
    have hI := hI.putF (n := 70) (k := 9) (v := v7) rfl
    have hK := hK.put (n := 70) (k := 9) (v := v7) (by first | rfl | simp [inR])
    refine lv_aload_n hx hb dX4_closeBracket_36 rfl (lv_at hl 0 rfl) ?_
    refine lv_dup hx hb dX4_closeBracket_37 rfl ?_
    refine m_geti (70) 10 hx hb hts hown hE oc4 hM (hG.1 70 (by decide)) rfl (by decide) rfl tb_328 dX4_closeBracket_38 ?_
    have z9 : (u2 I2 (70) 9 (v7)) (70) 10 = I (70) 10 := ((show (u2 I2 (70) 9 (v7)) (70) 10 = I2 (70) 10 from by simp [u2_v])).trans (hkI2.get (70) 10 rfl)
    rw [z9]
    refine lv_iconst (v := (1)) hx hb dX4_closeBracket_41 (by decide) ?_
    refine lv_isub hx hb dX4_closeBracket_42 ?_
    refine lv_topi (fun v10 ev10 => ?_)
    refine m_puti (70) 10 hx hb hts hown hE oc4 hM hS (hG.1 70 (by decide)) rfl (by decide) rfl rfl rfl rfl tb_328 dX4_closeBracket_43 (fun H locs I11 eI11 hM hS => ?_)
    subst eI11
    have hI := hI.putF (n := 70) (k := 10) (v := v10) rfl
    have hK := hK.put (n := 70) (k := 10) (v := v10) (by first | rfl | simp [inR])
    refine lv_aload_n hx hb dX4_closeBracket_46 rfl (lv_at hl 0 rfl) ?_
    refine lv_iconst (v := (3)) hx hb dX4_closeBracket_47 (by decide) ?_
    refine m_puti (70) 8 hx hb hts hown hE oc4 hM hS (hG.1 70 (by decide)) rfl (by decide) rfl rfl rfl rfl tb_326 dX4_closeBracket_48 (fun H locs I12 eI12 hM hS => ?_)
    subst eI12
    have hI := hI.putF (n := 70) (k := 8) (v := 3) rfl
    have hK := hK.put (n := 70) (k := 8) (v := 3) (by first | rfl | simp [inR])
    have hpz : popc (1) (STK I) (I 70 9) (COD I w) = (STK I2, I2 70 9, COD I2 w) := by
      rw [show (1 : Int) = (r1).toInt from by rw [xr1, km25]; decide]; exact xI2.1
    have fz13 : (u2 (u2 (u2 I2 (70) 9 (v7)) (70) 10 (v10)) (70) 8 (3)) (70) 2 = I2 (70) 2 := (show (u2 (u2 (u2 I2 (70) 9 (v7)) (70) 10 (v10)) (70) 8 (3)) (70) 2 = I2 (70) 2 from by simp [u2_v])
    have fz13q := congrArg Int32.toInt fz13
    have fz14 : (u2 (u2 (u2 I2 (70) 9 (v7)) (70) 10 (v10)) (70) 8 (3)) (70) 8 = 3 := (show (u2 (u2 (u2 I2 (70) 9 (v7)) (70) 10 (v10)) (70) 8 (3)) (70) 8 = 3 from by simp [u2_v])
    have fz14q := congrArg Int32.toInt fz14
    have fz15 : (u2 (u2 (u2 I2 (70) 9 (v7)) (70) 10 (v10)) (70) 8 (3)) (70) 9 = v7 := (show (u2 (u2 (u2 I2 (70) 9 (v7)) (70) 10 (v10)) (70) 8 (3)) (70) 9 = v7 from by simp [u2_v])
    have fz15q := congrArg Int32.toInt fz15
    have fz16 : (u2 (u2 (u2 I2 (70) 9 (v7)) (70) 10 (v10)) (70) 8 (3)) (70) 10 = v10 := (show (u2 (u2 (u2 I2 (70) 9 (v7)) (70) 10 (v10)) (70) 8 (3)) (70) 10 = v10 from by simp [u2_v])
    have fz16q := congrArg Int32.toInt fz16
    have hst := STK_nil (I := I2) (by omega)
    have hst2 := STK_nil (I := (u2 (u2 (u2 I2 (70) 9 (v7)) (70) 10 (v10)) (70) 8 (3))) (by omega)
    exact m_vret hx hb hr hlocks hM hS (Nat.le_of_ble_eq_true rfl) (Nat.le_of_ble_eq_true rfl) ⟨_, _, rfl, hI, hK, ⟨((((show OTH w I I2 from ot4).trans (show OTH w I2 (u2 I2 (70) 9 (v7)) from OTH.put (by omega))).trans (show OTH w (u2 I2 (70) 9 (v7)) (u2 (u2 I2 (70) 9 (v7)) (70) 10 (v10)) from OTH.put (by omega))).trans (show OTH w (u2 (u2 I2 (70) 9 (v7)) (70) 10 (v10)) (u2 (u2 (u2 I2 (70) 9 (v7)) (70) 10 (v10)) (70) 8 (3)) from OTH.put (by omega))), ⟨by rw [hpz, hst, hst2]; rfl, by rw [hpz]; exact fz15.trans ev7, by rw [hpz]; exact (((show LQ w I2 (u2 I2 (70) 9 (v7)) from LQ.put hW.1 (by decide)).trans (show LQ w (u2 I2 (70) 9 (v7)) (u2 (u2 I2 (70) 9 (v7)) (70) 10 (v10)) from LQ.put hW.1 (by decide))).trans (show LQ w (u2 (u2 I2 (70) 9 (v7)) (70) 10 (v10)) (u2 (u2 (u2 I2 (70) 9 (v7)) (70) 10 (v10)) (70) 8 (3)) from LQ.put hW.1 (by decide))).1, (((show LQ w I2 (u2 I2 (70) 9 (v7)) from LQ.put hW.1 (by decide)).trans (show LQ w (u2 I2 (70) 9 (v7)) (u2 (u2 I2 (70) 9 (v7)) (70) 10 (v10)) from LQ.put hW.1 (by decide))).trans (show LQ w (u2 (u2 I2 (70) 9 (v7)) (70) 10 (v10)) (u2 (u2 (u2 I2 (70) 9 (v7)) (70) 10 (v10)) (70) 8 (3)) from LQ.put hW.1 (by decide))).2.trans xI2.2, by rw [fz14]; exact k3, fz16.trans ev10⟩⟩⟩ dX4_closeBracket_51
  · have hc6 := c6
    have q6 := q_nle hc6
    refine lv_aload_n hx hb dX4_closeBracket_16 rfl (lv_at hl 0 rfl) ?_
    refine lv_dup hx hb dX4_closeBracket_17 rfl ?_
    refine m_geti (70) 2 hx hb hts hown hE oc4 hM (hG.1 70 (by decide)) rfl (by decide) rfl tb_320 dX4_closeBracket_18 ?_
    refine lv_iconst (v := (1)) hx hb dX4_closeBracket_21 (by decide) ?_
    refine lv_isub hx hb dX4_closeBracket_22 ?_
    refine lv_topi (fun v17 ev17 => ?_)
    have tv17 := a_sub ev17 (by omega) (by omega)
    refine m_puti (70) 2 hx hb hts hown hE oc4 hM hS (hG.1 70 (by decide)) rfl (by decide) rfl rfl rfl rfl tb_320 dX4_closeBracket_23 (fun H locs I18 eI18 hM hS => ?_)
    subst eI18
    have hI := hI.put (n := 70) (k := 2) (v := v17) (lo := 0) (hi := 64) rfl (by first | omega | decide)
    have hK := hK.put (n := 70) (k := 2) (v := v17) (by first | rfl | simp [inR])
    refine lv_aload_n hx hb dX4_closeBracket_26 rfl (lv_at hl 0 rfl) ?_
    refine lv_dup hx hb dX4_closeBracket_27 rfl ?_
    refine m_geti (70) 9 hx hb hts hown hE oc4 hM (hG.1 70 (by decide)) rfl (by decide) rfl tb_327 dX4_closeBracket_28 ?_
    have z19 : (u2 I2 (70) 2 (v17)) (70) 9 = I2 (70) 9 := (show (u2 I2 (70) 2 (v17)) (70) 9 = I2 (70) 9 from by simp [u2_v])
    rw [z19]
    refine lv_iconst (v := (1)) hx hb dX4_closeBracket_31 (by decide) ?_
    refine lv_isub hx hb dX4_closeBracket_32 ?_
    refine lv_topi (fun v20 ev20 => ?_)
    refine m_puti (70) 9 hx hb hts hown hE oc4 hM hS (hG.1 70 (by decide)) rfl (by decide) rfl rfl rfl rfl tb_327 dX4_closeBracket_33 (fun H locs I21 eI21 hM hS => ?_)
    subst eI21
    have hI := hI.putF (n := 70) (k := 9) (v := v20) rfl
    have hK := hK.put (n := 70) (k := 9) (v := v20) (by first | rfl | simp [inR])
    refine lv_aload_n hx hb dX4_closeBracket_36 rfl (lv_at hl 0 rfl) ?_
    refine lv_dup hx hb dX4_closeBracket_37 rfl ?_
    refine m_geti (70) 10 hx hb hts hown hE oc4 hM (hG.1 70 (by decide)) rfl (by decide) rfl tb_328 dX4_closeBracket_38 ?_
    have z22 : (u2 (u2 I2 (70) 2 (v17)) (70) 9 (v20)) (70) 10 = I (70) 10 := ((show (u2 (u2 I2 (70) 2 (v17)) (70) 9 (v20)) (70) 10 = I2 (70) 10 from by simp [u2_v])).trans (hkI2.get (70) 10 rfl)
    rw [z22]
    refine lv_iconst (v := (1)) hx hb dX4_closeBracket_41 (by decide) ?_
    refine lv_isub hx hb dX4_closeBracket_42 ?_
    refine lv_topi (fun v23 ev23 => ?_)
    refine m_puti (70) 10 hx hb hts hown hE oc4 hM hS (hG.1 70 (by decide)) rfl (by decide) rfl rfl rfl rfl tb_328 dX4_closeBracket_43 (fun H locs I24 eI24 hM hS => ?_)
    subst eI24
    have hI := hI.putF (n := 70) (k := 10) (v := v23) rfl
    have hK := hK.put (n := 70) (k := 10) (v := v23) (by first | rfl | simp [inR])
    refine lv_aload_n hx hb dX4_closeBracket_46 rfl (lv_at hl 0 rfl) ?_
    refine lv_iconst (v := (3)) hx hb dX4_closeBracket_47 (by decide) ?_
    refine m_puti (70) 8 hx hb hts hown hE oc4 hM hS (hG.1 70 (by decide)) rfl (by decide) rfl rfl rfl rfl tb_326 dX4_closeBracket_48 (fun H locs I25 eI25 hM hS => ?_)
    subst eI25
    have hI := hI.putF (n := 70) (k := 8) (v := 3) rfl
    have hK := hK.put (n := 70) (k := 8) (v := 3) (by first | rfl | simp [inR])
    have hpz : popc (1) (STK I) (I 70 9) (COD I w) = (STK I2, I2 70 9, COD I2 w) := by
      rw [show (1 : Int) = (r1).toInt from by rw [xr1, km25]; decide]; exact xI2.1
    have fz26 : (u2 (u2 (u2 (u2 I2 (70) 2 (v17)) (70) 9 (v20)) (70) 10 (v23)) (70) 8 (3)) (70) 2 = v17 := (show (u2 (u2 (u2 (u2 I2 (70) 2 (v17)) (70) 9 (v20)) (70) 10 (v23)) (70) 8 (3)) (70) 2 = v17 from by simp [u2_v])
    have fz26q := congrArg Int32.toInt fz26
    have fz27 : (u2 (u2 (u2 (u2 I2 (70) 2 (v17)) (70) 9 (v20)) (70) 10 (v23)) (70) 8 (3)) (70) 8 = 3 := (show (u2 (u2 (u2 (u2 I2 (70) 2 (v17)) (70) 9 (v20)) (70) 10 (v23)) (70) 8 (3)) (70) 8 = 3 from by simp [u2_v])
    have fz27q := congrArg Int32.toInt fz27
    have fz28 : (u2 (u2 (u2 (u2 I2 (70) 2 (v17)) (70) 9 (v20)) (70) 10 (v23)) (70) 8 (3)) (70) 9 = v20 := (show (u2 (u2 (u2 (u2 I2 (70) 2 (v17)) (70) 9 (v20)) (70) 10 (v23)) (70) 8 (3)) (70) 9 = v20 from by simp [u2_v])
    have fz28q := congrArg Int32.toInt fz28
    have fz29 : (u2 (u2 (u2 (u2 I2 (70) 2 (v17)) (70) 9 (v20)) (70) 10 (v23)) (70) 8 (3)) (70) 10 = v23 := (show (u2 (u2 (u2 (u2 I2 (70) 2 (v17)) (70) 9 (v20)) (70) 10 (v23)) (70) 8 (3)) (70) 10 = v23 from by simp [u2_v])
    have fz29q := congrArg Int32.toInt fz29
    have hst := STK_pop (I := I2) (I2 := (u2 (u2 (u2 (u2 I2 (70) 2 (v17)) (70) 9 (v20)) (70) 10 (v23)) (70) 8 (3))) ((show (u2 (u2 (u2 (u2 I2 (70) 2 (v17)) (70) 9 (v20)) (70) 10 (v23)) (70) 8 (3)) 72 = I2 72 from by funext zz; simp [u2_v])) (by omega) (by omega)
    exact m_vret hx hb hr hlocks hM hS (Nat.le_of_ble_eq_true rfl) (Nat.le_of_ble_eq_true rfl) ⟨_, _, rfl, hI, hK, ⟨(((((show OTH w I I2 from ot4).trans (show OTH w I2 (u2 I2 (70) 2 (v17)) from OTH.put (by omega))).trans (show OTH w (u2 I2 (70) 2 (v17)) (u2 (u2 I2 (70) 2 (v17)) (70) 9 (v20)) from OTH.put (by omega))).trans (show OTH w (u2 (u2 I2 (70) 2 (v17)) (70) 9 (v20)) (u2 (u2 (u2 I2 (70) 2 (v17)) (70) 9 (v20)) (70) 10 (v23)) from OTH.put (by omega))).trans (show OTH w (u2 (u2 (u2 I2 (70) 2 (v17)) (70) 9 (v20)) (70) 10 (v23)) (u2 (u2 (u2 (u2 I2 (70) 2 (v17)) (70) 9 (v20)) (70) 10 (v23)) (70) 8 (3)) from OTH.put (by omega))), ⟨by rw [hpz, hst]; rfl, by rw [hpz]; exact fz28.trans ev20, by rw [hpz]; exact ((((show LQ w I2 (u2 I2 (70) 2 (v17)) from LQ.put hW.1 (by decide)).trans (show LQ w (u2 I2 (70) 2 (v17)) (u2 (u2 I2 (70) 2 (v17)) (70) 9 (v20)) from LQ.put hW.1 (by decide))).trans (show LQ w (u2 (u2 I2 (70) 2 (v17)) (70) 9 (v20)) (u2 (u2 (u2 I2 (70) 2 (v17)) (70) 9 (v20)) (70) 10 (v23)) from LQ.put hW.1 (by decide))).trans (show LQ w (u2 (u2 (u2 I2 (70) 2 (v17)) (70) 9 (v20)) (70) 10 (v23)) (u2 (u2 (u2 (u2 I2 (70) 2 (v17)) (70) 9 (v20)) (70) 10 (v23)) (70) 8 (3)) from LQ.put hW.1 (by decide))).1, ((((show LQ w I2 (u2 I2 (70) 2 (v17)) from LQ.put hW.1 (by decide)).trans (show LQ w (u2 I2 (70) 2 (v17)) (u2 (u2 I2 (70) 2 (v17)) (70) 9 (v20)) from LQ.put hW.1 (by decide))).trans (show LQ w (u2 (u2 I2 (70) 2 (v17)) (70) 9 (v20)) (u2 (u2 (u2 I2 (70) 2 (v17)) (70) 9 (v20)) (70) 10 (v23)) from LQ.put hW.1 (by decide))).trans (show LQ w (u2 (u2 (u2 I2 (70) 2 (v17)) (70) 9 (v20)) (70) 10 (v23)) (u2 (u2 (u2 (u2 I2 (70) 2 (v17)) (70) 9 (v20)) (70) 10 (v23)) (70) 8 (3)) from LQ.put hW.1 (by decide))).2.trans xI2.2, by rw [fz27]; exact k3, fz29.trans ev23⟩⟩⟩ dX4_closeBracket_51
set_option maxHeartbeats 4000000 in
set_option maxRecDepth 20000 in
theorem V_X4_takeClauseEnd_h (l : Launch) (D : va_G) (A : Nat → Prop) (ad : Nat → Nat) (ns : List Nat) (I : MI) (L : ML) (G : MG) (w : Nat) (hG : SGC ns G) (hI : INV I) (hW : LOK ns G w) (hd : G 70 13 = w) : Met l yX4_takeClauseEnd (wd yX4_takeClauseEnd cX4_takeClauseEnd 1 none) ({ frames := 2, cells := 0, slots := 0, locals := 42 }) (va_Pc [.ref (ad (70))] (PM D A ad ns I L G)) (va_Qv (fun u => ∃ I2 L2, u = (ad, ns, I2, L2, G) ∧ INV I2 ∧ Kp [(200, 300)] [(70, 2), (70, 7), (70, 9)] I I2 ∧ (OTH w I I2 ∧ (CEX w I I2))) (BM D A) A) 0 0 A := by
  refine m_ofW (by decide) (Nat.le_of_ble_eq_true rfl) ?_
  intro p e s m below meth c ls args hC hE hM hA hS hl
  obtain ⟨hx, hb, hml, hown, hts, hr, hlocks, hin⟩ := hC
  have km44 : (-44 : Int32).toInt = -44 := by decide
  have km25 : (-25 : Int32).toInt = -25 := by decide
  have k0 : (0 : Int32).toInt = 0 := by decide
  have k5 : (5 : Int32).toInt = 5 := by decide
  have hK : Kp [(200, 300)] [(70, 2), (70, 7), (70, 9)] I I := Kp.rf
  have hl : lv_has ls 1 [(0, .ref (ad (70)))] := hl
  refine lv_aload_n hx hb dX4_takeClauseEnd_0 rfl (lv_at hl 0 rfl) ?_
  refine lv_bipush (v := (-25)) hx hb dX4_takeClauseEnd_1 (by decide) ?_
  refine m_calli (m_runS (As := [.int ((-25 : Int32))]) (rest := [.ref (ad (70))]) hx hb hml hown hts hE hM hS hA ce_X4_rankOf tb_713 (V_X4_rankOf_h l D A ad ns I L G ((-25 : Int32)) hI) rfl rfl ⟨Nat.le_of_ble_eq_true rfl, Nat.le_of_ble_eq_true rfl⟩  rfl hl.1 rfl (Nat.le_of_ble_eq_true rfl) dX4_takeClauseEnd_3 ⟨Nat.le_of_ble_eq_true rfl, Nat.le_of_ble_eq_true rfl⟩) hS (fun r1 u H locs hw hM hS => ?_)
  obtain ⟨rfl, xr1⟩ := hw
  have hM : Mem D A ad ns I L G H := hM
  refine m_callv (m_runV (70) (As := [.int (r1)]) (rest := []) hx hb hml hown hts hE hM hS hA ce_X4_popDownTo tb_716 (V_X4_popDownTo_h l D A ad ns I L G (w) (r1) hG hI hW hd) rfl rfl ⟨Nat.le_of_ble_eq_true rfl, Nat.le_of_ble_eq_true rfl⟩ (hG.1 70 (by decide)) rfl rfl (by decide) rfl hl.1 rfl (Nat.le_of_ble_eq_true rfl) dX4_takeClauseEnd_6 ⟨Nat.le_of_ble_eq_true rfl, Nat.le_of_ble_eq_true rfl⟩) hS (fun u H locs hw hM hS => ?_)
  obtain ⟨I2, L3, rfl, hI, hkI2, xI2⟩ := hw
  have hM : Mem D A ad ns I2 L3 G H := hM
  have hK := hK.trans hkI2 rfl
  obtain ⟨ot4, xI2⟩ := xI2
  refine lv_aload_n hx hb dX4_takeClauseEnd_9 rfl (lv_at hl 0 rfl) ?_
  refine m_geti (70) 8 hx hb hts hown hE oc4 hM (hG.1 70 (by decide)) rfl (by decide) rfl tb_326 dX4_takeClauseEnd_10 ?_
  have z5 : I2 (70) 8 = I (70) 8 := (hkI2.get (70) 8 rfl)
  rw [z5]
  refine lv_if_ne (tgt := 23) hx hb dX4_takeClauseEnd_13 (by decide) (fun c6 => ?_) (fun c6 => ?_)
  · have hc6 := c6
    have q6 := q_ne hc6
    refine lv_aload_n hx hb dX4_takeClauseEnd_23 rfl (lv_at hl 0 rfl) ?_
    refine m_getr (70) 13 (w) hx hb hts hown hE oc4 hM (hG.1 70 (by decide)) rfl (by decide) rfl hd (by have := lbw hW.1; omega) tb_331 dX4_takeClauseEnd_24 ?_
    refine m_callv (m_runV (w) (As := []) (rest := []) hx hb hml hown hts hE hM hS hA ce_X3_endClause tb_732 (V_X3_endClause_h l D A ad ns I2 L3 G (w) hG hI hW) rfl rfl ⟨Nat.le_of_ble_eq_true rfl, Nat.le_of_ble_eq_true rfl⟩ hW.l (kW _ hW.1).1 rfl (by decide) rfl hl.1 rfl (Nat.le_of_ble_eq_true rfl) dX4_takeClauseEnd_27 ⟨Nat.le_of_ble_eq_true rfl, Nat.le_of_ble_eq_true rfl⟩) hS (fun u H locs hw hM hS => ?_)
    obtain ⟨I7, L8, rfl, hI, hkI7, xI7⟩ := hw
    have hM : Mem D A ad ns I7 L8 G H := hM
    have hK := hK.trans hkI7 rfl
    obtain ⟨ot9, xI7⟩ := xI7
    refine lv_aload_n hx hb dX4_takeClauseEnd_30 rfl (lv_at hl 0 rfl) ?_
    refine lv_aload_n hx hb dX4_takeClauseEnd_31 rfl (lv_at hl 0 rfl) ?_
    refine m_geti (70) 5 hx hb hts hown hE oc4 hM (hG.1 70 (by decide)) rfl (by decide) rfl tb_323 dX4_takeClauseEnd_32 ?_
    have z10 : I7 (70) 5 = I (70) 5 := ((hkI7.get (70) 5 rfl)).trans (hkI2.get (70) 5 rfl)
    rw [z10]
    refine lv_bipush (v := (-44)) hx hb dX4_takeClauseEnd_35 (by decide) ?_
    refine lv_icmp_ne (tgt := 44) hx hb dX4_takeClauseEnd_37 (by decide) (fun c11 => ?_) (fun c11 => ?_)
    · have hc11 := c11
      have q11 := q_ne hc11
      refine lv_iconst (v := (5)) hx hb dX4_takeClauseEnd_44 (by decide) ?_
      refine m_puti (70) 7 hx hb hts hown hE oc4 hM hS (hG.1 70 (by decide)) rfl (by decide) rfl rfl rfl rfl tb_325 dX4_takeClauseEnd_45 (fun H locs I12 eI12 hM hS => ?_)
      subst eI12
      have hI := hI.put (n := 70) (k := 7) (v := 5) (lo := 0) (hi := 5) rfl (by first | omega | decide)
      have hK := hK.put (n := 70) (k := 7) (v := 5) (by first | rfl | simp [inR])
      have hpz : popc (1) (STK I) (I 70 9) (COD I w) = (STK I2, I2 70 9, COD I2 w) := by
        rw [show (1 : Int) = (r1).toInt from by rw [xr1, km25]; decide]; exact xI2.1
      have fz13 : (u2 I7 (70) 7 (5)) (70) 7 = 5 := (show (u2 I7 (70) 7 (5)) (70) 7 = 5 from by simp [u2_v])
      have fz13q := congrArg Int32.toInt fz13
      have fz14 : (u2 I7 (70) 7 (5)) (70) 9 = I2 (70) 9 := ((show (u2 I7 (70) 7 (5)) (70) 9 = I7 (70) 9 from by simp [u2_v])).trans (hkI7.get (70) 9 rfl)
      have fz14q := congrArg Int32.toInt fz14
      exact m_vret hx hb hr hlocks hM hS (Nat.le_of_ble_eq_true rfl) (Nat.le_of_ble_eq_true rfl) ⟨_, _, rfl, hI, hK, ⟨(((show OTH w I I2 from ot4).trans (show OTH w I2 I7 from ot9)).trans (show OTH w I7 (u2 I7 (70) 7 (5)) from OTH.put (by omega))), ⟨by rw [hpz]; exact STK_of (((show (u2 I7 (70) 7 (5)) 72 = I7 72 from by funext zz; simp [u2_v])).trans (hkI7.getA 72 rfl)) (((show (u2 I7 (70) 7 (5)) 70 2 = I7 70 2 from by simp [u2_v])).trans (hkI7.get 70 2 rfl)), by rw [hpz]; exact fz14, by rw [hpz]; exact (show LQ w I7 (u2 I7 (70) 7 (5)) from LQ.put hW.1 (by decide)).1.trans xI7.2, by rw [hpz, if_neg (by omega), (show LQ w I7 (u2 I7 (70) 7 (5)) from LQ.put hW.1 (by decide)).2, xI7.1, xI2.2], (Or.inr ⟨by omega, by rw [fz13]; exact k5⟩)⟩⟩⟩ dX4_takeClauseEnd_48
    · have hc11 := c11
      have q11 := q_eq hc11
      refine lv_iconst (v := (0)) hx hb dX4_takeClauseEnd_40 (by decide) ?_
      refine lv_goto (tgt := 45) hx hb dX4_takeClauseEnd_41 (by decide) ?_
      refine m_puti (70) 7 hx hb hts hown hE oc4 hM hS (hG.1 70 (by decide)) rfl (by decide) rfl rfl rfl rfl tb_325 dX4_takeClauseEnd_45 (fun H locs I15 eI15 hM hS => ?_)
      subst eI15
      have hI := hI.put (n := 70) (k := 7) (v := 0) (lo := 0) (hi := 5) rfl (by first | omega | decide)
      have hK := hK.put (n := 70) (k := 7) (v := 0) (by first | rfl | simp [inR])
      have hpz : popc (1) (STK I) (I 70 9) (COD I w) = (STK I2, I2 70 9, COD I2 w) := by
        rw [show (1 : Int) = (r1).toInt from by rw [xr1, km25]; decide]; exact xI2.1
      have fz16 : (u2 I7 (70) 7 (0)) (70) 7 = 0 := (show (u2 I7 (70) 7 (0)) (70) 7 = 0 from by simp [u2_v])
      have fz16q := congrArg Int32.toInt fz16
      have fz17 : (u2 I7 (70) 7 (0)) (70) 9 = I2 (70) 9 := ((show (u2 I7 (70) 7 (0)) (70) 9 = I7 (70) 9 from by simp [u2_v])).trans (hkI7.get (70) 9 rfl)
      have fz17q := congrArg Int32.toInt fz17
      exact m_vret hx hb hr hlocks hM hS (Nat.le_of_ble_eq_true rfl) (Nat.le_of_ble_eq_true rfl) ⟨_, _, rfl, hI, hK, ⟨(((show OTH w I I2 from ot4).trans (show OTH w I2 I7 from ot9)).trans (show OTH w I7 (u2 I7 (70) 7 (0)) from OTH.put (by omega))), ⟨by rw [hpz]; exact STK_of (((show (u2 I7 (70) 7 (0)) 72 = I7 72 from by funext zz; simp [u2_v])).trans (hkI7.getA 72 rfl)) (((show (u2 I7 (70) 7 (0)) 70 2 = I7 70 2 from by simp [u2_v])).trans (hkI7.get 70 2 rfl)), by rw [hpz]; exact fz17, by rw [hpz]; exact (show LQ w I7 (u2 I7 (70) 7 (0)) from LQ.put hW.1 (by decide)).1.trans xI7.2, by rw [hpz, if_neg (by omega), (show LQ w I7 (u2 I7 (70) 7 (0)) from LQ.put hW.1 (by decide)).2, xI7.1, xI2.2], (Or.inl ⟨by omega, by rw [fz16]; exact k0⟩)⟩⟩⟩ dX4_takeClauseEnd_48
  · have hc6 := c6
    have q6 := q_eq hc6
    refine lv_aload_n hx hb dX4_takeClauseEnd_16 rfl (lv_at hl 0 rfl) ?_
    refine m_getr (70) 13 (w) hx hb hts hown hE oc4 hM (hG.1 70 (by decide)) rfl (by decide) rfl hd (by have := lbw hW.1; omega) tb_331 dX4_takeClauseEnd_17 ?_
    refine m_callv (m_runV (w) (As := []) (rest := []) hx hb hml hown hts hE hM hS hA ce_X3_beginTest tb_724 (V_X3_beginTest_h l D A ad ns I2 L3 G (w) hG hI hW) rfl rfl ⟨Nat.le_of_ble_eq_true rfl, Nat.le_of_ble_eq_true rfl⟩ hW.l (kW _ hW.1).1 rfl (by decide) rfl hl.1 rfl (Nat.le_of_ble_eq_true rfl) dX4_takeClauseEnd_20 ⟨Nat.le_of_ble_eq_true rfl, Nat.le_of_ble_eq_true rfl⟩) hS (fun u H locs hw hM hS => ?_)
    obtain ⟨I18, L19, rfl, hI, hkI18, xI18⟩ := hw
    have hM : Mem D A ad ns I18 L19 G H := hM
    have hK := hK.trans hkI18 rfl
    obtain ⟨ot20, xI18⟩ := xI18
    refine lv_aload_n hx hb dX4_takeClauseEnd_23 rfl (lv_at hl 0 rfl) ?_
    refine m_getr (70) 13 (w) hx hb hts hown hE oc4 hM (hG.1 70 (by decide)) rfl (by decide) rfl hd (by have := lbw hW.1; omega) tb_331 dX4_takeClauseEnd_24 ?_
    refine m_callv (m_runV (w) (As := []) (rest := []) hx hb hml hown hts hE hM hS hA ce_X3_endClause tb_732 (V_X3_endClause_h l D A ad ns I18 L19 G (w) hG hI hW) rfl rfl ⟨Nat.le_of_ble_eq_true rfl, Nat.le_of_ble_eq_true rfl⟩ hW.l (kW _ hW.1).1 rfl (by decide) rfl hl.1 rfl (Nat.le_of_ble_eq_true rfl) dX4_takeClauseEnd_27 ⟨Nat.le_of_ble_eq_true rfl, Nat.le_of_ble_eq_true rfl⟩) hS (fun u H locs hw hM hS => ?_)
    obtain ⟨I21, L22, rfl, hI, hkI21, xI21⟩ := hw
    have hM : Mem D A ad ns I21 L22 G H := hM
    have hK := hK.trans hkI21 rfl
    obtain ⟨ot23, xI21⟩ := xI21
    refine lv_aload_n hx hb dX4_takeClauseEnd_30 rfl (lv_at hl 0 rfl) ?_
    refine lv_aload_n hx hb dX4_takeClauseEnd_31 rfl (lv_at hl 0 rfl) ?_
    refine m_geti (70) 5 hx hb hts hown hE oc4 hM (hG.1 70 (by decide)) rfl (by decide) rfl tb_323 dX4_takeClauseEnd_32 ?_
    have z24 : I21 (70) 5 = I (70) 5 := (((hkI21.get (70) 5 rfl)).trans (hkI18.get (70) 5 rfl)).trans (hkI2.get (70) 5 rfl)
    rw [z24]
    refine lv_bipush (v := (-44)) hx hb dX4_takeClauseEnd_35 (by decide) ?_
    refine lv_icmp_ne (tgt := 44) hx hb dX4_takeClauseEnd_37 (by decide) (fun c25 => ?_) (fun c25 => ?_)
    · have hc25 := c25
      have q25 := q_ne hc25
      refine lv_iconst (v := (5)) hx hb dX4_takeClauseEnd_44 (by decide) ?_
      refine m_puti (70) 7 hx hb hts hown hE oc4 hM hS (hG.1 70 (by decide)) rfl (by decide) rfl rfl rfl rfl tb_325 dX4_takeClauseEnd_45 (fun H locs I26 eI26 hM hS => ?_)
      subst eI26
      have hI := hI.put (n := 70) (k := 7) (v := 5) (lo := 0) (hi := 5) rfl (by first | omega | decide)
      have hK := hK.put (n := 70) (k := 7) (v := 5) (by first | rfl | simp [inR])
      have hpz : popc (1) (STK I) (I 70 9) (COD I w) = (STK I2, I2 70 9, COD I2 w) := by
        rw [show (1 : Int) = (r1).toInt from by rw [xr1, km25]; decide]; exact xI2.1
      have fz27 : (u2 I21 (70) 7 (5)) (70) 7 = 5 := (show (u2 I21 (70) 7 (5)) (70) 7 = 5 from by simp [u2_v])
      have fz27q := congrArg Int32.toInt fz27
      have fz28 : (u2 I21 (70) 7 (5)) (70) 9 = I2 (70) 9 := (((show (u2 I21 (70) 7 (5)) (70) 9 = I21 (70) 9 from by simp [u2_v])).trans (hkI21.get (70) 9 rfl)).trans (hkI18.get (70) 9 rfl)
      have fz28q := congrArg Int32.toInt fz28
      exact m_vret hx hb hr hlocks hM hS (Nat.le_of_ble_eq_true rfl) (Nat.le_of_ble_eq_true rfl) ⟨_, _, rfl, hI, hK, ⟨((((show OTH w I I2 from ot4).trans (show OTH w I2 I18 from ot20)).trans (show OTH w I18 I21 from ot23)).trans (show OTH w I21 (u2 I21 (70) 7 (5)) from OTH.put (by omega))), ⟨by rw [hpz]; exact STK_of ((((show (u2 I21 (70) 7 (5)) 72 = I21 72 from by funext zz; simp [u2_v])).trans (hkI21.getA 72 rfl)).trans (hkI18.getA 72 rfl)) ((((show (u2 I21 (70) 7 (5)) 70 2 = I21 70 2 from by simp [u2_v])).trans (hkI21.get 70 2 rfl)).trans (hkI18.get 70 2 rfl)), by rw [hpz]; exact fz28, by rw [hpz]; exact (show LQ w I21 (u2 I21 (70) 7 (5)) from LQ.put hW.1 (by decide)).1.trans (xI21.2.trans xI18.2), by rw [hpz, if_pos (by omega), (show LQ w I21 (u2 I21 (70) 7 (5)) from LQ.put hW.1 (by decide)).2, xI21.1, xI18.1, xI18.2, xI2.2], (Or.inr ⟨by omega, by rw [fz27]; exact k5⟩)⟩⟩⟩ dX4_takeClauseEnd_48
    · have hc25 := c25
      have q25 := q_eq hc25
      refine lv_iconst (v := (0)) hx hb dX4_takeClauseEnd_40 (by decide) ?_
      refine lv_goto (tgt := 45) hx hb dX4_takeClauseEnd_41 (by decide) ?_
      refine m_puti (70) 7 hx hb hts hown hE oc4 hM hS (hG.1 70 (by decide)) rfl (by decide) rfl rfl rfl rfl tb_325 dX4_takeClauseEnd_45 (fun H locs I29 eI29 hM hS => ?_)
      subst eI29
      have hI := hI.put (n := 70) (k := 7) (v := 0) (lo := 0) (hi := 5) rfl (by first | omega | decide)
      have hK := hK.put (n := 70) (k := 7) (v := 0) (by first | rfl | simp [inR])
      have hpz : popc (1) (STK I) (I 70 9) (COD I w) = (STK I2, I2 70 9, COD I2 w) := by
        rw [show (1 : Int) = (r1).toInt from by rw [xr1, km25]; decide]; exact xI2.1
      have fz30 : (u2 I21 (70) 7 (0)) (70) 7 = 0 := (show (u2 I21 (70) 7 (0)) (70) 7 = 0 from by simp [u2_v])
      have fz30q := congrArg Int32.toInt fz30
      have fz31 : (u2 I21 (70) 7 (0)) (70) 9 = I2 (70) 9 := (((show (u2 I21 (70) 7 (0)) (70) 9 = I21 (70) 9 from by simp [u2_v])).trans (hkI21.get (70) 9 rfl)).trans (hkI18.get (70) 9 rfl)
      have fz31q := congrArg Int32.toInt fz31
      exact m_vret hx hb hr hlocks hM hS (Nat.le_of_ble_eq_true rfl) (Nat.le_of_ble_eq_true rfl) ⟨_, _, rfl, hI, hK, ⟨((((show OTH w I I2 from ot4).trans (show OTH w I2 I18 from ot20)).trans (show OTH w I18 I21 from ot23)).trans (show OTH w I21 (u2 I21 (70) 7 (0)) from OTH.put (by omega))), ⟨by rw [hpz]; exact STK_of ((((show (u2 I21 (70) 7 (0)) 72 = I21 72 from by funext zz; simp [u2_v])).trans (hkI21.getA 72 rfl)).trans (hkI18.getA 72 rfl)) ((((show (u2 I21 (70) 7 (0)) 70 2 = I21 70 2 from by simp [u2_v])).trans (hkI21.get 70 2 rfl)).trans (hkI18.get 70 2 rfl)), by rw [hpz]; exact fz31, by rw [hpz]; exact (show LQ w I21 (u2 I21 (70) 7 (0)) from LQ.put hW.1 (by decide)).1.trans (xI21.2.trans xI18.2), by rw [hpz, if_pos (by omega), (show LQ w I21 (u2 I21 (70) 7 (0)) from LQ.put hW.1 (by decide)).2, xI21.1, xI18.1, xI18.2, xI2.2], (Or.inl ⟨by omega, by rw [fz30]; exact k0⟩)⟩⟩⟩ dX4_takeClauseEnd_48
