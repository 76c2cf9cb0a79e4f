theorem dX3_clear_0 : decode cX3_clear 0 = .ok (.aload_n 0, 1) := by decide +kernel
theorem dX3_clear_1 : decode cX3_clear 1 = .ok (.iconst 0, 1) := by decide +kernel
theorem dX3_clear_2 : decode cX3_clear 2 = .ok (.putfield 27, 3) := by decide +kernel
theorem dX3_clear_5 : decode cX3_clear 5 = .ok (.aload_n 0, 1) := by decide +kernel
theorem dX3_clear_6 : decode cX3_clear 6 = .ok (.iconst 0, 1) := by decide +kernel
theorem dX3_clear_7 : decode cX3_clear 7 = .ok (.putfield 31, 3) := by decide +kernel
theorem dX3_clear_10 : decode cX3_clear 10 = .ok (.return_, 1) := by decide +kernel
theorem ce_X3_clear : CeV RX3 yX3_clear cX3_clear 1 none 0 := ⟨tb_570, tb_571, tb_10, tb_572, rfl, by decide, by decide, by decide +kernel⟩
set_option maxHeartbeats 4000000 in
set_option maxRecDepth 20000 in
theorem V_X3_clear (l : Launch) (D : va_G) (A : Nat → Prop) (ad : Nat → Nat) (ns : List Nat) (I : MI) (L : ML) (G : MG) (w : Nat) (hG : SGC ns G) (hI : INV I) (hW : LOK ns G w) : Met l yX3_clear (wd yX3_clear cX3_clear 1 none) ({ frames := 0, cells := 0, slots := 0, locals := 0 }) (va_Pc [.ref (ad (w))] (PM D A ad ns I L G)) (va_Qv (fun u => ∃ I2 L2, u = (ad, ns, I2, L2, G) ∧ INV I2 ∧ Kp [(200, 300)] [] I I2) (BM D A) A) 0 0 A := by
  refine m_ofW (by decide) (Nat.le_of_ble_eq_true rfl) ?_
  intro p e s m below meth c ls args hC hE hM hA hS hl
  obtain ⟨hx, hb, hml, hown, hts, hr, hlocks, hin⟩ := hC
  have k0 : (0 : Int32).toInt = 0 := by decide
  have hK : Kp [(200, 300)] [] I I := Kp.rf
  have hl : lv_has ls 1 [(0, .ref (ad (w)))] := hl
  refine lv_aload_n hx hb dX3_clear_0 rfl (lv_at hl 0 rfl) ?_
  refine lv_iconst (v := (0)) hx hb dX3_clear_1 (by decide) ?_
  refine m_puti (w) 5 hx hb hts hown hE oc3 hM hS hW.l (kW _ hW.1).1 (by decide) rfl rfl rfl rfl tb_379 dX3_clear_2 (fun H locs I1 eI1 hM hS => ?_)
  subst eI1
  have hI := hI.put (n := w) (k := 5) (v := 0) (lo := 0) (hi := 12) (rgw0 hW.1).1 (by first | omega | decide)
  have hK := hK.putR (n := w) (k := 5) (v := 0) (200, 300) (by decide) (by have := lbw hW.1; omega)
  refine lv_aload_n hx hb dX3_clear_5 rfl (lv_at hl 0 rfl) ?_
  refine lv_iconst (v := (0)) hx hb dX3_clear_6 (by decide) ?_
  refine m_puti (w) 6 hx hb hts hown hE oc3 hM hS hW.l (kW _ hW.1).1 (by decide) rfl rfl rfl rfl tb_382 dX3_clear_7 (fun H locs I2 eI2 hM hS => ?_)
  subst eI2
  have hI := hI.put (n := w) (k := 6) (v := 0) (lo := 0) (hi := 400) (rgw0 hW.1).2 (by first | omega | decide)
  have hK := hK.putR (n := w) (k := 6) (v := 0) (200, 300) (by decide) (by have := lbw hW.1; omega)
  exact m_vret hx hb hr hlocks hM hS (Nat.le_of_ble_eq_true rfl) (Nat.le_of_ble_eq_true rfl) ⟨_, _, rfl, hI, hK⟩ dX3_clear_10
theorem dX3_add_0 : decode cX3_add 0 = .ok (.aload_n 0, 1) := by decide +kernel
theorem dX3_add_1 : decode cX3_add 1 = .ok (.getfield 31, 3) := by decide +kernel
theorem dX3_add_4 : decode cX3_add 4 = .ok (.sipush 400, 3) := by decide +kernel
theorem dX3_add_7 : decode cX3_add 7 = .ok (.if_icmp .ge 23, 3) := by decide +kernel
theorem dX3_add_10 : decode cX3_add 10 = .ok (.aload_n 0, 1) := by decide +kernel
theorem dX3_add_11 : decode cX3_add 11 = .ok (.getfield 9, 3) := by decide +kernel
theorem dX3_add_14 : decode cX3_add 14 = .ok (.aload_n 0, 1) := by decide +kernel
theorem dX3_add_15 : decode cX3_add 15 = .ok (.getfield 31, 3) := by decide +kernel
theorem dX3_add_18 : decode cX3_add 18 = .ok (.iload_n 1, 1) := by decide +kernel
theorem dX3_add_19 : decode cX3_add 19 = .ok (.iastore, 1) := by decide +kernel
theorem dX3_add_20 : decode cX3_add 20 = .ok (.aload_n 0, 1) := by decide +kernel
theorem dX3_add_21 : decode cX3_add 21 = .ok (.dup, 1) := by decide +kernel
theorem dX3_add_22 : decode cX3_add 22 = .ok (.getfield 31, 3) := by decide +kernel
theorem dX3_add_25 : decode cX3_add 25 = .ok (.iconst 1, 1) := by decide +kernel
theorem dX3_add_26 : decode cX3_add 26 = .ok (.iadd, 1) := by decide +kernel
theorem dX3_add_27 : decode cX3_add 27 = .ok (.putfield 31, 3) := by decide +kernel
theorem dX3_add_30 : decode cX3_add 30 = .ok (.return_, 1) := by decide +kernel
theorem ce_X3_add : CeV RX3 yX3_add cX3_add 2 none 1 := ⟨tb_698, tb_699, tb_10, tb_700, rfl, by decide, by decide, by decide +kernel⟩
set_option maxHeartbeats 4000000 in
set_option maxRecDepth 20000 in
theorem V_X3_add (l : Launch) (D : va_G) (A : Nat → Prop) (ad : Nat → Nat) (ns : List Nat) (I : MI) (L : ML) (G : MG) (w : Nat) (a0 : Int32) (hG : SGC ns G) (hI : INV I) (hW : LOK ns G w) : Met l yX3_add (wd yX3_add cX3_add 2 none) ({ frames := 0, cells := 0, slots := 0, locals := 0 }) (va_Pc [.ref (ad (w)), .int a0] (PM D A ad ns I L G)) (va_Qv (fun u => ∃ I2 L2, u = (ad, ns, I2, L2, G) ∧ INV I2 ∧ Kp [(200, 300)] [] I I2) (BM D A) A) 0 0 A := by
  refine m_ofW (by decide) (Nat.le_of_ble_eq_true rfl) ?_
  intro p e s m below meth c ls args hC hE hM hA hS hl
  obtain ⟨hx, hb, hml, hown, hts, hr, hlocks, hin⟩ := hC
  have k0 : (0 : Int32).toInt = 0 := by decide
  have k1 : (1 : Int32).toInt = 1 := by decide
  have k400 : (400 : Int32).toInt = 400 := by decide
  have hK : Kp [(200, 300)] [] I I := Kp.rf
  have hl : lv_has ls 2 [(0, .ref (ad (w))), (1, .int (a0))] := hl
  refine lv_aload_n hx hb dX3_add_0 rfl (lv_at hl 0 rfl) ?_
  refine m_geti (w) 6 hx hb hts hown hE oc3 hM hW.l (kW _ hW.1).1 (by decide) rfl tb_382 dX3_add_1 ?_
  have g1 := hI.get (w) 6 (lo := 0) (hi := 400) (rgw0 hW.1).2
  refine lv_sipush (v := (400)) hx hb dX3_add_4 (by decide) ?_
  refine lv_icmp_ge (tgt := 30) hx hb dX3_add_7 (by decide) (fun c2 => ?_) (fun c2 => ?_)
  · have hc2 := c2
    have q2 := q_le hc2
    exact m_vret hx hb hr hlocks hM hS (Nat.le_of_ble_eq_true rfl) (Nat.le_of_ble_eq_true rfl) ⟨_, _, rfl, hI, hK⟩ dX3_add_30
  · have hc2 := c2
    have q2 := q_nle hc2
    refine lv_aload_n hx hb dX3_add_10 rfl (lv_at hl 0 rfl) ?_
    refine m_getr (w) 0 (w + 1) hx hb hts hown hE oc3 hM hW.l (kW _ hW.1).1 (by decide) rfl (hW.2.2 0 (by decide)) (by have := lbw hW.1; omega) tb_369 dX3_add_11 ?_
    refine lv_aload_n hx hb dX3_add_14 rfl (lv_at hl 0 rfl) ?_
    refine m_geti (w) 6 hx hb hts hown hE oc3 hM hW.l (kW _ hW.1).1 (by decide) rfl tb_382 dX3_add_15 ?_
    refine lv_iload_n hx hb dX3_add_18 rfl (lv_at hl 1 rfl) ?_
    refine m_iast (w + 1) hx hb hE hM hS (hW.2.1 1 (by decide)) (kW _ hW.1).2.1 (vp_in_iff.mpr (by omega)) dX3_add_19 (fun H locs I3 eI3 hM hS => ?_)
    subst eI3
    have hI := hI.putF (n := w + 1) (k := ((I (w) 6).toNatClampNeg)) (v := a0) (rgw1 hW.1 _)
    have hK := hK.putR (n := w + 1) (k := ((I (w) 6).toNatClampNeg)) (v := a0) (200, 300) (by decide) (by have := lbw hW.1; omega)
    refine lv_aload_n hx hb dX3_add_20 rfl (lv_at hl 0 rfl) ?_
    refine lv_dup hx hb dX3_add_21 rfl ?_
    refine m_geti (w) 6 hx hb hts hown hE oc3 hM hW.l (kW _ hW.1).1 (by decide) rfl tb_382 dX3_add_22 ?_
    have z4 : (u2 I (w + 1) ((I (w) 6).toNatClampNeg) (a0)) (w) 6 = I (w) 6 := (show (u2 I (w + 1) ((I (w) 6).toNatClampNeg) (a0)) (w) 6 = I (w) 6 from by simp [u2_v])
    rw [z4]
    refine lv_iconst (v := (1)) hx hb dX3_add_25 (by decide) ?_
    refine lv_iadd hx hb dX3_add_26 ?_
    refine lv_topi (fun v5 ev5 => ?_)
    have tv5 := a_add ev5 (by omega) (by omega)
    refine m_puti (w) 6 hx hb hts hown hE oc3 hM hS hW.l (kW _ hW.1).1 (by decide) rfl rfl rfl rfl tb_382 dX3_add_27 (fun H locs I6 eI6 hM hS => ?_)
    subst eI6
    have hI := hI.put (n := w) (k := 6) (v := v5) (lo := 0) (hi := 400) (rgw0 hW.1).2 (by first | omega | decide)
    have hK := hK.putR (n := w) (k := 6) (v := v5) (200, 300) (by decide) (by have := lbw hW.1; omega)
    exact m_vret hx hb hr hlocks hM hS (Nat.le_of_ble_eq_true rfl) (Nat.le_of_ble_eq_true rfl) ⟨_, _, rfl, hI, hK⟩ dX3_add_30
theorem dX3_beginClause_0 : decode cX3_beginClause 0 = .ok (.aload_n 0, 1) := by decide +kernel
theorem dX3_beginClause_1 : decode cX3_beginClause 1 = .ok (.getfield 27, 3) := by decide +kernel
theorem dX3_beginClause_4 : decode cX3_beginClause 4 = .ok (.bipush 12, 2) := by decide +kernel
theorem dX3_beginClause_6 : decode cX3_beginClause 6 = .ok (.if_icmp .ge 26, 3) := by decide +kernel
theorem dX3_beginClause_9 : decode cX3_beginClause 9 = .ok (.aload_n 0, 1) := by decide +kernel
theorem dX3_beginClause_10 : decode cX3_beginClause 10 = .ok (.getfield 15, 3) := by decide +kernel
theorem dX3_beginClause_13 : decode cX3_beginClause 13 = .ok (.aload_n 0, 1) := by decide +kernel
theorem dX3_beginClause_14 : decode cX3_beginClause 14 = .ok (.getfield 27, 3) := by decide +kernel
theorem dX3_beginClause_17 : decode cX3_beginClause 17 = .ok (.iload_n 1, 1) := by decide +kernel
theorem dX3_beginClause_18 : decode cX3_beginClause 18 = .ok (.iastore, 1) := by decide +kernel
theorem dX3_beginClause_19 : decode cX3_beginClause 19 = .ok (.aload_n 0, 1) := by decide +kernel
theorem dX3_beginClause_20 : decode cX3_beginClause 20 = .ok (.getfield 18, 3) := by decide +kernel
theorem dX3_beginClause_23 : decode cX3_beginClause 23 = .ok (.aload_n 0, 1) := by decide +kernel
theorem dX3_beginClause_24 : decode cX3_beginClause 24 = .ok (.getfield 27, 3) := by decide +kernel
theorem dX3_beginClause_27 : decode cX3_beginClause 27 = .ok (.aload_n 0, 1) := by decide +kernel
theorem dX3_beginClause_28 : decode cX3_beginClause 28 = .ok (.getfield 31, 3) := by decide +kernel
theorem dX3_beginClause_31 : decode cX3_beginClause 31 = .ok (.iastore, 1) := by decide +kernel
theorem dX3_beginClause_32 : decode cX3_beginClause 32 = .ok (.return_, 1) := by decide +kernel
theorem ce_X3_beginClause : CeV RX3 yX3_beginClause cX3_beginClause 2 none 1 := ⟨tb_682, tb_683, tb_10, tb_684, rfl, by decide, by decide, by decide +kernel⟩
set_option maxHeartbeats 4000000 in
set_option maxRecDepth 20000 in
theorem V_X3_beginClause (l : Launch) (D : va_G) (A : Nat → Prop) (ad : Nat → Nat) (ns : List Nat) (I : MI) (L : ML) (G : MG) (w : Nat) (a0 : Int32) (hG : SGC ns G) (hI : INV I) (hW : LOK ns G w) : Met l yX3_beginClause (wd yX3_beginClause cX3_beginClause 2 none) ({ frames := 0, cells := 0, slots := 0, locals := 0 }) (va_Pc [.ref (ad (w)), .int a0] (PM D A ad ns I L G)) (va_Qv (fun u => ∃ I2 L2, u = (ad, ns, I2, L2, G) ∧ INV I2 ∧ Kp [(200, 300)] [] I I2) (BM D A) A) 0 0 A := by
  refine m_ofW (by decide) (Nat.le_of_ble_eq_true rfl) ?_
  intro p e s m below meth c ls args hC hE hM hA hS hl
  obtain ⟨hx, hb, hml, hown, hts, hr, hlocks, hin⟩ := hC
  have k0 : (0 : Int32).toInt = 0 := by decide
  have k12 : (12 : Int32).toInt = 12 := by decide
  have hK : Kp [(200, 300)] [] I I := Kp.rf
  have hl : lv_has ls 2 [(0, .ref (ad (w))), (1, .int (a0))] := hl
  refine lv_aload_n hx hb dX3_beginClause_0 rfl (lv_at hl 0 rfl) ?_
  refine m_geti (w) 5 hx hb hts hown hE oc3 hM hW.l (kW _ hW.1).1 (by decide) rfl tb_379 dX3_beginClause_1 ?_
  have g1 := hI.get (w) 5 (lo := 0) (hi := 12) (rgw0 hW.1).1
  refine lv_bipush (v := (12)) hx hb dX3_beginClause_4 (by decide) ?_
  refine lv_icmp_ge (tgt := 32) hx hb dX3_beginClause_6 (by decide) (fun c2 => ?_) (fun c2 => ?_)
  · have hc2 := c2
    have q2 := q_le hc2
    exact m_vret hx hb hr hlocks hM hS (Nat.le_of_ble_eq_true rfl) (Nat.le_of_ble_eq_true rfl) ⟨_, _, rfl, hI, hK⟩ dX3_beginClause_32
  · have hc2 := c2
    have q2 := q_nle hc2
    refine lv_aload_n hx hb dX3_beginClause_9 rfl (lv_at hl 0 rfl) ?_
    refine m_getr (w) 1 (w + 2) hx hb hts hown hE oc3 hM hW.l (kW _ hW.1).1 (by decide) rfl (hW.2.2 1 (by decide)) (by have := lbw hW.1; omega) tb_371 dX3_beginClause_10 ?_
    refine lv_aload_n hx hb dX3_beginClause_13 rfl (lv_at hl 0 rfl) ?_
    refine m_geti (w) 5 hx hb hts hown hE oc3 hM hW.l (kW _ hW.1).1 (by decide) rfl tb_379 dX3_beginClause_14 ?_
    refine lv_iload_n hx hb dX3_beginClause_17 rfl (lv_at hl 1 rfl) ?_
    refine m_iast (w + 2) hx hb hE hM hS (hW.2.1 2 (by decide)) (kW _ hW.1).2.2.1 (vp_in_iff.mpr (by omega)) dX3_beginClause_18 (fun H locs I3 eI3 hM hS => ?_)
    subst eI3
    have hI := hI.putF (n := w + 2) (k := ((I (w) 5).toNatClampNeg)) (v := a0) (rgw2 hW.1 _)
    have hK := hK.putR (n := w + 2) (k := ((I (w) 5).toNatClampNeg)) (v := a0) (200, 300) (by decide) (by have := lbw hW.1; omega)
    refine lv_aload_n hx hb dX3_beginClause_19 rfl (lv_at hl 0 rfl) ?_
    refine m_getr (w) 2 (w + 3) hx hb hts hown hE oc3 hM hW.l (kW _ hW.1).1 (by decide) rfl (hW.2.2 2 (by decide)) (by have := lbw hW.1; omega) tb_373 dX3_beginClause_20 ?_
    refine lv_aload_n hx hb dX3_beginClause_23 rfl (lv_at hl 0 rfl) ?_
    refine m_geti (w) 5 hx hb hts hown hE oc3 hM hW.l (kW _ hW.1).1 (by decide) rfl tb_379 dX3_beginClause_24 ?_
    have z4 : (u2 I (w + 2) ((I (w) 5).toNatClampNeg) (a0)) (w) 5 = I (w) 5 := (show (u2 I (w + 2) ((I (w) 5).toNatClampNeg) (a0)) (w) 5 = I (w) 5 from by simp [u2_v])
    rw [z4]
    refine lv_aload_n hx hb dX3_beginClause_27 rfl (lv_at hl 0 rfl) ?_
    refine m_geti (w) 6 hx hb hts hown hE oc3 hM hW.l (kW _ hW.1).1 (by decide) rfl tb_382 dX3_beginClause_28 ?_
    have g5 := hI.get (w) 6 (lo := 0) (hi := 400) (rgw0 hW.1).2
    have z6 : (u2 I (w + 2) ((I (w) 5).toNatClampNeg) (a0)) (w) 6 = I (w) 6 := (show (u2 I (w + 2) ((I (w) 5).toNatClampNeg) (a0)) (w) 6 = I (w) 6 from by simp [u2_v])
    rw [z6] at g5 ⊢
    refine m_iast (w + 3) hx hb hE hM hS (hW.2.1 3 (by decide)) (kW _ hW.1).2.2.2.1 (vp_in_iff.mpr (by omega)) dX3_beginClause_31 (fun H locs I7 eI7 hM hS => ?_)
    subst eI7
    have hI := hI.put (n := w + 3) (k := ((I (w) 5).toNatClampNeg)) (v := I (w) 6) (lo := 0) (hi := 400) (rgw3 hW.1 _) (by first | omega | decide)
    have hK := hK.putR (n := w + 3) (k := ((I (w) 5).toNatClampNeg)) (v := I (w) 6) (200, 300) (by decide) (by have := lbw hW.1; omega)
    exact m_vret hx hb hr hlocks hM hS (Nat.le_of_ble_eq_true rfl) (Nat.le_of_ble_eq_true rfl) ⟨_, _, rfl, hI, hK⟩ dX3_beginClause_32
theorem dX3_beginTest_0 : decode cX3_beginTest 0 = .ok (.aload_n 0, 1) := by decide +kernel
theorem dX3_beginTest_1 : decode cX3_beginTest 1 = .ok (.getfield 27, 3) := by decide +kernel
theorem dX3_beginTest_4 : decode cX3_beginTest 4 = .ok (.bipush 12, 2) := by decide +kernel
theorem dX3_beginTest_6 : decode cX3_beginTest 6 = .ok (.if_icmp .ge 16, 3) := by decide +kernel
theorem dX3_beginTest_9 : decode cX3_beginTest 9 = .ok (.aload_n 0, 1) := by decide +kernel
theorem dX3_beginTest_10 : decode cX3_beginTest 10 = .ok (.getfield 21, 3) := by decide +kernel
theorem dX3_beginTest_13 : decode cX3_beginTest 13 = .ok (.aload_n 0, 1) := by decide +kernel
theorem dX3_beginTest_14 : decode cX3_beginTest 14 = .ok (.getfield 27, 3) := by decide +kernel
theorem dX3_beginTest_17 : decode cX3_beginTest 17 = .ok (.aload_n 0, 1) := by decide +kernel
theorem dX3_beginTest_18 : decode cX3_beginTest 18 = .ok (.getfield 31, 3) := by decide +kernel
theorem dX3_beginTest_21 : decode cX3_beginTest 21 = .ok (.iastore, 1) := by decide +kernel
theorem dX3_beginTest_22 : decode cX3_beginTest 22 = .ok (.return_, 1) := by decide +kernel
theorem ce_X3_beginTest : CeV RX3 yX3_beginTest cX3_beginTest 1 none 0 := ⟨tb_725, tb_726, tb_10, tb_727, rfl, by decide, by decide, by decide +kernel⟩
set_option maxHeartbeats 4000000 in
set_option maxRecDepth 20000 in
theorem V_X3_beginTest (l : Launch) (D : va_G) (A : Nat → Prop) (ad : Nat → Nat) (ns : List Nat) (I : MI) (L : ML) (G : MG) (w : Nat) (hG : SGC ns G) (hI : INV I) (hW : LOK ns G w) : Met l yX3_beginTest (wd yX3_beginTest cX3_beginTest 1 none) ({ frames := 0, cells := 0, slots := 0, locals := 0 }) (va_Pc [.ref (ad (w))] (PM D A ad ns I L G)) (va_Qv (fun u => ∃ I2 L2, u = (ad, ns, I2, L2, G) ∧ INV I2 ∧ Kp [(200, 300)] [] I I2) (BM D A) A) 0 0 A := by
  refine m_ofW (by decide) (Nat.le_of_ble_eq_true rfl) ?_
  intro p e s m below meth c ls args hC hE hM hA hS hl
  obtain ⟨hx, hb, hml, hown, hts, hr, hlocks, hin⟩ := hC
  have k0 : (0 : Int32).toInt = 0 := by decide
  have k12 : (12 : Int32).toInt = 12 := by decide
  have hK : Kp [(200, 300)] [] I I := Kp.rf
  have hl : lv_has ls 1 [(0, .ref (ad (w)))] := hl
  refine lv_aload_n hx hb dX3_beginTest_0 rfl (lv_at hl 0 rfl) ?_
  refine m_geti (w) 5 hx hb hts hown hE oc3 hM hW.l (kW _ hW.1).1 (by decide) rfl tb_379 dX3_beginTest_1 ?_
  have g1 := hI.get (w) 5 (lo := 0) (hi := 12) (rgw0 hW.1).1
  refine lv_bipush (v := (12)) hx hb dX3_beginTest_4 (by decide) ?_
  refine lv_icmp_ge (tgt := 22) hx hb dX3_beginTest_6 (by decide) (fun c2 => ?_) (fun c2 => ?_)
  · have hc2 := c2
    have q2 := q_le hc2
    exact m_vret hx hb hr hlocks hM hS (Nat.le_of_ble_eq_true rfl) (Nat.le_of_ble_eq_true rfl) ⟨_, _, rfl, hI, hK⟩ dX3_beginTest_22
  · have hc2 := c2
    have q2 := q_nle hc2
    refine lv_aload_n hx hb dX3_beginTest_9 rfl (lv_at hl 0 rfl) ?_
    refine m_getr (w) 3 (w + 4) hx hb hts hown hE oc3 hM hW.l (kW _ hW.1).1 (by decide) rfl (hW.2.2 3 (by decide)) (by have := lbw hW.1; omega) tb_375 dX3_beginTest_10 ?_
    refine lv_aload_n hx hb dX3_beginTest_13 rfl (lv_at hl 0 rfl) ?_
    refine m_geti (w) 5 hx hb hts hown hE oc3 hM hW.l (kW _ hW.1).1 (by decide) rfl tb_379 dX3_beginTest_14 ?_
    refine lv_aload_n hx hb dX3_beginTest_17 rfl (lv_at hl 0 rfl) ?_
    refine m_geti (w) 6 hx hb hts hown hE oc3 hM hW.l (kW _ hW.1).1 (by decide) rfl tb_382 dX3_beginTest_18 ?_
    have g3 := hI.get (w) 6 (lo := 0) (hi := 400) (rgw0 hW.1).2
    refine m_iast (w + 4) hx hb hE hM hS (hW.2.1 4 (by decide)) (kW _ hW.1).2.2.2.2.1 (vp_in_iff.mpr (by omega)) dX3_beginTest_21 (fun H locs I4 eI4 hM hS => ?_)
    subst eI4
    have hI := hI.put (n := w + 4) (k := ((I (w) 5).toNatClampNeg)) (v := I (w) 6) (lo := 0) (hi := 400) (rgw4 hW.1 _) (by first | omega | decide)
    have hK := hK.putR (n := w + 4) (k := ((I (w) 5).toNatClampNeg)) (v := I (w) 6) (200, 300) (by decide) (by have := lbw hW.1; omega)
    exact m_vret hx hb hr hlocks hM hS (Nat.le_of_ble_eq_true rfl) (Nat.le_of_ble_eq_true rfl) ⟨_, _, rfl, hI, hK⟩ dX3_beginTest_22
theorem dX3_endClause_0 : decode cX3_endClause 0 = .ok (.aload_n 0, 1) := by decide +kernel
theorem dX3_endClause_1 : decode cX3_endClause 1 = .ok (.getfield 27, 3) := by decide +kernel
theorem dX3_endClause_4 : decode cX3_endClause 4 = .ok (.bipush 12, 2) := by decide +kernel
theorem dX3_endClause_6 : decode cX3_endClause 6 = .ok (.if_icmp .ge 26, 3) := by decide +kernel
theorem dX3_endClause_9 : decode cX3_endClause 9 = .ok (.aload_n 0, 1) := by decide +kernel
theorem dX3_endClause_10 : decode cX3_endClause 10 = .ok (.getfield 24, 3) := by decide +kernel
theorem dX3_endClause_13 : decode cX3_endClause 13 = .ok (.aload_n 0, 1) := by decide +kernel
theorem dX3_endClause_14 : decode cX3_endClause 14 = .ok (.getfield 27, 3) := by decide +kernel
theorem dX3_endClause_17 : decode cX3_endClause 17 = .ok (.aload_n 0, 1) := by decide +kernel
theorem dX3_endClause_18 : decode cX3_endClause 18 = .ok (.getfield 31, 3) := by decide +kernel
theorem dX3_endClause_21 : decode cX3_endClause 21 = .ok (.iastore, 1) := by decide +kernel
theorem dX3_endClause_22 : decode cX3_endClause 22 = .ok (.aload_n 0, 1) := by decide +kernel
theorem dX3_endClause_23 : decode cX3_endClause 23 = .ok (.dup, 1) := by decide +kernel
theorem dX3_endClause_24 : decode cX3_endClause 24 = .ok (.getfield 27, 3) := by decide +kernel
theorem dX3_endClause_27 : decode cX3_endClause 27 = .ok (.iconst 1, 1) := by decide +kernel
theorem dX3_endClause_28 : decode cX3_endClause 28 = .ok (.iadd, 1) := by decide +kernel
theorem dX3_endClause_29 : decode cX3_endClause 29 = .ok (.putfield 27, 3) := by decide +kernel
theorem dX3_endClause_32 : decode cX3_endClause 32 = .ok (.return_, 1) := by decide +kernel
theorem ce_X3_endClause : CeV RX3 yX3_endClause cX3_endClause 1 none 0 := ⟨tb_733, tb_734, tb_10, tb_735, rfl, by decide, by decide, by decide +kernel⟩
set_option maxHeartbeats 4000000 in
set_option maxRecDepth 20000 in
theorem V_X3_endClause (l : Launch) (D : va_G) (A : Nat → Prop) (ad : Nat → Nat) (ns : List Nat) (I : MI) (L : ML) (G : MG) (w : Nat) (hG : SGC ns G) (hI : INV I) (hW : LOK ns G w) : Met l yX3_endClause (wd yX3_endClause cX3_endClause 1 none) ({ frames := 0, cells := 0, slots := 0, locals := 0 }) (va_Pc [.ref (ad (w))] (PM D A ad ns I L G)) (va_Qv (fun u => ∃ I2 L2, u = (ad, ns, I2, L2, G) ∧ INV I2 ∧ Kp [(200, 300)] [] I I2) (BM D A) A) 0 0 A := by
  refine m_ofW (by decide) (Nat.le_of_ble_eq_true rfl) ?_
  intro p e s m below meth c ls args hC hE hM hA hS hl
  obtain ⟨hx, hb, hml, hown, hts, hr, hlocks, hin⟩ := hC
  have k0 : (0 : Int32).toInt = 0 := by decide
  have k1 : (1 : Int32).toInt = 1 := by decide
  have k12 : (12 : Int32).toInt = 12 := by decide
  have hK : Kp [(200, 300)] [] I I := Kp.rf
  have hl : lv_has ls 1 [(0, .ref (ad (w)))] := hl
  refine lv_aload_n hx hb dX3_endClause_0 rfl (lv_at hl 0 rfl) ?_
  refine m_geti (w) 5 hx hb hts hown hE oc3 hM hW.l (kW _ hW.1).1 (by decide) rfl tb_379 dX3_endClause_1 ?_
  have g1 := hI.get (w) 5 (lo := 0) (hi := 12) (rgw0 hW.1).1
  refine lv_bipush (v := (12)) hx hb dX3_endClause_4 (by decide) ?_
  refine lv_icmp_ge (tgt := 32) hx hb dX3_endClause_6 (by decide) (fun c2 => ?_) (fun c2 => ?_)
  · have hc2 := c2
    have q2 := q_le hc2
    exact m_vret hx hb hr hlocks hM hS (Nat.le_of_ble_eq_true rfl) (Nat.le_of_ble_eq_true rfl) ⟨_, _, rfl, hI, hK⟩ dX3_endClause_32
  · have hc2 := c2
    have q2 := q_nle hc2
    refine lv_aload_n hx hb dX3_endClause_9 rfl (lv_at hl 0 rfl) ?_
    refine m_getr (w) 4 (w + 5) hx hb hts hown hE oc3 hM hW.l (kW _ hW.1).1 (by decide) rfl (hW.2.2 4 (by decide)) (by have := lbw hW.1; omega) tb_377 dX3_endClause_10 ?_
    refine lv_aload_n hx hb dX3_endClause_13 rfl (lv_at hl 0 rfl) ?_
    refine m_geti (w) 5 hx hb hts hown hE oc3 hM hW.l (kW _ hW.1).1 (by decide) rfl tb_379 dX3_endClause_14 ?_
    refine lv_aload_n hx hb dX3_endClause_17 rfl (lv_at hl 0 rfl) ?_
    refine m_geti (w) 6 hx hb hts hown hE oc3 hM hW.l (kW _ hW.1).1 (by decide) rfl tb_382 dX3_endClause_18 ?_
    have g3 := hI.get (w) 6 (lo := 0) (hi := 400) (rgw0 hW.1).2
    refine m_iast (w + 5) hx hb hE hM hS (hW.2.1 5 (by decide)) (kW _ hW.1).2.2.2.2.2.1 (vp_in_iff.mpr (by omega)) dX3_endClause_21 (fun H locs I4 eI4 hM hS => ?_)
    subst eI4
    have hI := hI.put (n := w + 5) (k := ((I (w) 5).toNatClampNeg)) (v := I (w) 6) (lo := 0) (hi := 400) (rgw5 hW.1 _) (by first | omega | decide)
    have hK := hK.putR (n := w + 5) (k := ((I (w) 5).toNatClampNeg)) (v := I (w) 6) (200, 300) (by decide) (by have := lbw hW.1; omega)
    refine lv_aload_n hx hb dX3_endClause_22 rfl (lv_at hl 0 rfl) ?_
    refine lv_dup hx hb dX3_endClause_23 rfl ?_
    refine m_geti (w) 5 hx hb hts hown hE oc3 hM hW.l (kW _ hW.1).1 (by decide) rfl tb_379 dX3_endClause_24 ?_
    have z5 : (u2 I (w + 5) ((I (w) 5).toNatClampNeg) (I (w) 6)) (w) 5 = I (w) 5 := (show (u2 I (w + 5) ((I (w) 5).toNatClampNeg) (I (w) 6)) (w) 5 = I (w) 5 from by simp [u2_v])
    rw [z5]
    refine lv_iconst (v := (1)) hx hb dX3_endClause_27 (by decide) ?_
    refine lv_iadd hx hb dX3_endClause_28 ?_
    refine lv_topi (fun v6 ev6 => ?_)
    have tv6 := a_add ev6 (by omega) (by omega)
    refine m_puti (w) 5 hx hb hts hown hE oc3 hM hS hW.l (kW _ hW.1).1 (by decide) rfl rfl rfl rfl tb_379 dX3_endClause_29 (fun H locs I7 eI7 hM hS => ?_)
    subst eI7
    have hI := hI.put (n := w) (k := 5) (v := v6) (lo := 0) (hi := 12) (rgw0 hW.1).1 (by first | omega | decide)
    have hK := hK.putR (n := w) (k := 5) (v := v6) (200, 300) (by decide) (by have := lbw hW.1; omega)
    exact m_vret hx hb hr hlocks hM hS (Nat.le_of_ble_eq_true rfl) (Nat.le_of_ble_eq_true rfl) ⟨_, _, rfl, hI, hK⟩ dX3_endClause_32
theorem dX4_isDigit_0 : decode cX4_isDigit 0 = .ok (.iload_n 0, 1) := by decide +kernel
theorem dX4_isDigit_1 : decode cX4_isDigit 1 = .ok (.bipush 48, 2) := by decide +kernel
theorem dX4_isDigit_3 : decode cX4_isDigit 3 = .ok (.if_icmp .lt 13, 3) := by decide +kernel
theorem dX4_isDigit_6 : decode cX4_isDigit 6 = .ok (.iload_n 0, 1) := by decide +kernel
theorem dX4_isDigit_7 : decode cX4_isDigit 7 = .ok (.bipush 57, 2) := by decide +kernel
theorem dX4_isDigit_9 : decode cX4_isDigit 9 = .ok (.if_icmp .gt 7, 3) := by decide +kernel
theorem dX4_isDigit_12 : decode cX4_isDigit 12 = .ok (.iconst 1, 1) := by decide +kernel
theorem dX4_isDigit_13 : decode cX4_isDigit 13 = .ok (.goto 4, 3) := by decide +kernel
theorem dX4_isDigit_16 : decode cX4_isDigit 16 = .ok (.iconst 0, 1) := by decide +kernel
theorem dX4_isDigit_17 : decode cX4_isDigit 17 = .ok (.ireturn, 1) := by decide +kernel
theorem ce_X4_isDigit : CeS yX4_isDigit cX4_isDigit 1 (some .boolean) 1 := ⟨tb_582, tb_9, tb_583, by decide, by decide, by decide +kernel⟩
set_option maxHeartbeats 4000000 in
set_option maxRecDepth 20000 in
theorem V_X4_isDigit (l : Launch) (D : va_G) (A : Nat → Prop) (ad : Nat → Nat) (ns : List Nat) (I : MI) (L : ML) (G : MG) (a0 : Int32) (hI : INV I) : Met l yX4_isDigit (wd yX4_isDigit cX4_isDigit 1 (some .boolean)) ({ frames := 0, cells := 0, slots := 0, locals := 0 }) (va_Pc [.int a0] (PM D A ad ns I L G)) (va_Qi (fun r u => u = (ad, ns, I, L, G) ∧ (Bo r (48 ≤ a0.toInt ∧ a0.toInt ≤ 57))) (BM D A) A) 0 0 A := by
  refine m_ofW (by decide) (Nat.le_of_ble_eq_true rfl) ?_
  intro p e s m below meth c ls args hC hE hM hA hS hl
  obtain ⟨hx, hb, hml, hown, hts, hr, hlocks, hin⟩ := hC
  have k0 : (0 : Int32).toInt = 0 := by decide
  have k1 : (1 : Int32).toInt = 1 := by decide
  have k48 : (48 : Int32).toInt = 48 := by decide
  have k57 : (57 : Int32).toInt = 57 := by decide
  have hl : lv_has ls 1 [(0, .int (a0))] := hl
  refine lv_iload_n hx hb dX4_isDigit_0 rfl (lv_at hl 0 rfl) ?_
  refine lv_bipush (v := (48)) hx hb dX4_isDigit_1 (by decide) ?_
  refine lv_icmp_lt (tgt := 16) hx hb dX4_isDigit_3 (by decide) (fun c1 => ?_) (fun c1 => ?_)
  · have hc1 := c1
    have q1 := q_lt hc1
    refine lv_iconst (v := (0)) hx hb dX4_isDigit_16 (by decide) ?_
    exact m_zret hx hb hr rfl hlocks hM hS (Nat.le_of_ble_eq_true rfl) (Nat.le_of_ble_eq_true rfl) ⟨rfl, (Bo.n (by omega))⟩ dX4_isDigit_17
  · have hc1 := c1
    have q1 := q_nlt hc1
    refine lv_iload_n hx hb dX4_isDigit_6 rfl (lv_at hl 0 rfl) ?_
    refine lv_bipush (v := (57)) hx hb dX4_isDigit_7 (by decide) ?_
    refine lv_icmp_gt (tgt := 16) hx hb dX4_isDigit_9 (by decide) (fun c2 => ?_) (fun c2 => ?_)
    · have hc2 := c2
      have q2 := q_lt hc2
      refine lv_iconst (v := (0)) hx hb dX4_isDigit_16 (by decide) ?_
      exact m_zret hx hb hr rfl hlocks hM hS (Nat.le_of_ble_eq_true rfl) (Nat.le_of_ble_eq_true rfl) ⟨rfl, (Bo.n (by omega))⟩ dX4_isDigit_17
    · have hc2 := c2
      have q2 := q_nlt hc2
      refine lv_iconst (v := (1)) hx hb dX4_isDigit_12 (by decide) ?_
      refine lv_goto (tgt := 17) hx hb dX4_isDigit_13 (by decide) ?_
      exact m_zret hx hb hr rfl hlocks hM hS (Nat.le_of_ble_eq_true rfl) (Nat.le_of_ble_eq_true rfl) ⟨rfl, (Bo.y (by omega))⟩ dX4_isDigit_17
theorem dX4_isLetter_0 : decode cX4_isLetter 0 = .ok (.iload_n 0, 1) := by decide +kernel
theorem dX4_isLetter_1 : decode cX4_isLetter 1 = .ok (.bipush 97, 2) := by decide +kernel
theorem dX4_isLetter_3 : decode cX4_isLetter 3 = .ok (.if_icmp .lt 13, 3) := by decide +kernel
theorem dX4_isLetter_6 : decode cX4_isLetter 6 = .ok (.iload_n 0, 1) := by decide +kernel
theorem dX4_isLetter_7 : decode cX4_isLetter 7 = .ok (.bipush 122, 2) := by decide +kernel
theorem dX4_isLetter_9 : decode cX4_isLetter 9 = .ok (.if_icmp .gt 7, 3) := by decide +kernel
theorem dX4_isLetter_12 : decode cX4_isLetter 12 = .ok (.iconst 1, 1) := by decide +kernel
theorem dX4_isLetter_13 : decode cX4_isLetter 13 = .ok (.goto 4, 3) := by decide +kernel
theorem dX4_isLetter_16 : decode cX4_isLetter 16 = .ok (.iconst 0, 1) := by decide +kernel
theorem dX4_isLetter_17 : decode cX4_isLetter 17 = .ok (.ireturn, 1) := by decide +kernel
theorem ce_X4_isLetter : CeS yX4_isLetter cX4_isLetter 1 (some .boolean) 1 := ⟨tb_589, tb_9, tb_590, by decide, by decide, by decide +kernel⟩
set_option maxHeartbeats 4000000 in
set_option maxRecDepth 20000 in
theorem V_X4_isLetter (l : Launch) (D : va_G) (A : Nat → Prop) (ad : Nat → Nat) (ns : List Nat) (I : MI) (L : ML) (G : MG) (a0 : Int32) (hI : INV I) : Met l yX4_isLetter (wd yX4_isLetter cX4_isLetter 1 (some .boolean)) ({ frames := 0, cells := 0, slots := 0, locals := 0 }) (va_Pc [.int a0] (PM D A ad ns I L G)) (va_Qi (fun r u => u = (ad, ns, I, L, G) ∧ (Bo r (97 ≤ a0.toInt ∧ a0.toInt ≤ 122))) (BM D A) A) 0 0 A := by
  refine m_ofW (by decide) (Nat.le_of_ble_eq_true rfl) ?_
  intro p e s m below meth c ls args hC hE hM hA hS hl
  obtain ⟨hx, hb, hml, hown, hts, hr, hlocks, hin⟩ := hC
  have k0 : (0 : Int32).toInt = 0 := by decide
  have k1 : (1 : Int32).toInt = 1 := by decide
  have k97 : (97 : Int32).toInt = 97 := by decide
  have k122 : (122 : Int32).toInt = 122 := by decide
  have hl : lv_has ls 1 [(0, .int (a0))] := hl
  refine lv_iload_n hx hb dX4_isLetter_0 rfl (lv_at hl 0 rfl) ?_
  refine lv_bipush (v := (97)) hx hb dX4_isLetter_1 (by decide) ?_
  refine lv_icmp_lt (tgt := 16) hx hb dX4_isLetter_3 (by decide) (fun c1 => ?_) (fun c1 => ?_)
  · have hc1 := c1
    have q1 := q_lt hc1
    refine lv_iconst (v := (0)) hx hb dX4_isLetter_16 (by decide) ?_
    exact m_zret hx hb hr rfl hlocks hM hS (Nat.le_of_ble_eq_true rfl) (Nat.le_of_ble_eq_true rfl) ⟨rfl, (Bo.n (by omega))⟩ dX4_isLetter_17
  · have hc1 := c1
    have q1 := q_nlt hc1
    refine lv_iload_n hx hb dX4_isLetter_6 rfl (lv_at hl 0 rfl) ?_
    refine lv_bipush (v := (122)) hx hb dX4_isLetter_7 (by decide) ?_
    refine lv_icmp_gt (tgt := 16) hx hb dX4_isLetter_9 (by decide) (fun c2 => ?_) (fun c2 => ?_)
    · have hc2 := c2
      have q2 := q_lt hc2
      refine lv_iconst (v := (0)) hx hb dX4_isLetter_16 (by decide) ?_
      exact m_zret hx hb hr rfl hlocks hM hS (Nat.le_of_ble_eq_true rfl) (Nat.le_of_ble_eq_true rfl) ⟨rfl, (Bo.n (by omega))⟩ dX4_isLetter_17
    · have hc2 := c2
      have q2 := q_nlt hc2
      refine lv_iconst (v := (1)) hx hb dX4_isLetter_12 (by decide) ?_
      refine lv_goto (tgt := 17) hx hb dX4_isLetter_13 (by decide) ?_
      exact m_zret hx hb hr rfl hlocks hM hS (Nat.le_of_ble_eq_true rfl) (Nat.le_of_ble_eq_true rfl) ⟨rfl, (Bo.y (by omega))⟩ dX4_isLetter_17
theorem dX4_rankOf_0 : decode cX4_rankOf 0 = .ok (.iload_n 0, 1) := by decide +kernel
theorem dX4_rankOf_1 : decode cX4_rankOf 1 = .ok (.tableswitch 74 (-25) (-14) #[63, 65, 74, 74, 74, 74, 74, 71, 71, 69, 69, 67], 63) := by decide +kernel
theorem dX4_rankOf_64 : decode cX4_rankOf 64 = .ok (.iconst 1, 1) := by decide +kernel
theorem dX4_rankOf_65 : decode cX4_rankOf 65 = .ok (.ireturn, 1) := by decide +kernel
theorem dX4_rankOf_66 : decode cX4_rankOf 66 = .ok (.iconst 2, 1) := by decide +kernel
theorem dX4_rankOf_67 : decode cX4_rankOf 67 = .ok (.ireturn, 1) := by decide +kernel
theorem dX4_rankOf_68 : decode cX4_rankOf 68 = .ok (.iconst 3, 1) := by decide +kernel
theorem dX4_rankOf_69 : decode cX4_rankOf 69 = .ok (.ireturn, 1) := by decide +kernel
theorem dX4_rankOf_70 : decode cX4_rankOf 70 = .ok (.iconst 5, 1) := by decide +kernel
theorem dX4_rankOf_71 : decode cX4_rankOf 71 = .ok (.ireturn, 1) := by decide +kernel
theorem dX4_rankOf_72 : decode cX4_rankOf 72 = .ok (.bipush 6, 2) := by decide +kernel
theorem dX4_rankOf_74 : decode cX4_rankOf 74 = .ok (.ireturn, 1) := by decide +kernel
theorem dX4_rankOf_75 : decode cX4_rankOf 75 = .ok (.iconst 4, 1) := by decide +kernel
theorem dX4_rankOf_76 : decode cX4_rankOf 76 = .ok (.ireturn, 1) := by decide +kernel
theorem ce_X4_rankOf : CeS yX4_rankOf cX4_rankOf 1 (some .int) 1 := ⟨tb_714, tb_9, tb_715, by decide, by decide, by decide +kernel⟩
set_option maxHeartbeats 4000000 in
set_option maxRecDepth 20000 in
theorem V_X4_rankOf (l : Launch) (D : va_G) (A : Nat → Prop) (ad : Nat → Nat) (ns : List Nat) (I : MI) (L : ML) (G : MG) (a0 : Int32) (hI : INV I) : Met l yX4_rankOf (wd yX4_rankOf cX4_rankOf 1 (some .int)) ({ frames := 0, cells := 0, slots := 0, locals := 0 }) (va_Pc [.int a0] (PM D A ad ns I L G)) (va_Qi (fun r u => u = (ad, ns, I, L, G) ∧ (True)) (BM D A) A) 0 0 A := by
  refine m_ofW (by decide) (Nat.le_of_ble_eq_true rfl) ?_
  intro p e s m below meth c ls args hC hE hM hA hS hl
  obtain ⟨hx, hb, hml, hown, hts, hr, hlocks, hin⟩ := hC
  have k0 : (0 : Int32).toInt = 0 := by decide
  have k1 : (1 : Int32).toInt = 1 := by decide
  have k2 : (2 : Int32).toInt = 2 := by decide
  have k3 : (3 : Int32).toInt = 3 := by decide
  have k4 : (4 : Int32).toInt = 4 := by decide
  have k5 : (5 : Int32).toInt = 5 := by decide
  have k6 : (6 : Int32).toInt = 6 := by decide
  have hl : lv_has ls 1 [(0, .int (a0))] := hl
  refine lv_iload_n hx hb dX4_rankOf_0 rfl (lv_at hl 0 rfl) ?_
  by_cases c1 : (a0).toInt < -25 ∨ -14 < (a0).toInt
  · refine lv_tableOut (tgt := 75) hx hb dX4_rankOf_1 c1 (by decide) ?_
    refine lv_iconst (v := (4)) hx hb dX4_rankOf_75 (by decide) ?_
    exact m_iret hx hb hr hlocks hM hS (Nat.le_of_ble_eq_true rfl) (Nat.le_of_ble_eq_true rfl) ⟨rfl, trivial⟩ dX4_rankOf_76
  · have qc1 : (a0).toInt = -25 ∨ (a0).toInt = -24 ∨ (a0).toInt = -23 ∨ (a0).toInt = -22 ∨ (a0).toInt = -21 ∨ (a0).toInt = -20 ∨ (a0).toInt = -19 ∨ (a0).toInt = -18 ∨ (a0).toInt = -17 ∨ (a0).toInt = -16 ∨ (a0).toInt = -15 ∨ (a0).toInt = -14 := by omega
    rcases qc1 with qc1 | qc1 | qc1 | qc1 | qc1 | qc1 | qc1 | qc1 | qc1 | qc1 | qc1 | qc1
    · refine lv_tableIn (off := 63) (tgt := 64) hx hb dX4_rankOf_1 (by omega) (by omega) (by rw [qc1]; rfl) (by decide) ?_
      refine lv_iconst (v := (1)) hx hb dX4_rankOf_64 (by decide) ?_
      exact m_iret hx hb hr hlocks hM hS (Nat.le_of_ble_eq_true rfl) (Nat.le_of_ble_eq_true rfl) ⟨rfl, trivial⟩ dX4_rankOf_65
    · refine lv_tableIn (off := 65) (tgt := 66) hx hb dX4_rankOf_1 (by omega) (by omega) (by rw [qc1]; rfl) (by decide) ?_
      refine lv_iconst (v := (2)) hx hb dX4_rankOf_66 (by decide) ?_
      exact m_iret hx hb hr hlocks hM hS (Nat.le_of_ble_eq_true rfl) (Nat.le_of_ble_eq_true rfl) ⟨rfl, trivial⟩ dX4_rankOf_67
    · refine lv_tableIn (off := 74) (tgt := 75) hx hb dX4_rankOf_1 (by omega) (by omega) (by rw [qc1]; rfl) (by decide) ?_
      refine lv_iconst (v := (4)) hx hb dX4_rankOf_75 (by decide) ?_
      exact m_iret hx hb hr hlocks hM hS (Nat.le_of_ble_eq_true rfl) (Nat.le_of_ble_eq_true rfl) ⟨rfl, trivial⟩ dX4_rankOf_76
    · refine lv_tableIn (off := 74) (tgt := 75) hx hb dX4_rankOf_1 (by omega) (by omega) (by rw [qc1]; rfl) (by decide) ?_
      refine lv_iconst (v := (4)) hx hb dX4_rankOf_75 (by decide) ?_
      exact m_iret hx hb hr hlocks hM hS (Nat.le_of_ble_eq_true rfl) (Nat.le_of_ble_eq_true rfl) ⟨rfl, trivial⟩ dX4_rankOf_76
    · refine lv_tableIn (off := 74) (tgt := 75) hx hb dX4_rankOf_1 (by omega) (by omega) (by rw [qc1]; rfl) (by decide) ?_
      refine lv_iconst (v := (4)) hx hb dX4_rankOf_75 (by decide) ?_
      exact m_iret hx hb hr hlocks hM hS (Nat.le_of_ble_eq_true rfl) (Nat.le_of_ble_eq_true rfl) ⟨rfl, trivial⟩ dX4_rankOf_76
    · refine lv_tableIn (off := 74) (tgt := 75) hx hb dX4_rankOf_1 (by omega) (by omega) (by rw [qc1]; rfl) (by decide) ?_
      refine lv_iconst (v := (4)) hx hb dX4_rankOf_75 (by decide) ?_
      exact m_iret hx hb hr hlocks hM hS (Nat.le_of_ble_eq_true rfl) (Nat.le_of_ble_eq_true rfl) ⟨rfl, trivial⟩ dX4_rankOf_76
    · refine lv_tableIn (off := 74) (tgt := 75) hx hb dX4_rankOf_1 (by omega) (by omega) (by rw [qc1]; rfl) (by decide) ?_
      refine lv_iconst (v := (4)) hx hb dX4_rankOf_75 (by decide) ?_
      exact m_iret hx hb hr hlocks hM hS (Nat.le_of_ble_eq_true rfl) (Nat.le_of_ble_eq_true rfl) ⟨rfl, trivial⟩ dX4_rankOf_76
    · refine lv_tableIn (off := 71) (tgt := 72) hx hb dX4_rankOf_1 (by omega) (by omega) (by rw [qc1]; rfl) (by decide) ?_
      refine lv_bipush (v := (6)) hx hb dX4_rankOf_72 (by decide) ?_
      exact m_iret hx hb hr hlocks hM hS (Nat.le_of_ble_eq_true rfl) (Nat.le_of_ble_eq_true rfl) ⟨rfl, trivial⟩ dX4_rankOf_74
    · refine lv_tableIn (off := 71) (tgt := 72) hx hb dX4_rankOf_1 (by omega) (by omega) (by rw [qc1]; rfl) (by decide) ?_
      refine lv_bipush (v := (6)) hx hb dX4_rankOf_72 (by decide) ?_
      exact m_iret hx hb hr hlocks hM hS (Nat.le_of_ble_eq_true rfl) (Nat.le_of_ble_eq_true rfl) ⟨rfl, trivial⟩ dX4_rankOf_74
    · refine lv_tableIn (off := 69) (tgt := 70) hx hb dX4_rankOf_1 (by omega) (by omega) (by rw [qc1]; rfl) (by decide) ?_
      refine lv_iconst (v := (5)) hx hb dX4_rankOf_70 (by decide) ?_
      exact m_iret hx hb hr hlocks hM hS (Nat.le_of_ble_eq_true rfl) (Nat.le_of_ble_eq_true rfl) ⟨rfl, trivial⟩ dX4_rankOf_71
    · refine lv_tableIn (off := 69) (tgt := 70) hx hb dX4_rankOf_1 (by omega) (by omega) (by rw [qc1]; rfl) (by decide) ?_
      refine lv_iconst (v := (5)) hx hb dX4_rankOf_70 (by decide) ?_
      exact m_iret hx hb hr hlocks hM hS (Nat.le_of_ble_eq_true rfl) (Nat.le_of_ble_eq_true rfl) ⟨rfl, trivial⟩ dX4_rankOf_71
    · refine lv_tableIn (off := 67) (tgt := 68) hx hb dX4_rankOf_1 (by omega) (by omega) (by rw [qc1]; rfl) (by decide) ?_
      refine lv_iconst (v := (3)) hx hb dX4_rankOf_68 (by decide) ?_
      exact m_iret hx hb hr hlocks hM hS (Nat.le_of_ble_eq_true rfl) (Nat.le_of_ble_eq_true rfl) ⟨rfl, trivial⟩ dX4_rankOf_69
theorem dX4_byteAt_0 : decode cX4_byteAt 0 = .ok (.iload_n 1, 1) := by decide +kernel
theorem dX4_byteAt_1 : decode cX4_byteAt 1 = .ok (.ifCond .lt 31, 3) := by decide +kernel
theorem dX4_byteAt_4 : decode cX4_byteAt 4 = .ok (.iload_n 1, 1) := by decide +kernel
theorem dX4_byteAt_5 : decode cX4_byteAt 5 = .ok (.aload_n 0, 1) := by decide +kernel
theorem dX4_byteAt_6 : decode cX4_byteAt 6 = .ok (.getfield 25, 3) := by decide +kernel
theorem dX4_byteAt_9 : decode cX4_byteAt 9 = .ok (.if_icmp .ge 23, 3) := by decide +kernel
theorem dX4_byteAt_12 : decode cX4_byteAt 12 = .ok (.iload_n 1, 1) := by decide +kernel
theorem dX4_byteAt_13 : decode cX4_byteAt 13 = .ok (.sipush 400, 3) := by decide +kernel
theorem dX4_byteAt_16 : decode cX4_byteAt 16 = .ok (.if_icmp .ge 16, 3) := by decide +kernel
theorem dX4_byteAt_19 : decode cX4_byteAt 19 = .ok (.aload_n 0, 1) := by decide +kernel
theorem dX4_byteAt_20 : decode cX4_byteAt 20 = .ok (.getfield 9, 3) := by decide +kernel
theorem dX4_byteAt_23 : decode cX4_byteAt 23 = .ok (.iload_n 1, 1) := by decide +kernel
theorem dX4_byteAt_24 : decode cX4_byteAt 24 = .ok (.baload, 1) := by decide +kernel
theorem dX4_byteAt_25 : decode cX4_byteAt 25 = .ok (.sipush 255, 3) := by decide +kernel
theorem dX4_byteAt_28 : decode cX4_byteAt 28 = .ok (.iand, 1) := by decide +kernel
theorem dX4_byteAt_29 : decode cX4_byteAt 29 = .ok (.goto 5, 3) := by decide +kernel
theorem dX4_byteAt_32 : decode cX4_byteAt 32 = .ok (.bipush (-45), 2) := by decide +kernel
theorem dX4_byteAt_34 : decode cX4_byteAt 34 = .ok (.ireturn, 1) := by decide +kernel
theorem ce_X4_byteAt : CeV RX4 yX4_byteAt cX4_byteAt 2 (some .int) 1 := ⟨tb_579, tp_3, tb_9, tb_580, rfl, by decide, by decide, by decide +kernel⟩
set_option maxHeartbeats 4000000 in
set_option maxRecDepth 20000 in
theorem V_X4_byteAt (l : Launch) (D : va_G) (A : Nat → Prop) (ad : Nat → Nat) (ns : List Nat) (I : MI) (L : ML) (G : MG) (a0 : Int32) (hG : SGC ns G) (hI : INV I) : Met l yX4_byteAt (wd yX4_byteAt cX4_byteAt 2 (some .int)) ({ frames := 0, cells := 0, slots := 0, locals := 0 }) (va_Pc [.ref (ad (70)), .int a0] (PM D A ad ns I L G)) (va_Qi (fun r u => u = (ad, ns, I, L, G) ∧ (-45 ≤ r.toInt ∧ r.toInt ≤ 255)) (BM D A) A) 0 0 A := by
  refine m_ofW (by decide) (Nat.le_of_ble_eq_true rfl) ?_
  intro p e s m below meth c ls args hC hE hM hA hS hl
  obtain ⟨hx, hb, hml, hown, hts, hr, hlocks, hin⟩ := hC
  have km45 : (-45 : Int32).toInt = -45 := by decide
  have k0 : (0 : Int32).toInt = 0 := by decide
  have k255 : (255 : Int32).toInt = 255 := by decide
  have k400 : (400 : Int32).toInt = 400 := by decide
  have hl : lv_has ls 2 [(0, .ref (ad (70))), (1, .int (a0))] := hl
  refine lv_iload_n hx hb dX4_byteAt_0 rfl (lv_at hl 1 rfl) ?_
  refine lv_if_lt (tgt := 32) hx hb dX4_byteAt_1 (by decide) (fun c1 => ?_) (fun c1 => ?_)
  · have hc1 := c1
    have q1 := q_lt hc1
    refine lv_bipush (v := (-45)) hx hb dX4_byteAt_32 (by decide) ?_
    exact m_iret hx hb hr hlocks hM hS (Nat.le_of_ble_eq_true rfl) (Nat.le_of_ble_eq_true rfl) ⟨rfl, (by first | omega | decide)⟩ dX4_byteAt_34
  · have hc1 := c1
    have q1 := q_nlt hc1
    refine lv_iload_n hx hb dX4_byteAt_4 rfl (lv_at hl 1 rfl) ?_
    refine lv_aload_n hx hb dX4_byteAt_5 rfl (lv_at hl 0 rfl) ?_
    refine m_geti (70) 3 hx hb hts hown hE oc4 hM (hG.1 70 (by decide)) rfl (by decide) rfl tb_321 dX4_byteAt_6 ?_
    have g2 := hI.get (70) 3 (lo := 0) (hi := 400) rfl
    refine lv_icmp_ge (tgt := 32) hx hb dX4_byteAt_9 (by decide) (fun c3 => ?_) (fun c3 => ?_)
    · have hc3 := c3
      have q3 := q_le hc3
      refine lv_bipush (v := (-45)) hx hb dX4_byteAt_32 (by decide) ?_
      exact m_iret hx hb hr hlocks hM hS (Nat.le_of_ble_eq_true rfl) (Nat.le_of_ble_eq_true rfl) ⟨rfl, (by first | omega | decide)⟩ dX4_byteAt_34
    · have hc3 := c3
      have q3 := q_nle hc3
      refine lv_iload_n hx hb dX4_byteAt_12 rfl (lv_at hl 1 rfl) ?_
      refine lv_sipush (v := (400)) hx hb dX4_byteAt_13 (by decide) ?_
      refine lv_icmp_ge (tgt := 32) hx hb dX4_byteAt_16 (by decide) (fun c4 => ?_) (fun c4 => ?_)
      · have hc4 := c4
        have q4 := q_le hc4
        refine lv_bipush (v := (-45)) hx hb dX4_byteAt_32 (by decide) ?_
        exact m_iret hx hb hr hlocks hM hS (Nat.le_of_ble_eq_true rfl) (Nat.le_of_ble_eq_true rfl) ⟨rfl, (by first | omega | decide)⟩ dX4_byteAt_34
      · have hc4 := c4
        have q4 := q_nle hc4
        refine lv_aload_n hx hb dX4_byteAt_19 rfl (lv_at hl 0 rfl) ?_
        refine m_getr (70) 0 (71) hx hb hts hown hE oc4 hM (hG.1 70 (by decide)) rfl (by decide) rfl (hG.2 (70, 0, 71) (by decide)) (by decide) tb_318 dX4_byteAt_20 ?_
        refine lv_iload_n hx hb dX4_byteAt_23 rfl (lv_at hl 1 rfl) ?_
        refine m_bald (71) hx hb hE hM (hG.1 71 (by decide)) rfl (vp_in_iff.mpr (by omega)) dX4_byteAt_24 ?_
        have g5 := hI.get (71) ((a0).toNatClampNeg) (lo := -128) (hi := 127) rfl
        refine lv_sipush (v := (255)) hx hb dX4_byteAt_25 (by decide) ?_
        refine lv_iand hx hb dX4_byteAt_28 ?_
        refine lv_topi (fun v6 ev6 => ?_)
        have tv6 := a_and (c := 255) ev6 (by decide) (by decide)
        refine lv_goto (tgt := 34) hx hb dX4_byteAt_29 (by decide) ?_
        exact m_iret hx hb hr hlocks hM hS (Nat.le_of_ble_eq_true rfl) (Nat.le_of_ble_eq_true rfl) ⟨rfl, (by first | omega | decide)⟩ dX4_byteAt_34
theorem dX4_fail_0 : decode cX4_fail 0 = .ok (.aload_n 0, 1) := by decide +kernel
theorem dX4_fail_1 : decode cX4_fail 1 = .ok (.iconst 1, 1) := by decide +kernel
theorem dX4_fail_2 : decode cX4_fail 2 = .ok (.bipush 8, 2) := by decide +kernel
theorem dX4_fail_4 : decode cX4_fail 4 = .ok (.aload_n 0, 1) := by decide +kernel
theorem dX4_fail_5 : decode cX4_fail 5 = .ok (.getfield 29, 3) := by decide +kernel
theorem dX4_fail_8 : decode cX4_fail 8 = .ok (.imul, 1) := by decide +kernel
theorem dX4_fail_9 : decode cX4_fail 9 = .ok (.iadd, 1) := by decide +kernel
theorem dX4_fail_10 : decode cX4_fail 10 = .ok (.iload_n 1, 1) := by decide +kernel
theorem dX4_fail_11 : decode cX4_fail 11 = .ok (.iadd, 1) := by decide +kernel
theorem dX4_fail_12 : decode cX4_fail 12 = .ok (.putfield 44, 3) := by decide +kernel
theorem dX4_fail_15 : decode cX4_fail 15 = .ok (.return_, 1) := by decide +kernel
theorem ce_X4_fail : CeV RX4 yX4_fail cX4_fail 2 none 1 := ⟨tb_675, tp_11, tb_9, tb_676, rfl, by decide, by decide, by decide +kernel⟩
set_option maxHeartbeats 4000000 in
set_option maxRecDepth 20000 in
theorem V_X4_fail (l : Launch) (D : va_G) (A : Nat → Prop) (ad : Nat → Nat) (ns : List Nat) (I : MI) (L : ML) (G : MG) (a0 : Int32) (hG : SGC ns G) (hI : INV I) : Met l yX4_fail (wd yX4_fail cX4_fail 2 none) ({ frames := 0, cells := 0, slots := 0, locals := 0 }) (va_Pc [.ref (ad (70)), .int a0] (PM D A ad ns I L G)) (va_Qv (fun u => ∃ I2 L2, u = (ad, ns, I2, L2, G) ∧ INV I2 ∧ Kp [] [(70, 12)] I I2) (BM D A) A) 0 0 A := by
  refine m_ofW (by decide) (Nat.le_of_ble_eq_true rfl) ?_
  intro p e s m below meth c ls args hC hE hM hA hS hl
  obtain ⟨hx, hb, hml, hown, hts, hr, hlocks, hin⟩ := hC
  have k0 : (0 : Int32).toInt = 0 := by decide
  have k1 : (1 : Int32).toInt = 1 := by decide
  have k8 : (8 : Int32).toInt = 8 := by decide
  have hK : Kp [] [(70, 12)] I I := Kp.rf
  have hl : lv_has ls 2 [(0, .ref (ad (70))), (1, .int (a0))] := hl
  refine lv_aload_n hx hb dX4_fail_0 rfl (lv_at hl 0 rfl) ?_
  refine lv_iconst (v := (1)) hx hb dX4_fail_1 (by decide) ?_
  refine lv_bipush (v := (8)) hx hb dX4_fail_2 (by decide) ?_
  refine lv_aload_n hx hb dX4_fail_4 rfl (lv_at hl 0 rfl) ?_
  refine m_geti (70) 4 hx hb hts hown hE oc4 hM (hG.1 70 (by decide)) rfl (by decide) rfl tb_322 dX4_fail_5 ?_
  have g1 := hI.get (70) 4 (lo := 0) (hi := 801) rfl
  refine lv_imul hx hb dX4_fail_8 ?_
  refine lv_topi (fun v2 ev2 => ?_)
  have tv2 := a_mulL (c := 8) ev2 (by decide) (by omega) (by omega)
  refine lv_iadd hx hb dX4_fail_9 ?_
  refine lv_topi (fun v3 ev3 => ?_)
  have tv3 := a_add ev3 (by omega) (by omega)
  refine lv_iload_n hx hb dX4_fail_10 rfl (lv_at hl 1 rfl) ?_
  refine lv_iadd hx hb dX4_fail_11 ?_
  refine lv_topi (fun v4 ev4 => ?_)
  refine m_puti (70) 12 hx hb hts hown hE oc4 hM hS (hG.1 70 (by decide)) rfl (by decide) rfl rfl rfl rfl tb_330 dX4_fail_12 (fun H locs I5 eI5 hM hS => ?_)
  subst eI5
  have hI := hI.putF (n := 70) (k := 12) (v := v4) rfl
  have hK := hK.put (n := 70) (k := 12) (v := v4) (by first | rfl | simp [inR])
  exact m_vret hx hb hr hlocks hM hS (Nat.le_of_ble_eq_true rfl) (Nat.le_of_ble_eq_true rfl) ⟨_, _, rfl, hI, hK⟩ dX4_fail_15
theorem dX4_countsOneMore_0 : decode cX4_countsOneMore 0 = .ok (.aload_n 0, 1) := by decide +kernel
theorem dX4_countsOneMore_1 : decode cX4_countsOneMore 1 = .ok (.getfield 41, 3) := by decide +kernel
theorem dX4_countsOneMore_4 : decode cX4_countsOneMore 4 = .ok (.bipush 60, 2) := by decide +kernel
theorem dX4_countsOneMore_6 : decode cX4_countsOneMore 6 = .ok (.if_icmp .lt 10, 3) := by decide +kernel
theorem dX4_countsOneMore_9 : decode cX4_countsOneMore 9 = .ok (.aload_n 0, 1) := by decide +kernel
theorem dX4_countsOneMore_10 : decode cX4_countsOneMore 10 = .ok (.iconst 3, 1) := by decide +kernel
theorem dX4_countsOneMore_11 : decode cX4_countsOneMore 11 = .ok (.invokevirtual 86, 3) := by decide +kernel
theorem dX4_countsOneMore_14 : decode cX4_countsOneMore 14 = .ok (.iconst 0, 1) := by decide +kernel
theorem dX4_countsOneMore_15 : decode cX4_countsOneMore 15 = .ok (.ireturn, 1) := by decide +kernel
theorem dX4_countsOneMore_16 : decode cX4_countsOneMore 16 = .ok (.aload_n 0, 1) := by decide +kernel
theorem dX4_countsOneMore_17 : decode cX4_countsOneMore 17 = .ok (.dup, 1) := by decide +kernel
theorem dX4_countsOneMore_18 : decode cX4_countsOneMore 18 = .ok (.getfield 41, 3) := by decide +kernel
theorem dX4_countsOneMore_21 : decode cX4_countsOneMore 21 = .ok (.iconst 1, 1) := by decide +kernel
theorem dX4_countsOneMore_22 : decode cX4_countsOneMore 22 = .ok (.iadd, 1) := by decide +kernel
theorem dX4_countsOneMore_23 : decode cX4_countsOneMore 23 = .ok (.putfield 41, 3) := by decide +kernel
theorem dX4_countsOneMore_26 : decode cX4_countsOneMore 26 = .ok (.iconst 1, 1) := by decide +kernel
theorem dX4_countsOneMore_27 : decode cX4_countsOneMore 27 = .ok (.ireturn, 1) := by decide +kernel
theorem ce_X4_countsOneMore : CeV RX4 yX4_countsOneMore cX4_countsOneMore 1 (some .boolean) 0 := ⟨tb_695, tp_15, tb_9, tb_696, rfl, by decide, by decide, by decide +kernel⟩
set_option maxHeartbeats 4000000 in
set_option maxRecDepth 20000 in
theorem V_X4_countsOneMore (l : Launch) (D : va_G) (A : Nat → Prop) (ad : Nat → Nat) (ns : List Nat) (I : MI) (L : ML) (G : MG) (hG : SGC ns G) (hI : INV I) : Met l yX4_countsOneMore (wd yX4_countsOneMore cX4_countsOneMore 1 (some .boolean)) ({ frames := 1, cells := 0, slots := 0, locals := 21 }) (va_Pc [.ref (ad (70))] (PM D A ad ns I L G)) (va_Qi (fun r u => ∃ I2 L2, u = (ad, ns, I2, L2, G) ∧ INV I2 ∧ Kp [] [(70, 11), (70, 12)] I I2 ∧ (0 ≤ r.toInt ∧ r.toInt ≤ 1)) (BM D A) A) 0 0 A := by
  refine m_ofW (by decide) (Nat.le_of_ble_eq_true rfl) ?_
  intro p e s m below meth c ls args hC hE hM hA hS hl
  obtain ⟨hx, hb, hml, hown, hts, hr, hlocks, hin⟩ := hC
  have k0 : (0 : Int32).toInt = 0 := by decide
  have k1 : (1 : Int32).toInt = 1 := by decide
  have k3 : (3 : Int32).toInt = 3 := by decide
  have k60 : (60 : Int32).toInt = 60 := by decide
  have hK : Kp [] [(70, 11), (70, 12)] I I := Kp.rf
  have hl : lv_has ls 1 [(0, .ref (ad (70)))] := hl
  refine lv_aload_n hx hb dX4_countsOneMore_0 rfl (lv_at hl 0 rfl) ?_
  refine m_geti (70) 11 hx hb hts hown hE oc4 hM (hG.1 70 (by decide)) rfl (by decide) rfl tb_329 dX4_countsOneMore_1 ?_
  refine lv_bipush (v := (60)) hx hb dX4_countsOneMore_4 (by decide) ?_
  refine lv_icmp_lt (tgt := 16) hx hb dX4_countsOneMore_6 (by decide) (fun c1 => ?_) (fun c1 => ?_)
  · have hc1 := c1
    have q1 := q_lt hc1
    refine lv_aload_n hx hb dX4_countsOneMore_16 rfl (lv_at hl 0 rfl) ?_
    refine lv_dup hx hb dX4_countsOneMore_17 rfl ?_
    refine m_geti (70) 11 hx hb hts hown hE oc4 hM (hG.1 70 (by decide)) rfl (by decide) rfl tb_329 dX4_countsOneMore_18 ?_
    refine lv_iconst (v := (1)) hx hb dX4_countsOneMore_21 (by decide) ?_
    refine lv_iadd hx hb dX4_countsOneMore_22 ?_
    refine lv_topi (fun v2 ev2 => ?_)
    refine m_puti (70) 11 hx hb hts hown hE oc4 hM hS (hG.1 70 (by decide)) rfl (by decide) rfl rfl rfl rfl tb_329 dX4_countsOneMore_23 (fun H locs I3 eI3 hM hS => ?_)
    subst eI3
    have hI := hI.putF (n := 70) (k := 11) (v := v2) rfl
    have hK := hK.put (n := 70) (k := 11) (v := v2) (by first | rfl | simp [inR])
    refine lv_iconst (v := (1)) hx hb dX4_countsOneMore_26 (by decide) ?_
    exact m_zret hx hb hr rfl hlocks hM hS (Nat.le_of_ble_eq_true rfl) (Nat.le_of_ble_eq_true rfl) ⟨_, _, rfl, hI, hK, (by first | omega | decide)⟩ dX4_countsOneMore_27
  · have hc1 := c1
    have q1 := q_nlt hc1
    refine lv_aload_n hx hb dX4_countsOneMore_9 rfl (lv_at hl 0 rfl) ?_
    refine lv_iconst (v := (3)) hx hb dX4_countsOneMore_10 (by decide) ?_
    refine m_callv (m_runV (70) (As := [.int (3)]) (rest := []) hx hb hml hown hts hE hM hS hA ce_X4_fail tb_673 (V_X4_fail l D A ad ns I L G (3) hG hI) rfl rfl ⟨Nat.le_of_ble_eq_true rfl, Nat.le_of_ble_eq_true rfl⟩ (hG.1 70 (by decide)) rfl rfl (by decide) rfl hl.1 rfl (Nat.le_of_ble_eq_true rfl) dX4_countsOneMore_11 ⟨Nat.le_of_ble_eq_true rfl, Nat.le_of_ble_eq_true rfl⟩) hS (fun u H locs hw hM hS => ?_)
    obtain ⟨I4, L5, rfl, hI, hkI4⟩ := hw
    have hM : Mem D A ad ns I4 L5 G H := hM
    have hK := hK.trans hkI4 rfl
    refine lv_iconst (v := (0)) hx hb dX4_countsOneMore_14 (by decide) ?_
    exact m_zret hx hb hr rfl hlocks hM hS (Nat.le_of_ble_eq_true rfl) (Nat.le_of_ble_eq_true rfl) ⟨_, _, rfl, hI, hK, (by first | omega | decide)⟩ dX4_countsOneMore_15
theorem dX4_push_0 : decode cX4_push 0 = .ok (.aload_n 0, 1) := by decide +kernel
theorem dX4_push_1 : decode cX4_push 1 = .ok (.getfield 32, 3) := by decide +kernel
theorem dX4_push_4 : decode cX4_push 4 = .ok (.bipush 64, 2) := by decide +kernel
theorem dX4_push_6 : decode cX4_push 6 = .ok (.if_icmp .ge 23, 3) := by decide +kernel
theorem dX4_push_9 : decode cX4_push 9 = .ok (.aload_n 0, 1) := by decide +kernel
theorem dX4_push_10 : decode cX4_push 10 = .ok (.getfield 15, 3) := by decide +kernel
theorem dX4_push_13 : decode cX4_push 13 = .ok (.aload_n 0, 1) := by decide +kernel
theorem dX4_push_14 : decode cX4_push 14 = .ok (.getfield 32, 3) := by decide +kernel
theorem dX4_push_17 : decode cX4_push 17 = .ok (.iload_n 1, 1) := by decide +kernel
theorem dX4_push_18 : decode cX4_push 18 = .ok (.iastore, 1) := by decide +kernel
theorem dX4_push_19 : decode cX4_push 19 = .ok (.aload_n 0, 1) := by decide +kernel
theorem dX4_push_20 : decode cX4_push 20 = .ok (.dup, 1) := by decide +kernel
theorem dX4_push_21 : decode cX4_push 21 = .ok (.getfield 32, 3) := by decide +kernel
theorem dX4_push_24 : decode cX4_push 24 = .ok (.iconst 1, 1) := by decide +kernel
theorem dX4_push_25 : decode cX4_push 25 = .ok (.iadd, 1) := by decide +kernel
theorem dX4_push_26 : decode cX4_push 26 = .ok (.putfield 32, 3) := by decide +kernel
theorem dX4_push_29 : decode cX4_push 29 = .ok (.return_, 1) := by decide +kernel
theorem ce_X4_push : CeV RX4 yX4_push cX4_push 2 none 1 := ⟨tb_703, tp_16, tb_9, tb_704, rfl, by decide, by decide, by decide +kernel⟩
set_option maxHeartbeats 4000000 in
set_option maxRecDepth 20000 in
theorem V_X4_push (l : Launch) (D : va_G) (A : Nat → Prop) (ad : Nat → Nat) (ns : List Nat) (I : MI) (L : ML) (G : MG) (a0 : Int32) (hG : SGC ns G) (hI : INV I) : Met l yX4_push (wd yX4_push cX4_push 2 none) ({ frames := 0, cells := 0, slots := 0, locals := 0 }) (va_Pc [.ref (ad (70)), .int a0] (PM D A ad ns I L G)) (va_Qv (fun u => ∃ I2 L2, u = (ad, ns, I2, L2, G) ∧ INV I2 ∧ Kp [(72, 73)] [(70, 2)] I I2) (BM D A) A) 0 0 A := by
  refine m_ofW (by decide) (Nat.le_of_ble_eq_true rfl) ?_
  intro p e s m below meth c ls args hC hE hM hA hS hl
  obtain ⟨hx, hb, hml, hown, hts, hr, hlocks, hin⟩ := hC
  have k0 : (0 : Int32).toInt = 0 := by decide
  have k1 : (1 : Int32).toInt = 1 := by decide
  have k64 : (64 : Int32).toInt = 64 := by decide
  have hK : Kp [(72, 73)] [(70, 2)] I I := Kp.rf
  have hl : lv_has ls 2 [(0, .ref (ad (70))), (1, .int (a0))] := hl
  refine lv_aload_n hx hb dX4_push_0 rfl (lv_at hl 0 rfl) ?_
  refine m_geti (70) 2 hx hb hts hown hE oc4 hM (hG.1 70 (by decide)) rfl (by decide) rfl tb_320 dX4_push_1 ?_
  have g1 := hI.get (70) 2 (lo := 0) (hi := 64) rfl
  refine lv_bipush (v := (64)) hx hb dX4_push_4 (by decide) ?_
  refine lv_icmp_ge (tgt := 29) hx hb dX4_push_6 (by decide) (fun c2 => ?_) (fun c2 => ?_)
  · have hc2 := c2
    have q2 := q_le hc2
    exact m_vret hx hb hr hlocks hM hS (Nat.le_of_ble_eq_true rfl) (Nat.le_of_ble_eq_true rfl) ⟨_, _, rfl, hI, hK⟩ dX4_push_29
  · have hc2 := c2
    have q2 := q_nle hc2
    refine lv_aload_n hx hb dX4_push_9 rfl (lv_at hl 0 rfl) ?_
    refine m_getr (70) 1 (72) hx hb hts hown hE oc4 hM (hG.1 70 (by decide)) rfl (by decide) rfl (hG.2 (70, 1, 72) (by decide)) (by decide) tb_319 dX4_push_10 ?_
    refine lv_aload_n hx hb dX4_push_13 rfl (lv_at hl 0 rfl) ?_
    refine m_geti (70) 2 hx hb hts hown hE oc4 hM (hG.1 70 (by decide)) rfl (by decide) rfl tb_320 dX4_push_14 ?_
    refine lv_iload_n hx hb dX4_push_17 rfl (lv_at hl 1 rfl) ?_
    refine m_iast (72) hx hb hE hM hS (hG.1 72 (by decide)) rfl (vp_in_iff.mpr (by omega)) dX4_push_18 (fun H locs I3 eI3 hM hS => ?_)
    subst eI3
    have hI := hI.putF (n := 72) (k := ((I (70) 2).toNatClampNeg)) (v := a0) rfl
    have hK := hK.put (n := 72) (k := ((I (70) 2).toNatClampNeg)) (v := a0) (by first | rfl | simp [inR])
    refine lv_aload_n hx hb dX4_push_19 rfl (lv_at hl 0 rfl) ?_
    refine lv_dup hx hb dX4_push_20 rfl ?_
    refine m_geti (70) 2 hx hb hts hown hE oc4 hM (hG.1 70 (by decide)) rfl (by decide) rfl tb_320 dX4_push_21 ?_
    have z4 : (u2 I (72) ((I (70) 2).toNatClampNeg) (a0)) (70) 2 = I (70) 2 := (show (u2 I (72) ((I (70) 2).toNatClampNeg) (a0)) (70) 2 = I (70) 2 from by simp [u2_v])
    rw [z4]
    refine lv_iconst (v := (1)) hx hb dX4_push_24 (by decide) ?_
    refine lv_iadd hx hb dX4_push_25 ?_
    refine lv_topi (fun v5 ev5 => ?_)
    have tv5 := a_add ev5 (by omega) (by omega)
    refine m_puti (70) 2 hx hb hts hown hE oc4 hM hS (hG.1 70 (by decide)) rfl (by decide) rfl rfl rfl rfl tb_320 dX4_push_26 (fun H locs I6 eI6 hM hS => ?_)
    subst eI6
    have hI := hI.put (n := 70) (k := 2) (v := v5) (lo := 0) (hi := 64) rfl (by first | omega | decide)
    have hK := hK.put (n := 70) (k := 2) (v := v5) (by first | rfl | simp [inR])
    exact m_vret hx hb hr hlocks hM hS (Nat.le_of_ble_eq_true rfl) (Nat.le_of_ble_eq_true rfl) ⟨_, _, rfl, hI, hK⟩ dX4_push_29
theorem dX4_yardHere_0 : decode cX4_yardHere 0 = .ok (.aload_n 0, 1) := by decide +kernel
theorem dX4_yardHere_1 : decode cX4_yardHere 1 = .ok (.aload_n 0, 1) := by decide +kernel
theorem dX4_yardHere_2 : decode cX4_yardHere 2 = .ok (.getfield 29, 3) := by decide +kernel
theorem dX4_yardHere_5 : decode cX4_yardHere 5 = .ok (.invokevirtual 132, 3) := by decide +kernel
theorem dX4_yardHere_8 : decode cX4_yardHere 8 = .ok (.bipush 97, 2) := by decide +kernel
theorem dX4_yardHere_10 : decode cX4_yardHere 10 = .ok (.isub, 1) := by decide +kernel
theorem dX4_yardHere_11 : decode cX4_yardHere 11 = .ok (.istore_n 1, 1) := by decide +kernel
theorem dX4_yardHere_12 : decode cX4_yardHere 12 = .ok (.iload_n 1, 1) := by decide +kernel
theorem dX4_yardHere_13 : decode cX4_yardHere 13 = .ok (.bipush 8, 2) := by decide +kernel
theorem dX4_yardHere_15 : decode cX4_yardHere 15 = .ok (.if_icmp .ge 10, 3) := by decide +kernel
theorem dX4_yardHere_18 : decode cX4_yardHere 18 = .ok (.bipush (-6), 2) := by decide +kernel
theorem dX4_yardHere_20 : decode cX4_yardHere 20 = .ok (.iload_n 1, 1) := by decide +kernel
theorem dX4_yardHere_21 : decode cX4_yardHere 21 = .ok (.isub, 1) := by decide +kernel
theorem dX4_yardHere_22 : decode cX4_yardHere 22 = .ok (.goto 5, 3) := by decide +kernel
theorem dX4_yardHere_25 : decode cX4_yardHere 25 = .ok (.bipush (-47), 2) := by decide +kernel
theorem dX4_yardHere_27 : decode cX4_yardHere 27 = .ok (.ireturn, 1) := by decide +kernel
theorem ce_X4_yardHere : CeV RX4 yX4_yardHere cX4_yardHere 2 (some .int) 0 := ⟨tb_593, tp_5, tb_9, tb_594, rfl, by decide, by decide, by decide +kernel⟩
set_option maxHeartbeats 4000000 in
set_option maxRecDepth 20000 in
theorem V_X4_yardHere (l : Launch) (D : va_G) (A : Nat → Prop) (ad : Nat → Nat) (ns : List Nat) (I : MI) (L : ML) (G : MG) (hG : SGC ns G) (hI : INV I) : Met l yX4_yardHere (wd yX4_yardHere cX4_yardHere 2 (some .int)) ({ frames := 1, cells := 0, slots := 0, locals := 21 }) (va_Pc [.ref (ad (70))] (PM D A ad ns I L G)) (va_Qi (fun r u => u = (ad, ns, I, L, G) ∧ (True)) (BM D A) A) 0 0 A := by
  refine m_ofW (by decide) (Nat.le_of_ble_eq_true rfl) ?_
  intro p e s m below meth c ls args hC hE hM hA hS hl
  obtain ⟨hx, hb, hml, hown, hts, hr, hlocks, hin⟩ := hC
  have km47 : (-47 : Int32).toInt = -47 := by decide
  have km6 : (-6 : Int32).toInt = -6 := by decide
  have k0 : (0 : Int32).toInt = 0 := by decide
  have k8 : (8 : Int32).toInt = 8 := by decide
  have k97 : (97 : Int32).toInt = 97 := by decide
  have hl : lv_has ls 2 [(0, .ref (ad (70)))] := hl
  refine lv_aload_n hx hb dX4_yardHere_0 rfl (lv_at hl 0 rfl) ?_
  refine lv_aload_n hx hb dX4_yardHere_1 rfl (lv_at hl 0 rfl) ?_
  refine m_geti (70) 4 hx hb hts hown hE oc4 hM (hG.1 70 (by decide)) rfl (by decide) rfl tb_322 dX4_yardHere_2 ?_
  have g1 := hI.get (70) 4 (lo := 0) (hi := 801) rfl
  refine m_calli (m_runV (70) (As := [.int (I (70) 4)]) (rest := []) hx hb hml hown hts hE hM hS hA ce_X4_byteAt tb_577 (V_X4_byteAt l D A ad ns I L G (I (70) 4) hG hI) rfl rfl ⟨Nat.le_of_ble_eq_true rfl, Nat.le_of_ble_eq_true rfl⟩ (hG.1 70 (by decide)) rfl rfl (by decide) rfl hl.1 rfl (Nat.le_of_ble_eq_true rfl) dX4_yardHere_5 ⟨Nat.le_of_ble_eq_true rfl, Nat.le_of_ble_eq_true rfl⟩) hS (fun r2 u H locs hw hM hS => ?_)
  obtain ⟨rfl, xr2⟩ := hw
  have hM : Mem D A ad ns I L G H := hM
  refine lv_bipush (v := (97)) hx hb dX4_yardHere_8 (by decide) ?_
  refine lv_isub hx hb dX4_yardHere_10 ?_
  refine lv_topi (fun v3 ev3 => ?_)
  have tv3 := a_sub ev3 (by omega) (by omega)
  refine lv_istore_n (lv' := [(1, .int (v3)), (0, .ref (ad (70)))]) hx hb dX4_yardHere_11 rfl hl (by decide) rfl (fun ls hl => ?_)
  refine lv_iload_n hx hb dX4_yardHere_12 rfl (lv_at hl 0 rfl) ?_
  refine lv_bipush (v := (8)) hx hb dX4_yardHere_13 (by decide) ?_
  refine lv_icmp_ge (tgt := 25) hx hb dX4_yardHere_15 (by decide) (fun c4 => ?_) (fun c4 => ?_)
  · have hc4 := c4
    have q4 := q_le hc4
    refine lv_bipush (v := (-47)) hx hb dX4_yardHere_25 (by decide) ?_
    exact m_iret hx hb hr hlocks hM hS (Nat.le_of_ble_eq_true rfl) (Nat.le_of_ble_eq_true rfl) ⟨rfl, trivial⟩ dX4_yardHere_27
  · have hc4 := c4
    have q4 := q_nle hc4
    refine lv_bipush (v := (-6)) hx hb dX4_yardHere_18 (by decide) ?_
    refine lv_iload_n hx hb dX4_yardHere_20 rfl (lv_at hl 0 rfl) ?_
    refine lv_isub hx hb dX4_yardHere_21 ?_
    refine lv_topi (fun v5 ev5 => ?_)
    have tv5 := a_sub ev5 (by omega) (by omega)
    refine lv_goto (tgt := 27) hx hb dX4_yardHere_22 (by decide) ?_
    exact m_iret hx hb hr hlocks hM hS (Nat.le_of_ble_eq_true rfl) (Nat.le_of_ble_eq_true rfl) ⟨rfl, trivial⟩ dX4_yardHere_27
theorem dX4_signHere_0 : decode cX4_signHere 0 = .ok (.aload_n 0, 1) := by decide +kernel
theorem dX4_signHere_1 : decode cX4_signHere 1 = .ok (.aload_n 0, 1) := by decide +kernel
theorem dX4_signHere_2 : decode cX4_signHere 2 = .ok (.getfield 29, 3) := by decide +kernel
theorem dX4_signHere_5 : decode cX4_signHere 5 = .ok (.iconst 1, 1) := by decide +kernel
theorem dX4_signHere_6 : decode cX4_signHere 6 = .ok (.iadd, 1) := by decide +kernel
theorem dX4_signHere_7 : decode cX4_signHere 7 = .ok (.invokevirtual 132, 3) := by decide +kernel
theorem dX4_signHere_10 : decode cX4_signHere 10 = .ok (.bipush 61, 2) := by decide +kernel
theorem dX4_signHere_12 : decode cX4_signHere 12 = .ok (.if_icmp .ne 7, 3) := by decide +kernel
theorem dX4_signHere_15 : decode cX4_signHere 15 = .ok (.iconst 1, 1) := by decide +kernel
theorem dX4_signHere_16 : decode cX4_signHere 16 = .ok (.goto 4, 3) := by decide +kernel
theorem dX4_signHere_19 : decode cX4_signHere 19 = .ok (.iconst 0, 1) := by decide +kernel
theorem dX4_signHere_20 : decode cX4_signHere 20 = .ok (.istore_n 1, 1) := by decide +kernel
theorem dX4_signHere_21 : decode cX4_signHere 21 = .ok (.aload_n 0, 1) := by decide +kernel
theorem dX4_signHere_22 : decode cX4_signHere 22 = .ok (.aload_n 0, 1) := by decide +kernel
theorem dX4_signHere_23 : decode cX4_signHere 23 = .ok (.getfield 29, 3) := by decide +kernel
theorem dX4_signHere_26 : decode cX4_signHere 26 = .ok (.invokevirtual 132, 3) := by decide +kernel
theorem dX4_signHere_29 : decode cX4_signHere 29 = .ok (.lookupswitch 139 #[(42, 97), (43, 91), (45, 94), (47, 100), (59, 136), (60, 103), (61, 115), (62, 118), (91, 130), (93, 133)], 91) := by decide +kernel
theorem dX4_signHere_120 : decode cX4_signHere 120 = .ok (.bipush (-15), 2) := by decide +kernel
theorem dX4_signHere_122 : decode cX4_signHere 122 = .ok (.ireturn, 1) := by decide +kernel
theorem dX4_signHere_123 : decode cX4_signHere 123 = .ok (.bipush (-16), 2) := by decide +kernel
theorem dX4_signHere_125 : decode cX4_signHere 125 = .ok (.ireturn, 1) := by decide +kernel
theorem dX4_signHere_126 : decode cX4_signHere 126 = .ok (.bipush (-17), 2) := by decide +kernel
theorem dX4_signHere_128 : decode cX4_signHere 128 = .ok (.ireturn, 1) := by decide +kernel
theorem dX4_signHere_129 : decode cX4_signHere 129 = .ok (.bipush (-18), 2) := by decide +kernel
theorem dX4_signHere_131 : decode cX4_signHere 131 = .ok (.ireturn, 1) := by decide +kernel
theorem dX4_signHere_132 : decode cX4_signHere 132 = .ok (.iload_n 1, 1) := by decide +kernel
theorem dX4_signHere_133 : decode cX4_signHere 133 = .ok (.ifCond .eq 8, 3) := by decide +kernel
theorem dX4_signHere_136 : decode cX4_signHere 136 = .ok (.bipush (-20), 2) := by decide +kernel
theorem dX4_signHere_138 : decode cX4_signHere 138 = .ok (.goto 5, 3) := by decide +kernel
theorem dX4_signHere_141 : decode cX4_signHere 141 = .ok (.bipush (-19), 2) := by decide +kernel
theorem dX4_signHere_143 : decode cX4_signHere 143 = .ok (.ireturn, 1) := by decide +kernel
theorem dX4_signHere_144 : decode cX4_signHere 144 = .ok (.bipush (-21), 2) := by decide +kernel
theorem dX4_signHere_146 : decode cX4_signHere 146 = .ok (.ireturn, 1) := by decide +kernel
theorem dX4_signHere_147 : decode cX4_signHere 147 = .ok (.iload_n 1, 1) := by decide +kernel
theorem dX4_signHere_148 : decode cX4_signHere 148 = .ok (.ifCond .eq 8, 3) := by decide +kernel
theorem dX4_signHere_151 : decode cX4_signHere 151 = .ok (.bipush (-22), 2) := by decide +kernel
theorem dX4_signHere_153 : decode cX4_signHere 153 = .ok (.goto 5, 3) := by decide +kernel
theorem dX4_signHere_156 : decode cX4_signHere 156 = .ok (.bipush (-23), 2) := by decide +kernel
theorem dX4_signHere_158 : decode cX4_signHere 158 = .ok (.ireturn, 1) := by decide +kernel
theorem dX4_signHere_159 : decode cX4_signHere 159 = .ok (.bipush (-42), 2) := by decide +kernel
theorem dX4_signHere_161 : decode cX4_signHere 161 = .ok (.ireturn, 1) := by decide +kernel
theorem dX4_signHere_162 : decode cX4_signHere 162 = .ok (.bipush (-43), 2) := by decide +kernel
theorem dX4_signHere_164 : decode cX4_signHere 164 = .ok (.ireturn, 1) := by decide +kernel
theorem dX4_signHere_165 : decode cX4_signHere 165 = .ok (.bipush (-44), 2) := by decide +kernel
theorem dX4_signHere_167 : decode cX4_signHere 167 = .ok (.ireturn, 1) := by decide +kernel
theorem dX4_signHere_168 : decode cX4_signHere 168 = .ok (.bipush (-47), 2) := by decide +kernel
theorem dX4_signHere_170 : decode cX4_signHere 170 = .ok (.ireturn, 1) := by decide +kernel
theorem ce_X4_signHere : CeV RX4 yX4_signHere cX4_signHere 2 (some .int) 0 := ⟨tb_663, tp_8, tb_9, tb_664, rfl, by decide, by decide, by decide +kernel⟩
set_option maxHeartbeats 4000000 in
set_option maxRecDepth 20000 in
theorem V_X4_signHere (l : Launch) (D : va_G) (A : Nat → Prop) (ad : Nat → Nat) (ns : List Nat) (I : MI) (L : ML) (G : MG) (hG : SGC ns G) (hI : INV I) : Met l yX4_signHere (wd yX4_signHere cX4_signHere 2 (some .int)) ({ frames := 1, cells := 0, slots := 0, locals := 21 }) (va_Pc [.ref (ad (70))] (PM D A ad ns I L G)) (va_Qi (fun r u => u = (ad, ns, I, L, G) ∧ (True)) (BM D A) A) 0 0 A := by
  refine m_ofW (by decide) (Nat.le_of_ble_eq_true rfl) ?_
  intro p e s m below meth c ls args hC hE hM hA hS hl
  obtain ⟨hx, hb, hml, hown, hts, hr, hlocks, hin⟩ := hC
  have km47 : (-47 : Int32).toInt = -47 := by decide
  have km44 : (-44 : Int32).toInt = -44 := by decide
  have km43 : (-43 : Int32).toInt = -43 := by decide
  have km42 : (-42 : Int32).toInt = -42 := by decide
  have km23 : (-23 : Int32).toInt = -23 := by decide
  have km22 : (-22 : Int32).toInt = -22 := by decide
  have km21 : (-21 : Int32).toInt = -21 := by decide
  have km20 : (-20 : Int32).toInt = -20 := by decide
  have km19 : (-19 : Int32).toInt = -19 := by decide
  have km18 : (-18 : Int32).toInt = -18 := by decide
  have km17 : (-17 : Int32).toInt = -17 := by decide
  have km16 : (-16 : Int32).toInt = -16 := by decide
  have km15 : (-15 : Int32).toInt = -15 := by decide
  have k0 : (0 : Int32).toInt = 0 := by decide
  have k1 : (1 : Int32).toInt = 1 := by decide
  have k61 : (61 : Int32).toInt = 61 := by decide
  have hl : lv_has ls 2 [(0, .ref (ad (70)))] := hl
  refine lv_aload_n hx hb dX4_signHere_0 rfl (lv_at hl 0 rfl) ?_
  refine lv_aload_n hx hb dX4_signHere_1 rfl (lv_at hl 0 rfl) ?_
  refine m_geti (70) 4 hx hb hts hown hE oc4 hM (hG.1 70 (by decide)) rfl (by decide) rfl tb_322 dX4_signHere_2 ?_
  have g1 := hI.get (70) 4 (lo := 0) (hi := 801) rfl
  refine lv_iconst (v := (1)) hx hb dX4_signHere_5 (by decide) ?_
  refine lv_iadd hx hb dX4_signHere_6 ?_
  refine lv_topi (fun v2 ev2 => ?_)
  have tv2 := a_add ev2 (by omega) (by omega)
  refine m_calli (m_runV (70) (As := [.int (v2)]) (rest := []) hx hb hml hown hts hE hM hS hA ce_X4_byteAt tb_577 (V_X4_byteAt l D A ad ns I L G (v2) hG hI) rfl rfl ⟨Nat.le_of_ble_eq_true rfl, Nat.le_of_ble_eq_true rfl⟩ (hG.1 70 (by decide)) rfl rfl (by decide) rfl hl.1 rfl (Nat.le_of_ble_eq_true rfl) dX4_signHere_7 ⟨Nat.le_of_ble_eq_true rfl, Nat.le_of_ble_eq_true rfl⟩) hS (fun r3 u H locs hw hM hS => ?_)
  obtain ⟨rfl, xr3⟩ := hw
  have hM : Mem D A ad ns I L G H := hM
  refine lv_bipush (v := (61)) hx hb dX4_signHere_10 (by decide) ?_
  refine lv_icmp_ne (tgt := 19) hx hb dX4_signHere_12 (by decide) (fun c4 => ?_) (fun c4 => ?_)
  · have hc4 := c4
    have q4 := q_ne hc4
    refine lv_iconst (v := (0)) hx hb dX4_signHere_19 (by decide) ?_
    refine lv_istore_n (lv' := [(1, .int (0)), (0, .ref (ad (70)))]) hx hb dX4_signHere_20 rfl hl (by decide) rfl (fun ls hl => ?_)
    refine lv_aload_n hx hb dX4_signHere_21 rfl (lv_at hl 1 rfl) ?_
    refine lv_aload_n hx hb dX4_signHere_22 rfl (lv_at hl 1 rfl) ?_
    refine m_geti (70) 4 hx hb hts hown hE oc4 hM (hG.1 70 (by decide)) rfl (by decide) rfl tb_322 dX4_signHere_23 ?_
    refine m_calli (m_runV (70) (As := [.int (I (70) 4)]) (rest := []) hx hb hml hown hts hE hM hS hA ce_X4_byteAt tb_577 (V_X4_byteAt l D A ad ns I L G (I (70) 4) hG hI) rfl rfl ⟨Nat.le_of_ble_eq_true rfl, Nat.le_of_ble_eq_true rfl⟩ (hG.1 70 (by decide)) rfl rfl (by decide) rfl hl.1 rfl (Nat.le_of_ble_eq_true rfl) dX4_signHere_26 ⟨Nat.le_of_ble_eq_true rfl, Nat.le_of_ble_eq_true rfl⟩) hS (fun r5 u H locs hw hM hS => ?_)
    obtain ⟨rfl, xr5⟩ := hw
    have hM : Mem D A ad ns I L G H := hM
    have c6 : (r5).toInt = 42 ∨ (r5).toInt = 43 ∨ (r5).toInt = 45 ∨ (r5).toInt = 47 ∨ (r5).toInt = 59 ∨ (r5).toInt = 60 ∨ (r5).toInt = 61 ∨ (r5).toInt = 62 ∨ (r5).toInt = 91 ∨ (r5).toInt = 93 ∨ ((r5).toInt ≠ 42 ∧ (r5).toInt ≠ 43 ∧ (r5).toInt ≠ 45 ∧ (r5).toInt ≠ 47 ∧ (r5).toInt ≠ 59 ∧ (r5).toInt ≠ 60 ∧ (r5).toInt ≠ 61 ∧ (r5).toInt ≠ 62 ∧ (r5).toInt ≠ 91 ∧ (r5).toInt ≠ 93) := by omega
    rcases c6 with c6 | c6 | c6 | c6 | c6 | c6 | c6 | c6 | c6 | c6 | c6
    · refine lv_lookup (off := 97) (tgt := 126) hx hb dX4_signHere_29 (by decide) (by rw [c6]; rfl) (by decide) ?_
      refine lv_bipush (v := (-17)) hx hb dX4_signHere_126 (by decide) ?_
      exact m_iret hx hb hr hlocks hM hS (Nat.le_of_ble_eq_true rfl) (Nat.le_of_ble_eq_true rfl) ⟨rfl, trivial⟩ dX4_signHere_128
    · refine lv_lookup (off := 91) (tgt := 120) hx hb dX4_signHere_29 (by decide) (by rw [c6]; rfl) (by decide) ?_
      refine lv_bipush (v := (-15)) hx hb dX4_signHere_120 (by decide) ?_
      exact m_iret hx hb hr hlocks hM hS (Nat.le_of_ble_eq_true rfl) (Nat.le_of_ble_eq_true rfl) ⟨rfl, trivial⟩ dX4_signHere_122
    · refine lv_lookup (off := 94) (tgt := 123) hx hb dX4_signHere_29 (by decide) (by rw [c6]; rfl) (by decide) ?_
      refine lv_bipush (v := (-16)) hx hb dX4_signHere_123 (by decide) ?_
      exact m_iret hx hb hr hlocks hM hS (Nat.le_of_ble_eq_true rfl) (Nat.le_of_ble_eq_true rfl) ⟨rfl, trivial⟩ dX4_signHere_125
    · refine lv_lookup (off := 100) (tgt := 129) hx hb dX4_signHere_29 (by decide) (by rw [c6]; rfl) (by decide) ?_
      refine lv_bipush (v := (-18)) hx hb dX4_signHere_129 (by decide) ?_
      exact m_iret hx hb hr hlocks hM hS (Nat.le_of_ble_eq_true rfl) (Nat.le_of_ble_eq_true rfl) ⟨rfl, trivial⟩ dX4_signHere_131
    · refine lv_lookup (off := 136) (tgt := 165) hx hb dX4_signHere_29 (by decide) (by rw [c6]; rfl) (by decide) ?_
      refine lv_bipush (v := (-44)) hx hb dX4_signHere_165 (by decide) ?_
      exact m_iret hx hb hr hlocks hM hS (Nat.le_of_ble_eq_true rfl) (Nat.le_of_ble_eq_true rfl) ⟨rfl, trivial⟩ dX4_signHere_167
    · refine lv_lookup (off := 103) (tgt := 132) hx hb dX4_signHere_29 (by decide) (by rw [c6]; rfl) (by decide) ?_
      refine lv_iload_n hx hb dX4_signHere_132 rfl (lv_at hl 0 rfl) ?_
      refine lv_if_eq (tgt := 141) hx hb dX4_signHere_133 (by decide) (fun c7 => ?_) (fun c7 => ?_)
      · have hc7 := c7
        have q7 := q_eq hc7
        refine lv_bipush (v := (-19)) hx hb dX4_signHere_141 (by decide) ?_
        exact m_iret hx hb hr hlocks hM hS (Nat.le_of_ble_eq_true rfl) (Nat.le_of_ble_eq_true rfl) ⟨rfl, trivial⟩ dX4_signHere_143
      · exact absurd c7 (by decide)
    · refine lv_lookup (off := 115) (tgt := 144) hx hb dX4_signHere_29 (by decide) (by rw [c6]; rfl) (by decide) ?_
      refine lv_bipush (v := (-21)) hx hb dX4_signHere_144 (by decide) ?_
      exact m_iret hx hb hr hlocks hM hS (Nat.le_of_ble_eq_true rfl) (Nat.le_of_ble_eq_true rfl) ⟨rfl, trivial⟩ dX4_signHere_146
    · refine lv_lookup (off := 118) (tgt := 147) hx hb dX4_signHere_29 (by decide) (by rw [c6]; rfl) (by decide) ?_
      refine lv_iload_n hx hb dX4_signHere_147 rfl (lv_at hl 0 rfl) ?_
      refine lv_if_eq (tgt := 156) hx hb dX4_signHere_148 (by decide) (fun c8 => ?_) (fun c8 => ?_)
      · have hc8 := c8
        have q8 := q_eq hc8
        refine lv_bipush (v := (-23)) hx hb dX4_signHere_156 (by decide) ?_
        exact m_iret hx hb hr hlocks hM hS (Nat.le_of_ble_eq_true rfl) (Nat.le_of_ble_eq_true rfl) ⟨rfl, trivial⟩ dX4_signHere_158
      · exact absurd c8 (by decide)
    · refine lv_lookup (off := 130) (tgt := 159) hx hb dX4_signHere_29 (by decide) (by rw [c6]; rfl) (by decide) ?_
      refine lv_bipush (v := (-42)) hx hb dX4_signHere_159 (by decide) ?_
      exact m_iret hx hb hr hlocks hM hS (Nat.le_of_ble_eq_true rfl) (Nat.le_of_ble_eq_true rfl) ⟨rfl, trivial⟩ dX4_signHere_161
    · refine lv_lookup (off := 133) (tgt := 162) hx hb dX4_signHere_29 (by decide) (by rw [c6]; rfl) (by decide) ?_
      refine lv_bipush (v := (-43)) hx hb dX4_signHere_162 (by decide) ?_
      exact m_iret hx hb hr hlocks hM hS (Nat.le_of_ble_eq_true rfl) (Nat.le_of_ble_eq_true rfl) ⟨rfl, trivial⟩ dX4_signHere_164
    · refine lv_lookup (off := 139) (tgt := 168) hx hb dX4_signHere_29 (by decide) (by show Op.lookupswitch.offset [(42, 97), (43, 91), (45, 94), (47, 100), (59, 136), (60, 103), (61, 115), (62, 118), (91, 130), (93, 133)] 139 (r5).toInt = 139; simp only [Op.lookupswitch.offset]; rw [if_neg (by omega), if_neg (by omega), if_neg (by omega), if_neg (by omega), if_neg (by omega), if_neg (by omega), if_neg (by omega), if_neg (by omega), if_neg (by omega), if_neg (by omega)]) (by decide) ?_
      refine lv_bipush (v := (-47)) hx hb dX4_signHere_168 (by decide) ?_
      exact m_iret hx hb hr hlocks hM hS (Nat.le_of_ble_eq_true rfl) (Nat.le_of_ble_eq_true rfl) ⟨rfl, trivial⟩ dX4_signHere_170
  · have hc4 := c4
    have q4 := q_eq hc4
    refine lv_iconst (v := (1)) hx hb dX4_signHere_15 (by decide) ?_
    refine lv_goto (tgt := 20) hx hb dX4_signHere_16 (by decide) ?_
    refine lv_istore_n (lv' := [(1, .int (1)), (0, .ref (ad (70)))]) hx hb dX4_signHere_20 rfl hl (by decide) rfl (fun ls hl => ?_)
    refine lv_aload_n hx hb dX4_signHere_21 rfl (lv_at hl 1 rfl) ?_
    refine lv_aload_n hx hb dX4_signHere_22 rfl (lv_at hl 1 rfl) ?_
    refine m_geti (70) 4 hx hb hts hown hE oc4 hM (hG.1 70 (by decide)) rfl (by decide) rfl tb_322 dX4_signHere_23 ?_
    refine m_calli (m_runV (70) (As := [.int (I (70) 4)]) (rest := []) hx hb hml hown hts hE hM hS hA ce_X4_byteAt tb_577 (V_X4_byteAt l D A ad ns I L G (I (70) 4) hG hI) rfl rfl ⟨Nat.le_of_ble_eq_true rfl, Nat.le_of_ble_eq_true rfl⟩ (hG.1 70 (by decide)) rfl rfl (by decide) rfl hl.1 rfl (Nat.le_of_ble_eq_true rfl) dX4_signHere_26 ⟨Nat.le_of_ble_eq_true rfl, Nat.le_of_ble_eq_true rfl⟩) hS (fun r9 u H locs hw hM hS => ?_)
    obtain ⟨rfl, xr9⟩ := hw
    have hM : Mem D A ad ns I L G H := hM
    have c10 : (r9).toInt = 42 ∨ (r9).toInt = 43 ∨ (r9).toInt = 45 ∨ (r9).toInt = 47 ∨ (r9).toInt = 59 ∨ (r9).toInt = 60 ∨ (r9).toInt = 61 ∨ (r9).toInt = 62 ∨ (r9).toInt = 91 ∨ (r9).toInt = 93 ∨ ((r9).toInt ≠ 42 ∧ (r9).toInt ≠ 43 ∧ (r9).toInt ≠ 45 ∧ (r9).toInt ≠ 47 ∧ (r9).toInt ≠ 59 ∧ (r9).toInt ≠ 60 ∧ (r9).toInt ≠ 61 ∧ (r9).toInt ≠ 62 ∧ (r9).toInt ≠ 91 ∧ (r9).toInt ≠ 93) := by omega
    rcases c10 with c10 | c10 | c10 | c10 | c10 | c10 | c10 | c10 | c10 | c10 | c10
    · refine lv_lookup (off := 97) (tgt := 126) hx hb dX4_signHere_29 (by decide) (by rw [c10]; rfl) (by decide) ?_
      refine lv_bipush (v := (-17)) hx hb dX4_signHere_126 (by decide) ?_
      exact m_iret hx hb hr hlocks hM hS (Nat.le_of_ble_eq_true rfl) (Nat.le_of_ble_eq_true rfl) ⟨rfl, trivial⟩ dX4_signHere_128
    · refine lv_lookup (off := 91) (tgt := 120) hx hb dX4_signHere_29 (by decide) (by rw [c10]; rfl) (by decide) ?_
      refine lv_bipush (v := (-15)) hx hb dX4_signHere_120 (by decide) ?_
      exact m_iret hx hb hr hlocks hM hS (Nat.le_of_ble_eq_true rfl) (Nat.le_of_ble_eq_true rfl) ⟨rfl, trivial⟩ dX4_signHere_122
    · refine lv_lookup (off := 94) (tgt := 123) hx hb dX4_signHere_29 (by decide) (by rw [c10]; rfl) (by decide) ?_
      refine lv_bipush (v := (-16)) hx hb dX4_signHere_123 (by decide) ?_
      exact m_iret hx hb hr hlocks hM hS (Nat.le_of_ble_eq_true rfl) (Nat.le_of_ble_eq_true rfl) ⟨rfl, trivial⟩ dX4_signHere_125
    · refine lv_lookup (off := 100) (tgt := 129) hx hb dX4_signHere_29 (by decide) (by rw [c10]; rfl) (by decide) ?_
      refine lv_bipush (v := (-18)) hx hb dX4_signHere_129 (by decide) ?_
      exact m_iret hx hb hr hlocks hM hS (Nat.le_of_ble_eq_true rfl) (Nat.le_of_ble_eq_true rfl) ⟨rfl, trivial⟩ dX4_signHere_131
    · refine lv_lookup (off := 136) (tgt := 165) hx hb dX4_signHere_29 (by decide) (by rw [c10]; rfl) (by decide) ?_
      refine lv_bipush (v := (-44)) hx hb dX4_signHere_165 (by decide) ?_
      exact m_iret hx hb hr hlocks hM hS (Nat.le_of_ble_eq_true rfl) (Nat.le_of_ble_eq_true rfl) ⟨rfl, trivial⟩ dX4_signHere_167
    · refine lv_lookup (off := 103) (tgt := 132) hx hb dX4_signHere_29 (by decide) (by rw [c10]; rfl) (by decide) ?_
      refine lv_iload_n hx hb dX4_signHere_132 rfl (lv_at hl 0 rfl) ?_
      refine lv_if_eq (tgt := 141) hx hb dX4_signHere_133 (by decide) (fun c11 => ?_) (fun c11 => ?_)
      · exact absurd c11 (by decide)
      · have hc11 := c11
        have q11 := q_ne hc11
        refine lv_bipush (v := (-20)) hx hb dX4_signHere_136 (by decide) ?_
        refine lv_goto (tgt := 143) hx hb dX4_signHere_138 (by decide) ?_
        exact m_iret hx hb hr hlocks hM hS (Nat.le_of_ble_eq_true rfl) (Nat.le_of_ble_eq_true rfl) ⟨rfl, trivial⟩ dX4_signHere_143
    · refine lv_lookup (off := 115) (tgt := 144) hx hb dX4_signHere_29 (by decide) (by rw [c10]; rfl) (by decide) ?_
      refine lv_bipush (v := (-21)) hx hb dX4_signHere_144 (by decide) ?_
      exact m_iret hx hb hr hlocks hM hS (Nat.le_of_ble_eq_true rfl) (Nat.le_of_ble_eq_true rfl) ⟨rfl, trivial⟩ dX4_signHere_146
    · refine lv_lookup (off := 118) (tgt := 147) hx hb dX4_signHere_29 (by decide) (by rw [c10]; rfl) (by decide) ?_
      refine lv_iload_n hx hb dX4_signHere_147 rfl (lv_at hl 0 rfl) ?_
      refine lv_if_eq (tgt := 156) hx hb dX4_signHere_148 (by decide) (fun c12 => ?_) (fun c12 => ?_)
      · exact absurd c12 (by decide)
      · have hc12 := c12
        have q12 := q_ne hc12
        refine lv_bipush (v := (-22)) hx hb dX4_signHere_151 (by decide) ?_
        refine lv_goto (tgt := 158) hx hb dX4_signHere_153 (by decide) ?_
        exact m_iret hx hb hr hlocks hM hS (Nat.le_of_ble_eq_true rfl) (Nat.le_of_ble_eq_true rfl) ⟨rfl, trivial⟩ dX4_signHere_158
    · refine lv_lookup (off := 130) (tgt := 159) hx hb dX4_signHere_29 (by decide) (by rw [c10]; rfl) (by decide) ?_
      refine lv_bipush (v := (-42)) hx hb dX4_signHere_159 (by decide) ?_
      exact m_iret hx hb hr hlocks hM hS (Nat.le_of_ble_eq_true rfl) (Nat.le_of_ble_eq_true rfl) ⟨rfl, trivial⟩ dX4_signHere_161
    · refine lv_lookup (off := 133) (tgt := 162) hx hb dX4_signHere_29 (by decide) (by rw [c10]; rfl) (by decide) ?_
      refine lv_bipush (v := (-43)) hx hb dX4_signHere_162 (by decide) ?_
      exact m_iret hx hb hr hlocks hM hS (Nat.le_of_ble_eq_true rfl) (Nat.le_of_ble_eq_true rfl) ⟨rfl, trivial⟩ dX4_signHere_164
    · refine lv_lookup (off := 139) (tgt := 168) hx hb dX4_signHere_29 (by decide) (by show Op.lookupswitch.offset [(42, 97), (43, 91), (45, 94), (47, 100), (59, 136), (60, 103), (61, 115), (62, 118), (91, 130), (93, 133)] 139 (r9).toInt = 139; simp only [Op.lookupswitch.offset]; rw [if_neg (by omega), if_neg (by omega), if_neg (by omega), if_neg (by omega), if_neg (by omega), if_neg (by omega), if_neg (by omega), if_neg (by omega), if_neg (by omega), if_neg (by omega)]) (by decide) ?_
      refine lv_bipush (v := (-47)) hx hb dX4_signHere_168 (by decide) ?_
      exact m_iret hx hb hr hlocks hM hS (Nat.le_of_ble_eq_true rfl) (Nat.le_of_ble_eq_true rfl) ⟨rfl, trivial⟩ dX4_signHere_170
theorem dX4_isWord_0 : decode cX4_isWord 0 = .ok (.aload_n 0, 1) := by decide +kernel
theorem dX4_isWord_1 : decode cX4_isWord 1 = .ok (.getfield 65, 3) := by decide +kernel
theorem dX4_isWord_4 : decode cX4_isWord 4 = .ok (.aload_n 1, 1) := by decide +kernel
theorem dX4_isWord_5 : decode cX4_isWord 5 = .ok (.invokevirtual 179, 3) := by decide +kernel
theorem dX4_isWord_8 : decode cX4_isWord 8 = .ok (.if_icmp .eq 5, 3) := by decide +kernel
theorem dX4_isWord_11 : decode cX4_isWord 11 = .ok (.iconst 0, 1) := by decide +kernel
theorem dX4_isWord_12 : decode cX4_isWord 12 = .ok (.ireturn, 1) := by decide +kernel
theorem dX4_isWord_13 : decode cX4_isWord 13 = .ok (.iconst 0, 1) := by decide +kernel
theorem dX4_isWord_14 : decode cX4_isWord 14 = .ok (.istore_n 2, 1) := by decide +kernel
theorem dX4_isWord_15 : decode cX4_isWord 15 = .ok (.iload_n 2, 1) := by decide +kernel
theorem dX4_isWord_16 : decode cX4_isWord 16 = .ok (.aload_n 1, 1) := by decide +kernel
theorem dX4_isWord_17 : decode cX4_isWord 17 = .ok (.invokevirtual 179, 3) := by decide +kernel
theorem dX4_isWord_20 : decode cX4_isWord 20 = .ok (.if_icmp .ge 29, 3) := by decide +kernel
theorem dX4_isWord_23 : decode cX4_isWord 23 = .ok (.aload_n 0, 1) := by decide +kernel
theorem dX4_isWord_24 : decode cX4_isWord 24 = .ok (.aload_n 0, 1) := by decide +kernel
theorem dX4_isWord_25 : decode cX4_isWord 25 = .ok (.getfield 29, 3) := by decide +kernel
theorem dX4_isWord_28 : decode cX4_isWord 28 = .ok (.iload_n 2, 1) := by decide +kernel
theorem dX4_isWord_29 : decode cX4_isWord 29 = .ok (.iadd, 1) := by decide +kernel
theorem dX4_isWord_30 : decode cX4_isWord 30 = .ok (.invokevirtual 132, 3) := by decide +kernel
theorem dX4_isWord_33 : decode cX4_isWord 33 = .ok (.aload_n 1, 1) := by decide +kernel
theorem dX4_isWord_34 : decode cX4_isWord 34 = .ok (.iload_n 2, 1) := by decide +kernel
theorem dX4_isWord_35 : decode cX4_isWord 35 = .ok (.invokevirtual 183, 3) := by decide +kernel
theorem dX4_isWord_38 : decode cX4_isWord 38 = .ok (.if_icmp .eq 5, 3) := by decide +kernel
theorem dX4_isWord_41 : decode cX4_isWord 41 = .ok (.iconst 0, 1) := by decide +kernel
theorem dX4_isWord_42 : decode cX4_isWord 42 = .ok (.ireturn, 1) := by decide +kernel
theorem dX4_isWord_43 : decode cX4_isWord 43 = .ok (.iinc 2 1, 3) := by decide +kernel
theorem dX4_isWord_46 : decode cX4_isWord 46 = .ok (.goto (-31), 3) := by decide +kernel
theorem dX4_isWord_49 : decode cX4_isWord 49 = .ok (.iconst 1, 1) := by decide +kernel
theorem dX4_isWord_50 : decode cX4_isWord 50 = .ok (.ireturn, 1) := by decide +kernel
theorem ce_X4_isWord : CeV RX4 yX4_isWord cX4_isWord 3 (some .boolean) 1 := ⟨tb_602, tp_7, tb_9, tb_603, rfl, by decide, by decide, by decide +kernel⟩
set_option maxHeartbeats 4000000 in
set_option maxRecDepth 20000 in
theorem V_X4_isWord (l : Launch) (D : va_G) (A : Nat → Prop) (ad : Nat → Nat) (ns : List Nat) (I : MI) (L : ML) (G : MG) (i : Nat) (q : String × Nat × String × List Int32) (hG : SGC ns G) (hI : INV I) (hq : sq[i]? = some q) (hn : q.2.2.2.length < 16) : Met l yX4_isWord (wd yX4_isWord cX4_isWord 3 (some .boolean)) ({ frames := 4, cells := 0, slots := 0, locals := 85 }) (va_Pc [.ref (ad (70)), .ref (D.2 100 i)] (PM D A ad ns I L G)) (va_Qi (fun r u => u = (ad, ns, I, L, G) ∧ (0 ≤ r.toInt ∧ r.toInt ≤ 1)) (BM D A) A) 0 0 A := by
  refine m_ofW (by decide) (Nat.le_of_ble_eq_true rfl) ?_
  intro p e s m below meth c ls args hC hE hM hA hS hl
  obtain ⟨hx, hb, hml, hown, hts, hr, hlocks, hin⟩ := hC
  have k0 : (0 : Int32).toInt = 0 := by decide
  have k1 : (1 : Int32).toInt = 1 := by decide
  have kN : (Int32.ofNat q.2.2.2.length).toInt = q.2.2.2.length := nI_toInt (by omega)
  have hl : lv_has ls 3 [(0, .ref (ad (70))), (1, .ref (D.2 100 i))] := hl
  refine lv_aload_n hx hb dX4_isWord_0 rfl (lv_at hl 0 rfl) ?_
  refine m_geti (70) 6 hx hb hts hown hE oc4 hM (hG.1 70 (by decide)) rfl (by decide) rfl tb_324 dX4_isWord_1 ?_
  have g1 := hI.get (70) 6 (lo := 0) (hi := 401) rfl
  refine lv_aload_n hx hb dX4_isWord_4 rfl (lv_at hl 1 rfl) ?_
  refine m_calli (m_runVA (D.2 100 i) (As := []) (rest := [.int (I (70) 6)]) hx hb hml hown hts hE hM hS hA ce_J0_length_8abf5 tb_604 (C_J0_length_8abf5 l D A ad ns I L G i _ hq hn) rfl rfl ⟨Nat.le_of_ble_eq_true rfl, Nat.le_of_ble_eq_true rfl⟩ (m_strr hE hS i hq) rfl hl.1 rfl (Nat.le_of_ble_eq_true rfl) dX4_isWord_5 ⟨Nat.le_of_ble_eq_true rfl, Nat.le_of_ble_eq_true rfl⟩) hS (fun r2 u H locs hw hM hS => ?_)
  obtain ⟨rfl, rfl⟩ := hw
  have hM : Mem D A ad ns I L G H := hM
  refine lv_icmp_eq (tgt := 13) hx hb dX4_isWord_8 (by decide) (fun c3 => ?_) (fun c3 => ?_)
  · have hc3 := c3
    have q3 := q_eq hc3
    refine lv_iconst (v := (0)) hx hb dX4_isWord_13 (by decide) ?_
    refine lv_istore_n (lv' := [(2, .int (0)), (0, .ref (ad (70))), (1, .ref (D.2 100 i))]) hx hb dX4_isWord_14 rfl hl (by decide) rfl (fun ls hl => ?_)
    have loop15 : ∀ (n : Nat) (x2_15 : Int32) (H : Heap) (locs : List Loc) (ls : Array Slot), (0 ≤ x2_15.toInt ∧ x2_15.toInt ≤ 16) → (16 - x2_15.toInt).toNat < n → Mem D A ad ns I L G H → va_S A s.heap H locs → lv_has ls 3 [(2, .int (x2_15)), (0, .ref (ad (70))), (1, .ref (D.2 100 i))] → W p l e ({ frames := 4, cells := 0, slots := 0, locals := 85 } : Room) s m args below meth c H locs 0 0 (MQ below (va_Qi (fun r u => u = (ad, ns, I, L, G) ∧ (0 ≤ r.toInt ∧ r.toInt ≤ 1)) (BM D A) A) args s 0 0 A) (F0 m 15 ls []) := by
      intro n
      induction n with
      | zero =>
        intro x2_15 H locs ls hr2_15 hmu
        exact absurd hmu (Nat.not_lt_zero _)
      | succ n ih15 =>
        intro x2_15 H locs ls hr2_15 hmu15 hM hS hl
        refine lv_iload_n hx hb dX4_isWord_15 rfl (lv_at hl 0 rfl) ?_
        refine lv_aload_n hx hb dX4_isWord_16 rfl (lv_at hl 2 rfl) ?_
        refine m_calli (m_runVA (D.2 100 i) (As := []) (rest := [.int (x2_15)]) hx hb hml hown hts hE hM hS hA ce_J0_length_8abf5 tb_604 (C_J0_length_8abf5 l D A ad ns I L G i _ hq hn) rfl rfl ⟨Nat.le_of_ble_eq_true rfl, Nat.le_of_ble_eq_true rfl⟩ (m_strr hE hS i hq) rfl hl.1 rfl (Nat.le_of_ble_eq_true rfl) dX4_isWord_17 ⟨Nat.le_of_ble_eq_true rfl, Nat.le_of_ble_eq_true rfl⟩) hS (fun r4 u H locs hw hM hS => ?_)
        obtain ⟨rfl, rfl⟩ := hw
        have hM : Mem D A ad ns I L G H := hM
        refine lv_icmp_ge (tgt := 49) hx hb dX4_isWord_20 (by decide) (fun c5 => ?_) (fun c5 => ?_)
        · have hc5 := c5
          have q5 := q_le hc5
          refine lv_iconst (v := (1)) hx hb dX4_isWord_49 (by decide) ?_
          exact m_zret hx hb hr rfl hlocks hM hS (Nat.le_of_ble_eq_true rfl) (Nat.le_of_ble_eq_true rfl) ⟨rfl, (by first | omega | decide)⟩ dX4_isWord_50
        · have hc5 := c5
          have q5 := q_nle hc5
          refine lv_aload_n hx hb dX4_isWord_23 rfl (lv_at hl 1 rfl) ?_
          refine lv_aload_n hx hb dX4_isWord_24 rfl (lv_at hl 1 rfl) ?_
          refine m_geti (70) 4 hx hb hts hown hE oc4 hM (hG.1 70 (by decide)) rfl (by decide) rfl tb_322 dX4_isWord_25 ?_
          have g6 := hI.get (70) 4 (lo := 0) (hi := 801) rfl
          refine lv_iload_n hx hb dX4_isWord_28 rfl (lv_at hl 0 rfl) ?_
          refine lv_iadd hx hb dX4_isWord_29 ?_
          refine lv_topi (fun v7 ev7 => ?_)
          have tv7 := a_add ev7 (by omega) (by omega)
          refine m_calli (m_runV (70) (As := [.int (v7)]) (rest := []) hx hb hml hown hts hE hM hS hA ce_X4_byteAt tb_577 (V_X4_byteAt l D A ad ns I L G (v7) hG hI) rfl rfl ⟨Nat.le_of_ble_eq_true rfl, Nat.le_of_ble_eq_true rfl⟩ (hG.1 70 (by decide)) rfl rfl (by decide) rfl hl.1 rfl (Nat.le_of_ble_eq_true rfl) dX4_isWord_30 ⟨Nat.le_of_ble_eq_true rfl, Nat.le_of_ble_eq_true rfl⟩) hS (fun r8 u H locs hw hM hS => ?_)
          obtain ⟨rfl, xr8⟩ := hw
          have hM : Mem D A ad ns I L G H := hM
          refine lv_aload_n hx hb dX4_isWord_33 rfl (lv_at hl 2 rfl) ?_
          refine lv_iload_n hx hb dX4_isWord_34 rfl (lv_at hl 0 rfl) ?_
          refine m_calli (m_runVA (D.2 100 i) (As := [.int (x2_15)]) (rest := [.int (r8)]) hx hb hml hown hts hE hM hS hA ce_J0_charAt_5068e tb_614 (C_J0_charAt_5068e l D A ad ns I L G i _ (x2_15) hq hn (by omega)) rfl rfl ⟨Nat.le_of_ble_eq_true rfl, Nat.le_of_ble_eq_true rfl⟩ (m_strr hE hS i hq) rfl hl.1 rfl (Nat.le_of_ble_eq_true rfl) dX4_isWord_35 ⟨Nat.le_of_ble_eq_true rfl, Nat.le_of_ble_eq_true rfl⟩) hS (fun r9 u H locs hw hM hS => ?_)
          obtain ⟨rfl, xr9⟩ := hw
          have hM : Mem D A ad ns I L G H := hM
          have yr9 := a_and (c := 255) xr9 (by decide) (by decide)
          refine lv_icmp_eq (tgt := 43) hx hb dX4_isWord_38 (by decide) (fun c10 => ?_) (fun c10 => ?_)
          · have hc10 := c10
            have q10 := q_eq hc10
            obtain ⟨v11, ev11⟩ : ∃ z : Int32, z = x2_15 + Int32.ofInt (1) := ⟨_, rfl⟩
            have tv11 := a_inc ev11 (by decide) (by omega) (by omega)
            refine lv_iinc (v := v11) (lv' := [(2, .int (v11)), (0, .ref (ad (70))), (1, .ref (D.2 100 i))]) hx hb dX4_isWord_43 hl (k := 0) rfl ev11.symm (by decide) rfl (fun ls hl => ?_)
            refine lv_goto (tgt := 15) hx hb dX4_isWord_46 (by decide) ?_
            exact ih15 (v11) _ _ ls (by first | omega | decide) (by omega) hM hS (lv_sub hl [0, 1, 2] rfl)
          · have hc10 := c10
            have q10 := q_ne hc10
            refine lv_iconst (v := (0)) hx hb dX4_isWord_41 (by decide) ?_
            exact m_zret hx hb hr rfl hlocks hM hS (Nat.le_of_ble_eq_true rfl) (Nat.le_of_ble_eq_true rfl) ⟨rfl, (by first | omega | decide)⟩ dX4_isWord_42
    exact loop15 (_ + 1) (0) _ _ ls (by first | omega | decide) (Nat.lt_succ_self _) hM hS (lv_sub hl [0, 1, 2] rfl)
  · have hc3 := c3
    have q3 := q_ne hc3
    refine lv_iconst (v := (0)) hx hb dX4_isWord_11 (by decide) ?_
    exact m_zret hx hb hr rfl hlocks hM hS (Nat.le_of_ble_eq_true rfl) (Nat.le_of_ble_eq_true rfl) ⟨rfl, (by first | omega | decide)⟩ dX4_isWord_12
theorem dX4_wordHere_0 : decode cX4_wordHere 0 = .ok (.aload_n 0, 1) := by decide +kernel
theorem dX4_wordHere_1 : decode cX4_wordHere 1 = .ok (.aload_n 0, 1) := by decide +kernel
theorem dX4_wordHere_2 : decode cX4_wordHere 2 = .ok (.getfield 29, 3) := by decide +kernel
theorem dX4_wordHere_5 : decode cX4_wordHere 5 = .ok (.invokevirtual 132, 3) := by decide +kernel
theorem dX4_wordHere_8 : decode cX4_wordHere 8 = .ok (.tableswitch 241 97 115 #[92, 241, 241, 109, 241, 241, 241, 126, 142, 241, 241, 241, 159, 176, 193, 241, 241, 241, 210], 92) := by decide +kernel
theorem dX4_wordHere_100 : decode cX4_wordHere 100 = .ok (.aload_n 0, 1) := by decide +kernel
theorem dX4_wordHere_101 : decode cX4_wordHere 101 = .ok (.ldc 155, 2) := by decide +kernel
theorem dX4_wordHere_103 : decode cX4_wordHere 103 = .ok (.invokevirtual 157, 3) := by decide +kernel
theorem dX4_wordHere_106 : decode cX4_wordHere 106 = .ok (.ifCond .eq 8, 3) := by decide +kernel
theorem dX4_wordHere_109 : decode cX4_wordHere 109 = .ok (.bipush (-24), 2) := by decide +kernel
theorem dX4_wordHere_111 : decode cX4_wordHere 111 = .ok (.goto 5, 3) := by decide +kernel
theorem dX4_wordHere_114 : decode cX4_wordHere 114 = .ok (.bipush (-47), 2) := by decide +kernel
theorem dX4_wordHere_116 : decode cX4_wordHere 116 = .ok (.ireturn, 1) := by decide +kernel
theorem dX4_wordHere_117 : decode cX4_wordHere 117 = .ok (.aload_n 0, 1) := by decide +kernel
theorem dX4_wordHere_118 : decode cX4_wordHere 118 = .ok (.ldc 161, 2) := by decide +kernel
theorem dX4_wordHere_120 : decode cX4_wordHere 120 = .ok (.invokevirtual 157, 3) := by decide +kernel
theorem dX4_wordHere_123 : decode cX4_wordHere 123 = .ok (.ifCond .eq 8, 3) := by decide +kernel
theorem dX4_wordHere_126 : decode cX4_wordHere 126 = .ok (.bipush (-3), 2) := by decide +kernel
theorem dX4_wordHere_128 : decode cX4_wordHere 128 = .ok (.goto 5, 3) := by decide +kernel
theorem dX4_wordHere_131 : decode cX4_wordHere 131 = .ok (.bipush (-47), 2) := by decide +kernel
theorem dX4_wordHere_133 : decode cX4_wordHere 133 = .ok (.ireturn, 1) := by decide +kernel
theorem dX4_wordHere_134 : decode cX4_wordHere 134 = .ok (.aload_n 0, 1) := by decide +kernel
theorem dX4_wordHere_135 : decode cX4_wordHere 135 = .ok (.ldc 163, 2) := by decide +kernel
theorem dX4_wordHere_137 : decode cX4_wordHere 137 = .ok (.invokevirtual 157, 3) := by decide +kernel
theorem dX4_wordHere_140 : decode cX4_wordHere 140 = .ok (.ifCond .eq 7, 3) := by decide +kernel
theorem dX4_wordHere_143 : decode cX4_wordHere 143 = .ok (.iconst (-1), 1) := by decide +kernel
theorem dX4_wordHere_144 : decode cX4_wordHere 144 = .ok (.goto 5, 3) := by decide +kernel
theorem dX4_wordHere_147 : decode cX4_wordHere 147 = .ok (.bipush (-47), 2) := by decide +kernel
theorem dX4_wordHere_149 : decode cX4_wordHere 149 = .ok (.ireturn, 1) := by decide +kernel
theorem dX4_wordHere_150 : decode cX4_wordHere 150 = .ok (.aload_n 0, 1) := by decide +kernel
theorem dX4_wordHere_151 : decode cX4_wordHere 151 = .ok (.ldc 165, 2) := by decide +kernel
theorem dX4_wordHere_153 : decode cX4_wordHere 153 = .ok (.invokevirtual 157, 3) := by decide +kernel
theorem dX4_wordHere_156 : decode cX4_wordHere 156 = .ok (.ifCond .eq 8, 3) := by decide +kernel
theorem dX4_wordHere_159 : decode cX4_wordHere 159 = .ok (.bipush (-41), 2) := by decide +kernel
theorem dX4_wordHere_161 : decode cX4_wordHere 161 = .ok (.goto 5, 3) := by decide +kernel
theorem dX4_wordHere_164 : decode cX4_wordHere 164 = .ok (.bipush (-47), 2) := by decide +kernel
theorem dX4_wordHere_166 : decode cX4_wordHere 166 = .ok (.ireturn, 1) := by decide +kernel
theorem dX4_wordHere_167 : decode cX4_wordHere 167 = .ok (.aload_n 0, 1) := by decide +kernel
theorem dX4_wordHere_168 : decode cX4_wordHere 168 = .ok (.ldc 167, 2) := by decide +kernel
theorem dX4_wordHere_170 : decode cX4_wordHere 170 = .ok (.invokevirtual 157, 3) := by decide +kernel
theorem dX4_wordHere_173 : decode cX4_wordHere 173 = .ok (.ifCond .eq 8, 3) := by decide +kernel
theorem dX4_wordHere_176 : decode cX4_wordHere 176 = .ok (.bipush (-2), 2) := by decide +kernel
theorem dX4_wordHere_178 : decode cX4_wordHere 178 = .ok (.goto 5, 3) := by decide +kernel
theorem dX4_wordHere_181 : decode cX4_wordHere 181 = .ok (.bipush (-47), 2) := by decide +kernel
theorem dX4_wordHere_183 : decode cX4_wordHere 183 = .ok (.ireturn, 1) := by decide +kernel
theorem dX4_wordHere_184 : decode cX4_wordHere 184 = .ok (.aload_n 0, 1) := by decide +kernel
theorem dX4_wordHere_185 : decode cX4_wordHere 185 = .ok (.ldc 169, 2) := by decide +kernel
theorem dX4_wordHere_187 : decode cX4_wordHere 187 = .ok (.invokevirtual 157, 3) := by decide +kernel
theorem dX4_wordHere_190 : decode cX4_wordHere 190 = .ok (.ifCond .eq 8, 3) := by decide +kernel
theorem dX4_wordHere_193 : decode cX4_wordHere 193 = .ok (.bipush (-14), 2) := by decide +kernel
theorem dX4_wordHere_195 : decode cX4_wordHere 195 = .ok (.goto 5, 3) := by decide +kernel
theorem dX4_wordHere_198 : decode cX4_wordHere 198 = .ok (.bipush (-47), 2) := by decide +kernel
theorem dX4_wordHere_200 : decode cX4_wordHere 200 = .ok (.ireturn, 1) := by decide +kernel
theorem dX4_wordHere_201 : decode cX4_wordHere 201 = .ok (.aload_n 0, 1) := by decide +kernel
theorem dX4_wordHere_202 : decode cX4_wordHere 202 = .ok (.ldc 171, 2) := by decide +kernel
theorem dX4_wordHere_204 : decode cX4_wordHere 204 = .ok (.invokevirtual 157, 3) := by decide +kernel
theorem dX4_wordHere_207 : decode cX4_wordHere 207 = .ok (.ifCond .eq 8, 3) := by decide +kernel
theorem dX4_wordHere_210 : decode cX4_wordHere 210 = .ok (.bipush (-25), 2) := by decide +kernel
theorem dX4_wordHere_212 : decode cX4_wordHere 212 = .ok (.goto 5, 3) := by decide +kernel
theorem dX4_wordHere_215 : decode cX4_wordHere 215 = .ok (.bipush (-47), 2) := by decide +kernel
theorem dX4_wordHere_217 : decode cX4_wordHere 217 = .ok (.ireturn, 1) := by decide +kernel
theorem dX4_wordHere_218 : decode cX4_wordHere 218 = .ok (.aload_n 0, 1) := by decide +kernel
theorem dX4_wordHere_219 : decode cX4_wordHere 219 = .ok (.ldc 173, 2) := by decide +kernel
theorem dX4_wordHere_221 : decode cX4_wordHere 221 = .ok (.invokevirtual 157, 3) := by decide +kernel
theorem dX4_wordHere_224 : decode cX4_wordHere 224 = .ok (.ifCond .eq 8, 3) := by decide +kernel
theorem dX4_wordHere_227 : decode cX4_wordHere 227 = .ok (.bipush (-5), 2) := by decide +kernel
theorem dX4_wordHere_229 : decode cX4_wordHere 229 = .ok (.goto 19, 3) := by decide +kernel
theorem dX4_wordHere_232 : decode cX4_wordHere 232 = .ok (.aload_n 0, 1) := by decide +kernel
theorem dX4_wordHere_233 : decode cX4_wordHere 233 = .ok (.ldc 175, 2) := by decide +kernel
theorem dX4_wordHere_235 : decode cX4_wordHere 235 = .ok (.invokevirtual 157, 3) := by decide +kernel
theorem dX4_wordHere_238 : decode cX4_wordHere 238 = .ok (.ifCond .eq 8, 3) := by decide +kernel
theorem dX4_wordHere_241 : decode cX4_wordHere 241 = .ok (.bipush (-4), 2) := by decide +kernel
theorem dX4_wordHere_243 : decode cX4_wordHere 243 = .ok (.goto 5, 3) := by decide +kernel
theorem dX4_wordHere_246 : decode cX4_wordHere 246 = .ok (.bipush (-47), 2) := by decide +kernel
theorem dX4_wordHere_248 : decode cX4_wordHere 248 = .ok (.ireturn, 1) := by decide +kernel
theorem dX4_wordHere_249 : decode cX4_wordHere 249 = .ok (.aload_n 0, 1) := by decide +kernel
theorem dX4_wordHere_250 : decode cX4_wordHere 250 = .ok (.ldc 177, 2) := by decide +kernel
theorem dX4_wordHere_252 : decode cX4_wordHere 252 = .ok (.invokevirtual 157, 3) := by decide +kernel
theorem dX4_wordHere_255 : decode cX4_wordHere 255 = .ok (.ifCond .eq 8, 3) := by decide +kernel
theorem dX4_wordHere_258 : decode cX4_wordHere 258 = .ok (.bipush (-40), 2) := by decide +kernel
theorem dX4_wordHere_260 : decode cX4_wordHere 260 = .ok (.goto 5, 3) := by decide +kernel
theorem dX4_wordHere_263 : decode cX4_wordHere 263 = .ok (.bipush (-47), 2) := by decide +kernel
theorem dX4_wordHere_265 : decode cX4_wordHere 265 = .ok (.ireturn, 1) := by decide +kernel
theorem ce_X4_wordHere : CeV RX4 yX4_wordHere cX4_wordHere 1 (some .int) 0 := ⟨tb_597, tp_6, tb_9, tb_598, rfl, by decide, by decide, by decide +kernel⟩
set_option maxHeartbeats 4000000 in
set_option maxRecDepth 20000 in
theorem V_X4_wordHere (l : Launch) (D : va_G) (A : Nat → Prop) (ad : Nat → Nat) (ns : List Nat) (I : MI) (L : ML) (G : MG) (hG : SGC ns G) (hI : INV I) : Met l yX4_wordHere (wd yX4_wordHere cX4_wordHere 1 (some .int)) ({ frames := 5, cells := 0, slots := 0, locals := 107 }) (va_Pc [.ref (ad (70))] (PM D A ad ns I L G)) (va_Qi (fun r u => u = (ad, ns, I, L, G) ∧ (True)) (BM D A) A) 0 0 A := by
  refine m_ofW (by decide) (Nat.le_of_ble_eq_true rfl) ?_
  intro p e s m below meth c ls args hC hE hM hA hS hl
  obtain ⟨hx, hb, hml, hown, hts, hr, hlocks, hin⟩ := hC
  have km47 : (-47 : Int32).toInt = -47 := by decide
  have km41 : (-41 : Int32).toInt = -41 := by decide
  have km40 : (-40 : Int32).toInt = -40 := by decide
  have km25 : (-25 : Int32).toInt = -25 := by decide
  have km24 : (-24 : Int32).toInt = -24 := by decide
  have km14 : (-14 : Int32).toInt = -14 := by decide
  have km5 : (-5 : Int32).toInt = -5 := by decide
  have km4 : (-4 : Int32).toInt = -4 := by decide
  have km3 : (-3 : Int32).toInt = -3 := by decide
  have km2 : (-2 : Int32).toInt = -2 := by decide
  have km1 : (-1 : Int32).toInt = -1 := by decide
  have k0 : (0 : Int32).toInt = 0 := by decide
  have hl : lv_has ls 1 [(0, .ref (ad (70)))] := hl
  refine lv_aload_n hx hb dX4_wordHere_0 rfl (lv_at hl 0 rfl) ?_
  refine lv_aload_n hx hb dX4_wordHere_1 rfl (lv_at hl 0 rfl) ?_
  refine m_geti (70) 4 hx hb hts hown hE oc4 hM (hG.1 70 (by decide)) rfl (by decide) rfl tb_322 dX4_wordHere_2 ?_
  have g1 := hI.get (70) 4 (lo := 0) (hi := 801) rfl
  refine m_calli (m_runV (70) (As := [.int (I (70) 4)]) (rest := []) hx hb hml hown hts hE hM hS hA ce_X4_byteAt tb_577 (V_X4_byteAt l D A ad ns I L G (I (70) 4) hG hI) rfl rfl ⟨Nat.le_of_ble_eq_true rfl, Nat.le_of_ble_eq_true rfl⟩ (hG.1 70 (by decide)) rfl rfl (by decide) rfl hl.1 rfl (Nat.le_of_ble_eq_true rfl) dX4_wordHere_5 ⟨Nat.le_of_ble_eq_true rfl, Nat.le_of_ble_eq_true rfl⟩) hS (fun r2 u H locs hw hM hS => ?_)
  obtain ⟨rfl, xr2⟩ := hw
  have hM : Mem D A ad ns I L G H := hM
  by_cases c3 : (r2).toInt < 97 ∨ 115 < (r2).toInt
  · refine lv_tableOut (tgt := 249) hx hb dX4_wordHere_8 c3 (by decide) ?_
    refine lv_aload_n hx hb dX4_wordHere_249 rfl (lv_at hl 0 rfl) ?_
    refine va_ldcS hx hb hown (EV.str hE 9 rfl).1 dX4_wordHere_250 ?_
    refine m_calli (m_runV (70) (As := [.ref (D.2 100 9)]) (rest := []) hx hb hml hown hts hE hM hS hA ce_X4_isWord tb_600 (V_X4_isWord l D A ad ns I L G 9 _ hG hI rfl (by decide)) rfl rfl ⟨Nat.le_of_ble_eq_true rfl, Nat.le_of_ble_eq_true rfl⟩ (hG.1 70 (by decide)) rfl rfl (by decide) rfl hl.1 rfl (Nat.le_of_ble_eq_true rfl) dX4_wordHere_252 ⟨Nat.le_of_ble_eq_true rfl, Nat.le_of_ble_eq_true rfl⟩) hS (fun r4 u H locs hw hM hS => ?_)
    obtain ⟨rfl, xr4⟩ := hw
    have hM : Mem D A ad ns I L G H := hM
    refine lv_if_eq (tgt := 263) hx hb dX4_wordHere_255 (by decide) (fun c5 => ?_) (fun c5 => ?_)
    · have hc5 := c5
      have q5 := q_eq hc5
      refine lv_bipush (v := (-47)) hx hb dX4_wordHere_263 (by decide) ?_
      exact m_iret hx hb hr hlocks hM hS (Nat.le_of_ble_eq_true rfl) (Nat.le_of_ble_eq_true rfl) ⟨rfl, trivial⟩ dX4_wordHere_265
    · have hc5 := c5
      have q5 := q_ne hc5
      refine lv_bipush (v := (-40)) hx hb dX4_wordHere_258 (by decide) ?_
      refine lv_goto (tgt := 265) hx hb dX4_wordHere_260 (by decide) ?_
      exact m_iret hx hb hr hlocks hM hS (Nat.le_of_ble_eq_true rfl) (Nat.le_of_ble_eq_true rfl) ⟨rfl, trivial⟩ dX4_wordHere_265
  · have qc3 : (r2).toInt = 97 ∨ (r2).toInt = 98 ∨ (r2).toInt = 99 ∨ (r2).toInt = 100 ∨ (r2).toInt = 101 ∨ (r2).toInt = 102 ∨ (r2).toInt = 103 ∨ (r2).toInt = 104 ∨ (r2).toInt = 105 ∨ (r2).toInt = 106 ∨ (r2).toInt = 107 ∨ (r2).toInt = 108 ∨ (r2).toInt = 109 ∨ (r2).toInt = 110 ∨ (r2).toInt = 111 ∨ (r2).toInt = 112 ∨ (r2).toInt = 113 ∨ (r2).toInt = 114 ∨ (r2).toInt = 115 := by omega
    rcases qc3 with qc3 | qc3 | qc3 | qc3 | qc3 | qc3 | qc3 | qc3 | qc3 | qc3 | qc3 | qc3 | qc3 | qc3 | qc3 | qc3 | qc3 | qc3 | qc3
    · refine lv_tableIn (off := 92) (tgt := 100) hx hb dX4_wordHere_8 (by omega) (by omega) (by rw [qc3]; rfl) (by decide) ?_
      refine lv_aload_n hx hb dX4_wordHere_100 rfl (lv_at hl 0 rfl) ?_
      refine va_ldcS hx hb hown (EV.str hE 0 rfl).1 dX4_wordHere_101 ?_
      refine m_calli (m_runV (70) (As := [.ref (D.2 100 0)]) (rest := []) hx hb hml hown hts hE hM hS hA ce_X4_isWord tb_600 (V_X4_isWord l D A ad ns I L G 0 _ hG hI rfl (by decide)) rfl rfl ⟨Nat.le_of_ble_eq_true rfl, Nat.le_of_ble_eq_true rfl⟩ (hG.1 70 (by decide)) rfl rfl (by decide) rfl hl.1 rfl (Nat.le_of_ble_eq_true rfl) dX4_wordHere_103 ⟨Nat.le_of_ble_eq_true rfl, Nat.le_of_ble_eq_true rfl⟩) hS (fun r6 u H locs hw hM hS => ?_)
      obtain ⟨rfl, xr6⟩ := hw
      have hM : Mem D A ad ns I L G H := hM
      refine lv_if_eq (tgt := 114) hx hb dX4_wordHere_106 (by decide) (fun c7 => ?_) (fun c7 => ?_)
      · have hc7 := c7
        have q7 := q_eq hc7
        refine lv_bipush (v := (-47)) hx hb dX4_wordHere_114 (by decide) ?_
        exact m_iret hx hb hr hlocks hM hS (Nat.le_of_ble_eq_true rfl) (Nat.le_of_ble_eq_true rfl) ⟨rfl, trivial⟩ dX4_wordHere_116
      · have hc7 := c7
        have q7 := q_ne hc7
        refine lv_bipush (v := (-24)) hx hb dX4_wordHere_109 (by decide) ?_
        refine lv_goto (tgt := 116) hx hb dX4_wordHere_111 (by decide) ?_
        exact m_iret hx hb hr hlocks hM hS (Nat.le_of_ble_eq_true rfl) (Nat.le_of_ble_eq_true rfl) ⟨rfl, trivial⟩ dX4_wordHere_116
    · refine lv_tableIn (off := 241) (tgt := 249) hx hb dX4_wordHere_8 (by omega) (by omega) (by rw [qc3]; rfl) (by decide) ?_
      refine lv_aload_n hx hb dX4_wordHere_249 rfl (lv_at hl 0 rfl) ?_
      refine va_ldcS hx hb hown (EV.str hE 9 rfl).1 dX4_wordHere_250 ?_
      refine m_calli (m_runV (70) (As := [.ref (D.2 100 9)]) (rest := []) hx hb hml hown hts hE hM hS hA ce_X4_isWord tb_600 (V_X4_isWord l D A ad ns I L G 9 _ hG hI rfl (by decide)) rfl rfl ⟨Nat.le_of_ble_eq_true rfl, Nat.le_of_ble_eq_true rfl⟩ (hG.1 70 (by decide)) rfl rfl (by decide) rfl hl.1 rfl (Nat.le_of_ble_eq_true rfl) dX4_wordHere_252 ⟨Nat.le_of_ble_eq_true rfl, Nat.le_of_ble_eq_true rfl⟩) hS (fun r8 u H locs hw hM hS => ?_)
      obtain ⟨rfl, xr8⟩ := hw
      have hM : Mem D A ad ns I L G H := hM
      refine lv_if_eq (tgt := 263) hx hb dX4_wordHere_255 (by decide) (fun c9 => ?_) (fun c9 => ?_)
      · have hc9 := c9
        have q9 := q_eq hc9
        refine lv_bipush (v := (-47)) hx hb dX4_wordHere_263 (by decide) ?_
        exact m_iret hx hb hr hlocks hM hS (Nat.le_of_ble_eq_true rfl) (Nat.le_of_ble_eq_true rfl) ⟨rfl, trivial⟩ dX4_wordHere_265
      · have hc9 := c9
        have q9 := q_ne hc9
        refine lv_bipush (v := (-40)) hx hb dX4_wordHere_258 (by decide) ?_
        refine lv_goto (tgt := 265) hx hb dX4_wordHere_260 (by decide) ?_
        exact m_iret hx hb hr hlocks hM hS (Nat.le_of_ble_eq_true rfl) (Nat.le_of_ble_eq_true rfl) ⟨rfl, trivial⟩ dX4_wordHere_265
    · refine lv_tableIn (off := 241) (tgt := 249) hx hb dX4_wordHere_8 (by omega) (by omega) (by rw [qc3]; rfl) (by decide) ?_
      refine lv_aload_n hx hb dX4_wordHere_249 rfl (lv_at hl 0 rfl) ?_
      refine va_ldcS hx hb hown (EV.str hE 9 rfl).1 dX4_wordHere_250 ?_
      refine m_calli (m_runV (70) (As := [.ref (D.2 100 9)]) (rest := []) hx hb hml hown hts hE hM hS hA ce_X4_isWord tb_600 (V_X4_isWord l D A ad ns I L G 9 _ hG hI rfl (by decide)) rfl rfl ⟨Nat.le_of_ble_eq_true rfl, Nat.le_of_ble_eq_true rfl⟩ (hG.1 70 (by decide)) rfl rfl (by decide) rfl hl.1 rfl (Nat.le_of_ble_eq_true rfl) dX4_wordHere_252 ⟨Nat.le_of_ble_eq_true rfl, Nat.le_of_ble_eq_true rfl⟩) hS (fun r10 u H locs hw hM hS => ?_)
      obtain ⟨rfl, xr10⟩ := hw
      have hM : Mem D A ad ns I L G H := hM
      refine lv_if_eq (tgt := 263) hx hb dX4_wordHere_255 (by decide) (fun c11 => ?_) (fun c11 => ?_)
      · have hc11 := c11
        have q11 := q_eq hc11
        refine lv_bipush (v := (-47)) hx hb dX4_wordHere_263 (by decide) ?_
        exact m_iret hx hb hr hlocks hM hS (Nat.le_of_ble_eq_true rfl) (Nat.le_of_ble_eq_true rfl) ⟨rfl, trivial⟩ dX4_wordHere_265
      · have hc11 := c11
        have q11 := q_ne hc11
        refine lv_bipush (v := (-40)) hx hb dX4_wordHere_258 (by decide) ?_
        refine lv_goto (tgt := 265) hx hb dX4_wordHere_260 (by decide) ?_
        exact m_iret hx hb hr hlocks hM hS (Nat.le_of_ble_eq_true rfl) (Nat.le_of_ble_eq_true rfl) ⟨rfl, trivial⟩ dX4_wordHere_265
    · refine lv_tableIn (off := 109) (tgt := 117) hx hb dX4_wordHere_8 (by omega) (by omega) (by rw [qc3]; rfl) (by decide) ?_
      refine lv_aload_n hx hb dX4_wordHere_117 rfl (lv_at hl 0 rfl) ?_
      refine va_ldcS hx hb hown (EV.str hE 1 rfl).1 dX4_wordHere_118 ?_
      refine m_calli (m_runV (70) (As := [.ref (D.2 100 1)]) (rest := []) hx hb hml hown hts hE hM hS hA ce_X4_isWord tb_600 (V_X4_isWord l D A ad ns I L G 1 _ hG hI rfl (by decide)) rfl rfl ⟨Nat.le_of_ble_eq_true rfl, Nat.le_of_ble_eq_true rfl⟩ (hG.1 70 (by decide)) rfl rfl (by decide) rfl hl.1 rfl (Nat.le_of_ble_eq_true rfl) dX4_wordHere_120 ⟨Nat.le_of_ble_eq_true rfl, Nat.le_of_ble_eq_true rfl⟩) hS (fun r12 u H locs hw hM hS => ?_)
      obtain ⟨rfl, xr12⟩ := hw
      have hM : Mem D A ad ns I L G H := hM
      refine lv_if_eq (tgt := 131) hx hb dX4_wordHere_123 (by decide) (fun c13 => ?_) (fun c13 => ?_)
      · have hc13 := c13
        have q13 := q_eq hc13
        refine lv_bipush (v := (-47)) hx hb dX4_wordHere_131 (by decide) ?_
        exact m_iret hx hb hr hlocks hM hS (Nat.le_of_ble_eq_true rfl) (Nat.le_of_ble_eq_true rfl) ⟨rfl, trivial⟩ dX4_wordHere_133
      · have hc13 := c13
        have q13 := q_ne hc13
        refine lv_bipush (v := (-3)) hx hb dX4_wordHere_126 (by decide) ?_
        refine lv_goto (tgt := 133) hx hb dX4_wordHere_128 (by decide) ?_
        exact m_iret hx hb hr hlocks hM hS (Nat.le_of_ble_eq_true rfl) (Nat.le_of_ble_eq_true rfl) ⟨rfl, trivial⟩ dX4_wordHere_133
    · refine lv_tableIn (off := 241) (tgt := 249) hx hb dX4_wordHere_8 (by omega) (by omega) (by rw [qc3]; rfl) (by decide) ?_
      refine lv_aload_n hx hb dX4_wordHere_249 rfl (lv_at hl 0 rfl) ?_
      refine va_ldcS hx hb hown (EV.str hE 9 rfl).1 dX4_wordHere_250 ?_
      refine m_calli (m_runV (70) (As := [.ref (D.2 100 9)]) (rest := []) hx hb hml hown hts hE hM hS hA ce_X4_isWord tb_600 (V_X4_isWord l D A ad ns I L G 9 _ hG hI rfl (by decide)) rfl rfl ⟨Nat.le_of_ble_eq_true rfl, Nat.le_of_ble_eq_true rfl⟩ (hG.1 70 (by decide)) rfl rfl (by decide) rfl hl.1 rfl (Nat.le_of_ble_eq_true rfl) dX4_wordHere_252 ⟨Nat.le_of_ble_eq_true rfl, Nat.le_of_ble_eq_true rfl⟩) hS (fun r14 u H locs hw hM hS => ?_)
      obtain ⟨rfl, xr14⟩ := hw
      have hM : Mem D A ad ns I L G H := hM
      refine lv_if_eq (tgt := 263) hx hb dX4_wordHere_255 (by decide) (fun c15 => ?_) (fun c15 => ?_)
      · have hc15 := c15
        have q15 := q_eq hc15
        refine lv_bipush (v := (-47)) hx hb dX4_wordHere_263 (by decide) ?_
        exact m_iret hx hb hr hlocks hM hS (Nat.le_of_ble_eq_true rfl) (Nat.le_of_ble_eq_true rfl) ⟨rfl, trivial⟩ dX4_wordHere_265
      · have hc15 := c15
        have q15 := q_ne hc15
        refine lv_bipush (v := (-40)) hx hb dX4_wordHere_258 (by decide) ?_
        refine lv_goto (tgt := 265) hx hb dX4_wordHere_260 (by decide) ?_
        exact m_iret hx hb hr hlocks hM hS (Nat.le_of_ble_eq_true rfl) (Nat.le_of_ble_eq_true rfl) ⟨rfl, trivial⟩ dX4_wordHere_265
    · refine lv_tableIn (off := 241) (tgt := 249) hx hb dX4_wordHere_8 (by omega) (by omega) (by rw [qc3]; rfl) (by decide) ?_
      refine lv_aload_n hx hb dX4_wordHere_249 rfl (lv_at hl 0 rfl) ?_
      refine va_ldcS hx hb hown (EV.str hE 9 rfl).1 dX4_wordHere_250 ?_
      refine m_calli (m_runV (70) (As := [.ref (D.2 100 9)]) (rest := []) hx hb hml hown hts hE hM hS hA ce_X4_isWord tb_600 (V_X4_isWord l D A ad ns I L G 9 _ hG hI rfl (by decide)) rfl rfl ⟨Nat.le_of_ble_eq_true rfl, Nat.le_of_ble_eq_true rfl⟩ (hG.1 70 (by decide)) rfl rfl (by decide) rfl hl.1 rfl (Nat.le_of_ble_eq_true rfl) dX4_wordHere_252 ⟨Nat.le_of_ble_eq_true rfl, Nat.le_of_ble_eq_true rfl⟩) hS (fun r16 u H locs hw hM hS => ?_)
      obtain ⟨rfl, xr16⟩ := hw
      have hM : Mem D A ad ns I L G H := hM
      refine lv_if_eq (tgt := 263) hx hb dX4_wordHere_255 (by decide) (fun c17 => ?_) (fun c17 => ?_)
      · have hc17 := c17
        have q17 := q_eq hc17
        refine lv_bipush (v := (-47)) hx hb dX4_wordHere_263 (by decide) ?_
        exact m_iret hx hb hr hlocks hM hS (Nat.le_of_ble_eq_true rfl) (Nat.le_of_ble_eq_true rfl) ⟨rfl, trivial⟩ dX4_wordHere_265
      · have hc17 := c17
        have q17 := q_ne hc17
        refine lv_bipush (v := (-40)) hx hb dX4_wordHere_258 (by decide) ?_
        refine lv_goto (tgt := 265) hx hb dX4_wordHere_260 (by decide) ?_
        exact m_iret hx hb hr hlocks hM hS (Nat.le_of_ble_eq_true rfl) (Nat.le_of_ble_eq_true rfl) ⟨rfl, trivial⟩ dX4_wordHere_265
    · refine lv_tableIn (off := 241) (tgt := 249) hx hb dX4_wordHere_8 (by omega) (by omega) (by rw [qc3]; rfl) (by decide) ?_
      refine lv_aload_n hx hb dX4_wordHere_249 rfl (lv_at hl 0 rfl) ?_
      refine va_ldcS hx hb hown (EV.str hE 9 rfl).1 dX4_wordHere_250 ?_
      refine m_calli (m_runV (70) (As := [.ref (D.2 100 9)]) (rest := []) hx hb hml hown hts hE hM hS hA ce_X4_isWord tb_600 (V_X4_isWord l D A ad ns I L G 9 _ hG hI rfl (by decide)) rfl rfl ⟨Nat.le_of_ble_eq_true rfl, Nat.le_of_ble_eq_true rfl⟩ (hG.1 70 (by decide)) rfl rfl (by decide) rfl hl.1 rfl (Nat.le_of_ble_eq_true rfl) dX4_wordHere_252 ⟨Nat.le_of_ble_eq_true rfl, Nat.le_of_ble_eq_true rfl⟩) hS (fun r18 u H locs hw hM hS => ?_)
      obtain ⟨rfl, xr18⟩ := hw
      have hM : Mem D A ad ns I L G H := hM
      refine lv_if_eq (tgt := 263) hx hb dX4_wordHere_255 (by decide) (fun c19 => ?_) (fun c19 => ?_)
      · have hc19 := c19
        have q19 := q_eq hc19
        refine lv_bipush (v := (-47)) hx hb dX4_wordHere_263 (by decide) ?_
        exact m_iret hx hb hr hlocks hM hS (Nat.le_of_ble_eq_true rfl) (Nat.le_of_ble_eq_true rfl) ⟨rfl, trivial⟩ dX4_wordHere_265
      · have hc19 := c19
        have q19 := q_ne hc19
        refine lv_bipush (v := (-40)) hx hb dX4_wordHere_258 (by decide) ?_
        refine lv_goto (tgt := 265) hx hb dX4_wordHere_260 (by decide) ?_
        exact m_iret hx hb hr hlocks hM hS (Nat.le_of_ble_eq_true rfl) (Nat.le_of_ble_eq_true rfl) ⟨rfl, trivial⟩ dX4_wordHere_265
    · refine lv_tableIn (off := 126) (tgt := 134) hx hb dX4_wordHere_8 (by omega) (by omega) (by rw [qc3]; rfl) (by decide) ?_
      refine lv_aload_n hx hb dX4_wordHere_134 rfl (lv_at hl 0 rfl) ?_
      refine va_ldcS hx hb hown (EV.str hE 2 rfl).1 dX4_wordHere_135 ?_
      refine m_calli (m_runV (70) (As := [.ref (D.2 100 2)]) (rest := []) hx hb hml hown hts hE hM hS hA ce_X4_isWord tb_600 (V_X4_isWord l D A ad ns I L G 2 _ hG hI rfl (by decide)) rfl rfl ⟨Nat.le_of_ble_eq_true rfl, Nat.le_of_ble_eq_true rfl⟩ (hG.1 70 (by decide)) rfl rfl (by decide) rfl hl.1 rfl (Nat.le_of_ble_eq_true rfl) dX4_wordHere_137 ⟨Nat.le_of_ble_eq_true rfl, Nat.le_of_ble_eq_true rfl⟩) hS (fun r20 u H locs hw hM hS => ?_)
      obtain ⟨rfl, xr20⟩ := hw
      have hM : Mem D A ad ns I L G H := hM
      refine lv_if_eq (tgt := 147) hx hb dX4_wordHere_140 (by decide) (fun c21 => ?_) (fun c21 => ?_)
      · have hc21 := c21
        have q21 := q_eq hc21
        refine lv_bipush (v := (-47)) hx hb dX4_wordHere_147 (by decide) ?_
        exact m_iret hx hb hr hlocks hM hS (Nat.le_of_ble_eq_true rfl) (Nat.le_of_ble_eq_true rfl) ⟨rfl, trivial⟩ dX4_wordHere_149
      · have hc21 := c21
        have q21 := q_ne hc21
        refine lv_iconst (v := (-1)) hx hb dX4_wordHere_143 (by decide) ?_
        refine lv_goto (tgt := 149) hx hb dX4_wordHere_144 (by decide) ?_
        exact m_iret hx hb hr hlocks hM hS (Nat.le_of_ble_eq_true rfl) (Nat.le_of_ble_eq_true rfl) ⟨rfl, trivial⟩ dX4_wordHere_149
    · refine lv_tableIn (off := 142) (tgt := 150) hx hb dX4_wordHere_8 (by omega) (by omega) (by rw [qc3]; rfl) (by decide) ?_
      refine lv_aload_n hx hb dX4_wordHere_150 rfl (lv_at hl 0 rfl) ?_
      refine va_ldcS hx hb hown (EV.str hE 3 rfl).1 dX4_wordHere_151 ?_
      refine m_calli (m_runV (70) (As := [.ref (D.2 100 3)]) (rest := []) hx hb hml hown hts hE hM hS hA ce_X4_isWord tb_600 (V_X4_isWord l D A ad ns I L G 3 _ hG hI rfl (by decide)) rfl rfl ⟨Nat.le_of_ble_eq_true rfl, Nat.le_of_ble_eq_true rfl⟩ (hG.1 70 (by decide)) rfl rfl (by decide) rfl hl.1 rfl (Nat.le_of_ble_eq_true rfl) dX4_wordHere_153 ⟨Nat.le_of_ble_eq_true rfl, Nat.le_of_ble_eq_true rfl⟩) hS (fun r22 u H locs hw hM hS => ?_)
      obtain ⟨rfl, xr22⟩ := hw
      have hM : Mem D A ad ns I L G H := hM
      refine lv_if_eq (tgt := 164) hx hb dX4_wordHere_156 (by decide) (fun c23 => ?_) (fun c23 => ?_)
      · have hc23 := c23
        have q23 := q_eq hc23
        refine lv_bipush (v := (-47)) hx hb dX4_wordHere_164 (by decide) ?_
        exact m_iret hx hb hr hlocks hM hS (Nat.le_of_ble_eq_true rfl) (Nat.le_of_ble_eq_true rfl) ⟨rfl, trivial⟩ dX4_wordHere_166
      · have hc23 := c23
        have q23 := q_ne hc23
        refine lv_bipush (v := (-41)) hx hb dX4_wordHere_159 (by decide) ?_
        refine lv_goto (tgt := 166) hx hb dX4_wordHere_161 (by decide) ?_
        exact m_iret hx hb hr hlocks hM hS (Nat.le_of_ble_eq_true rfl) (Nat.le_of_ble_eq_true rfl) ⟨rfl, trivial⟩ dX4_wordHere_166
    · refine lv_tableIn (off := 241) (tgt := 249) hx hb dX4_wordHere_8 (by omega) (by omega) (by rw [qc3]; rfl) (by decide) ?_
      refine lv_aload_n hx hb dX4_wordHere_249 rfl (lv_at hl 0 rfl) ?_
      refine va_ldcS hx hb hown (EV.str hE 9 rfl).1 dX4_wordHere_250 ?_
      refine m_calli (m_runV (70) (As := [.ref (D.2 100 9)]) (rest := []) hx hb hml hown hts hE hM hS hA ce_X4_isWord tb_600 (V_X4_isWord l D A ad ns I L G 9 _ hG hI rfl (by decide)) rfl rfl ⟨Nat.le_of_ble_eq_true rfl, Nat.le_of_ble_eq_true rfl⟩ (hG.1 70 (by decide)) rfl rfl (by decide) rfl hl.1 rfl (Nat.le_of_ble_eq_true rfl) dX4_wordHere_252 ⟨Nat.le_of_ble_eq_true rfl, Nat.le_of_ble_eq_true rfl⟩) hS (fun r24 u H locs hw hM hS => ?_)
      obtain ⟨rfl, xr24⟩ := hw
      have hM : Mem D A ad ns I L G H := hM
      refine lv_if_eq (tgt := 263) hx hb dX4_wordHere_255 (by decide) (fun c25 => ?_) (fun c25 => ?_)
      · have hc25 := c25
        have q25 := q_eq hc25
        refine lv_bipush (v := (-47)) hx hb dX4_wordHere_263 (by decide) ?_
        exact m_iret hx hb hr hlocks hM hS (Nat.le_of_ble_eq_true rfl) (Nat.le_of_ble_eq_true rfl) ⟨rfl, trivial⟩ dX4_wordHere_265
      · have hc25 := c25
        have q25 := q_ne hc25
        refine lv_bipush (v := (-40)) hx hb dX4_wordHere_258 (by decide) ?_
        refine lv_goto (tgt := 265) hx hb dX4_wordHere_260 (by decide) ?_
        exact m_iret hx hb hr hlocks hM hS (Nat.le_of_ble_eq_true rfl) (Nat.le_of_ble_eq_true rfl) ⟨rfl, trivial⟩ dX4_wordHere_265
    · refine lv_tableIn (off := 241) (tgt := 249) hx hb dX4_wordHere_8 (by omega) (by omega) (by rw [qc3]; rfl) (by decide) ?_
      refine lv_aload_n hx hb dX4_wordHere_249 rfl (lv_at hl 0 rfl) ?_
      refine va_ldcS hx hb hown (EV.str hE 9 rfl).1 dX4_wordHere_250 ?_
      refine m_calli (m_runV (70) (As := [.ref (D.2 100 9)]) (rest := []) hx hb hml hown hts hE hM hS hA ce_X4_isWord tb_600 (V_X4_isWord l D A ad ns I L G 9 _ hG hI rfl (by decide)) rfl rfl ⟨Nat.le_of_ble_eq_true rfl, Nat.le_of_ble_eq_true rfl⟩ (hG.1 70 (by decide)) rfl rfl (by decide) rfl hl.1 rfl (Nat.le_of_ble_eq_true rfl) dX4_wordHere_252 ⟨Nat.le_of_ble_eq_true rfl, Nat.le_of_ble_eq_true rfl⟩) hS (fun r26 u H locs hw hM hS => ?_)
      obtain ⟨rfl, xr26⟩ := hw
      have hM : Mem D A ad ns I L G H := hM
      refine lv_if_eq (tgt := 263) hx hb dX4_wordHere_255 (by decide) (fun c27 => ?_) (fun c27 => ?_)
      · have hc27 := c27
        have q27 := q_eq hc27
        refine lv_bipush (v := (-47)) hx hb dX4_wordHere_263 (by decide) ?_
        exact m_iret hx hb hr hlocks hM hS (Nat.le_of_ble_eq_true rfl) (Nat.le_of_ble_eq_true rfl) ⟨rfl, trivial⟩ dX4_wordHere_265
      · have hc27 := c27
        have q27 := q_ne hc27
        refine lv_bipush (v := (-40)) hx hb dX4_wordHere_258 (by decide) ?_
        refine lv_goto (tgt := 265) hx hb dX4_wordHere_260 (by decide) ?_
        exact m_iret hx hb hr hlocks hM hS (Nat.le_of_ble_eq_true rfl) (Nat.le_of_ble_eq_true rfl) ⟨rfl, trivial⟩ dX4_wordHere_265
    · refine lv_tableIn (off := 241) (tgt := 249) hx hb dX4_wordHere_8 (by omega) (by omega) (by rw [qc3]; rfl) (by decide) ?_
      refine lv_aload_n hx hb dX4_wordHere_249 rfl (lv_at hl 0 rfl) ?_
      refine va_ldcS hx hb hown (EV.str hE 9 rfl).1 dX4_wordHere_250 ?_
      refine m_calli (m_runV (70) (As := [.ref (D.2 100 9)]) (rest := []) hx hb hml hown hts hE hM hS hA ce_X4_isWord tb_600 (V_X4_isWord l D A ad ns I L G 9 _ hG hI rfl (by decide)) rfl rfl ⟨Nat.le_of_ble_eq_true rfl, Nat.le_of_ble_eq_true rfl⟩ (hG.1 70 (by decide)) rfl rfl (by decide) rfl hl.1 rfl (Nat.le_of_ble_eq_true rfl) dX4_wordHere_252 ⟨Nat.le_of_ble_eq_true rfl, Nat.le_of_ble_eq_true rfl⟩) hS (fun r28 u H locs hw hM hS => ?_)
      obtain ⟨rfl, xr28⟩ := hw
      have hM : Mem D A ad ns I L G H := hM
      refine lv_if_eq (tgt := 263) hx hb dX4_wordHere_255 (by decide) (fun c29 => ?_) (fun c29 => ?_)
      · have hc29 := c29
        have q29 := q_eq hc29
        refine lv_bipush (v := (-47)) hx hb dX4_wordHere_263 (by decide) ?_
        exact m_iret hx hb hr hlocks hM hS (Nat.le_of_ble_eq_true rfl) (Nat.le_of_ble_eq_true rfl) ⟨rfl, trivial⟩ dX4_wordHere_265
      · have hc29 := c29
        have q29 := q_ne hc29
        refine lv_bipush (v := (-40)) hx hb dX4_wordHere_258 (by decide) ?_
        refine lv_goto (tgt := 265) hx hb dX4_wordHere_260 (by decide) ?_
        exact m_iret hx hb hr hlocks hM hS (Nat.le_of_ble_eq_true rfl) (Nat.le_of_ble_eq_true rfl) ⟨rfl, trivial⟩ dX4_wordHere_265
    · refine lv_tableIn (off := 159) (tgt := 167) hx hb dX4_wordHere_8 (by omega) (by omega) (by rw [qc3]; rfl) (by decide) ?_
      refine lv_aload_n hx hb dX4_wordHere_167 rfl (lv_at hl 0 rfl) ?_
      refine va_ldcS hx hb hown (EV.str hE 4 rfl).1 dX4_wordHere_168 ?_
      refine m_calli (m_runV (70) (As := [.ref (D.2 100 4)]) (rest := []) hx hb hml hown hts hE hM hS hA ce_X4_isWord tb_600 (V_X4_isWord l D A ad ns I L G 4 _ hG hI rfl (by decide)) rfl rfl ⟨Nat.le_of_ble_eq_true rfl, Nat.le_of_ble_eq_true rfl⟩ (hG.1 70 (by decide)) rfl rfl (by decide) rfl hl.1 rfl (Nat.le_of_ble_eq_true rfl) dX4_wordHere_170 ⟨Nat.le_of_ble_eq_true rfl, Nat.le_of_ble_eq_true rfl⟩) hS (fun r30 u H locs hw hM hS => ?_)
      obtain ⟨rfl, xr30⟩ := hw
      have hM : Mem D A ad ns I L G H := hM
      refine lv_if_eq (tgt := 181) hx hb dX4_wordHere_173 (by decide) (fun c31 => ?_) (fun c31 => ?_)
      · have hc31 := c31
        have q31 := q_eq hc31
        refine lv_bipush (v := (-47)) hx hb dX4_wordHere_181 (by decide) ?_
        exact m_iret hx hb hr hlocks hM hS (Nat.le_of_ble_eq_true rfl) (Nat.le_of_ble_eq_true rfl) ⟨rfl, trivial⟩ dX4_wordHere_183
      · have hc31 := c31
        have q31 := q_ne hc31
        refine lv_bipush (v := (-2)) hx hb dX4_wordHere_176 (by decide) ?_
        refine lv_goto (tgt := 183) hx hb dX4_wordHere_178 (by decide) ?_
        exact m_iret hx hb hr hlocks hM hS (Nat.le_of_ble_eq_true rfl) (Nat.le_of_ble_eq_true rfl) ⟨rfl, trivial⟩ dX4_wordHere_183
    · refine lv_tableIn (off := 176) (tgt := 184) hx hb dX4_wordHere_8 (by omega) (by omega) (by rw [qc3]; rfl) (by decide) ?_
      refine lv_aload_n hx hb dX4_wordHere_184 rfl (lv_at hl 0 rfl) ?_
      refine va_ldcS hx hb hown (EV.str hE 5 rfl).1 dX4_wordHere_185 ?_
      refine m_calli (m_runV (70) (As := [.ref (D.2 100 5)]) (rest := []) hx hb hml hown hts hE hM hS hA ce_X4_isWord tb_600 (V_X4_isWord l D A ad ns I L G 5 _ hG hI rfl (by decide)) rfl rfl ⟨Nat.le_of_ble_eq_true rfl, Nat.le_of_ble_eq_true rfl⟩ (hG.1 70 (by decide)) rfl rfl (by decide) rfl hl.1 rfl (Nat.le_of_ble_eq_true rfl) dX4_wordHere_187 ⟨Nat.le_of_ble_eq_true rfl, Nat.le_of_ble_eq_true rfl⟩) hS (fun r32 u H locs hw hM hS => ?_)
      obtain ⟨rfl, xr32⟩ := hw
      have hM : Mem D A ad ns I L G H := hM
      refine lv_if_eq (tgt := 198) hx hb dX4_wordHere_190 (by decide) (fun c33 => ?_) (fun c33 => ?_)
      · have hc33 := c33
        have q33 := q_eq hc33
        refine lv_bipush (v := (-47)) hx hb dX4_wordHere_198 (by decide) ?_
        exact m_iret hx hb hr hlocks hM hS (Nat.le_of_ble_eq_true rfl) (Nat.le_of_ble_eq_true rfl) ⟨rfl, trivial⟩ dX4_wordHere_200
      · have hc33 := c33
        have q33 := q_ne hc33
        refine lv_bipush (v := (-14)) hx hb dX4_wordHere_193 (by decide) ?_
        refine lv_goto (tgt := 200) hx hb dX4_wordHere_195 (by decide) ?_
        exact m_iret hx hb hr hlocks hM hS (Nat.le_of_ble_eq_true rfl) (Nat.le_of_ble_eq_true rfl) ⟨rfl, trivial⟩ dX4_wordHere_200
    · refine lv_tableIn (off := 193) (tgt := 201) hx hb dX4_wordHere_8 (by omega) (by omega) (by rw [qc3]; rfl) (by decide) ?_
      refine lv_aload_n hx hb dX4_wordHere_201 rfl (lv_at hl 0 rfl) ?_
      refine va_ldcS hx hb hown (EV.str hE 6 rfl).1 dX4_wordHere_202 ?_
      refine m_calli (m_runV (70) (As := [.ref (D.2 100 6)]) (rest := []) hx hb hml hown hts hE hM hS hA ce_X4_isWord tb_600 (V_X4_isWord l D A ad ns I L G 6 _ hG hI rfl (by decide)) rfl rfl ⟨Nat.le_of_ble_eq_true rfl, Nat.le_of_ble_eq_true rfl⟩ (hG.1 70 (by decide)) rfl rfl (by decide) rfl hl.1 rfl (Nat.le_of_ble_eq_true rfl) dX4_wordHere_204 ⟨Nat.le_of_ble_eq_true rfl, Nat.le_of_ble_eq_true rfl⟩) hS (fun r34 u H locs hw hM hS => ?_)
      obtain ⟨rfl, xr34⟩ := hw
      have hM : Mem D A ad ns I L G H := hM
      refine lv_if_eq (tgt := 215) hx hb dX4_wordHere_207 (by decide) (fun c35 => ?_) (fun c35 => ?_)
      · have hc35 := c35
        have q35 := q_eq hc35
        refine lv_bipush (v := (-47)) hx hb dX4_wordHere_215 (by decide) ?_
        exact m_iret hx hb hr hlocks hM hS (Nat.le_of_ble_eq_true rfl) (Nat.le_of_ble_eq_true rfl) ⟨rfl, trivial⟩ dX4_wordHere_217
      · have hc35 := c35
        have q35 := q_ne hc35
        refine lv_bipush (v := (-25)) hx hb dX4_wordHere_210 (by decide) ?_
        refine lv_goto (tgt := 217) hx hb dX4_wordHere_212 (by decide) ?_
        exact m_iret hx hb hr hlocks hM hS (Nat.le_of_ble_eq_true rfl) (Nat.le_of_ble_eq_true rfl) ⟨rfl, trivial⟩ dX4_wordHere_217
    · refine lv_tableIn (off := 241) (tgt := 249) hx hb dX4_wordHere_8 (by omega) (by omega) (by rw [qc3]; rfl) (by decide) ?_
      refine lv_aload_n hx hb dX4_wordHere_249 rfl (lv_at hl 0 rfl) ?_
      refine va_ldcS hx hb hown (EV.str hE 9 rfl).1 dX4_wordHere_250 ?_
      refine m_calli (m_runV (70) (As := [.ref (D.2 100 9)]) (rest := []) hx hb hml hown hts hE hM hS hA ce_X4_isWord tb_600 (V_X4_isWord l D A ad ns I L G 9 _ hG hI rfl (by decide)) rfl rfl ⟨Nat.le_of_ble_eq_true rfl, Nat.le_of_ble_eq_true rfl⟩ (hG.1 70 (by decide)) rfl rfl (by decide) rfl hl.1 rfl (Nat.le_of_ble_eq_true rfl) dX4_wordHere_252 ⟨Nat.le_of_ble_eq_true rfl, Nat.le_of_ble_eq_true rfl⟩) hS (fun r36 u H locs hw hM hS => ?_)
      obtain ⟨rfl, xr36⟩ := hw
      have hM : Mem D A ad ns I L G H := hM
      refine lv_if_eq (tgt := 263) hx hb dX4_wordHere_255 (by decide) (fun c37 => ?_) (fun c37 => ?_)
      · have hc37 := c37
        have q37 := q_eq hc37
        refine lv_bipush (v := (-47)) hx hb dX4_wordHere_263 (by decide) ?_
        exact m_iret hx hb hr hlocks hM hS (Nat.le_of_ble_eq_true rfl) (Nat.le_of_ble_eq_true rfl) ⟨rfl, trivial⟩ dX4_wordHere_265
      · have hc37 := c37
        have q37 := q_ne hc37
        refine lv_bipush (v := (-40)) hx hb dX4_wordHere_258 (by decide) ?_
        refine lv_goto (tgt := 265) hx hb dX4_wordHere_260 (by decide) ?_
        exact m_iret hx hb hr hlocks hM hS (Nat.le_of_ble_eq_true rfl) (Nat.le_of_ble_eq_true rfl) ⟨rfl, trivial⟩ dX4_wordHere_265
    · refine lv_tableIn (off := 241) (tgt := 249) hx hb dX4_wordHere_8 (by omega) (by omega) (by rw [qc3]; rfl) (by decide) ?_
      refine lv_aload_n hx hb dX4_wordHere_249 rfl (lv_at hl 0 rfl) ?_
      refine va_ldcS hx hb hown (EV.str hE 9 rfl).1 dX4_wordHere_250 ?_
      refine m_calli (m_runV (70) (As := [.ref (D.2 100 9)]) (rest := []) hx hb hml hown hts hE hM hS hA ce_X4_isWord tb_600 (V_X4_isWord l D A ad ns I L G 9 _ hG hI rfl (by decide)) rfl rfl ⟨Nat.le_of_ble_eq_true rfl, Nat.le_of_ble_eq_true rfl⟩ (hG.1 70 (by decide)) rfl rfl (by decide) rfl hl.1 rfl (Nat.le_of_ble_eq_true rfl) dX4_wordHere_252 ⟨Nat.le_of_ble_eq_true rfl, Nat.le_of_ble_eq_true rfl⟩) hS (fun r38 u H locs hw hM hS => ?_)
      obtain ⟨rfl, xr38⟩ := hw
      have hM : Mem D A ad ns I L G H := hM
      refine lv_if_eq (tgt := 263) hx hb dX4_wordHere_255 (by decide) (fun c39 => ?_) (fun c39 => ?_)
      · have hc39 := c39
        have q39 := q_eq hc39
        refine lv_bipush (v := (-47)) hx hb dX4_wordHere_263 (by decide) ?_
        exact m_iret hx hb hr hlocks hM hS (Nat.le_of_ble_eq_true rfl) (Nat.le_of_ble_eq_true rfl) ⟨rfl, trivial⟩ dX4_wordHere_265
      · have hc39 := c39
        have q39 := q_ne hc39
        refine lv_bipush (v := (-40)) hx hb dX4_wordHere_258 (by decide) ?_
        refine lv_goto (tgt := 265) hx hb dX4_wordHere_260 (by decide) ?_
        exact m_iret hx hb hr hlocks hM hS (Nat.le_of_ble_eq_true rfl) (Nat.le_of_ble_eq_true rfl) ⟨rfl, trivial⟩ dX4_wordHere_265
    · refine lv_tableIn (off := 241) (tgt := 249) hx hb dX4_wordHere_8 (by omega) (by omega) (by rw [qc3]; rfl) (by decide) ?_
      refine lv_aload_n hx hb dX4_wordHere_249 rfl (lv_at hl 0 rfl) ?_
      refine va_ldcS hx hb hown (EV.str hE 9 rfl).1 dX4_wordHere_250 ?_
      refine m_calli (m_runV (70) (As := [.ref (D.2 100 9)]) (rest := []) hx hb hml hown hts hE hM hS hA ce_X4_isWord tb_600 (V_X4_isWord l D A ad ns I L G 9 _ hG hI rfl (by decide)) rfl rfl ⟨Nat.le_of_ble_eq_true rfl, Nat.le_of_ble_eq_true rfl⟩ (hG.1 70 (by decide)) rfl rfl (by decide) rfl hl.1 rfl (Nat.le_of_ble_eq_true rfl) dX4_wordHere_252 ⟨Nat.le_of_ble_eq_true rfl, Nat.le_of_ble_eq_true rfl⟩) hS (fun r40 u H locs hw hM hS => ?_)
      obtain ⟨rfl, xr40⟩ := hw
      have hM : Mem D A ad ns I L G H := hM
      refine lv_if_eq (tgt := 263) hx hb dX4_wordHere_255 (by decide) (fun c41 => ?_) (fun c41 => ?_)
      · have hc41 := c41
        have q41 := q_eq hc41
        refine lv_bipush (v := (-47)) hx hb dX4_wordHere_263 (by decide) ?_
        exact m_iret hx hb hr hlocks hM hS (Nat.le_of_ble_eq_true rfl) (Nat.le_of_ble_eq_true rfl) ⟨rfl, trivial⟩ dX4_wordHere_265
      · have hc41 := c41
        have q41 := q_ne hc41
        refine lv_bipush (v := (-40)) hx hb dX4_wordHere_258 (by decide) ?_
        refine lv_goto (tgt := 265) hx hb dX4_wordHere_260 (by decide) ?_
        exact m_iret hx hb hr hlocks hM hS (Nat.le_of_ble_eq_true rfl) (Nat.le_of_ble_eq_true rfl) ⟨rfl, trivial⟩ dX4_wordHere_265
    · refine lv_tableIn (off := 210) (tgt := 218) hx hb dX4_wordHere_8 (by omega) (by omega) (by rw [qc3]; rfl) (by decide) ?_
      refine lv_aload_n hx hb dX4_wordHere_218 rfl (lv_at hl 0 rfl) ?_
      refine va_ldcS hx hb hown (EV.str hE 7 rfl).1 dX4_wordHere_219 ?_
      refine m_calli (m_runV (70) (As := [.ref (D.2 100 7)]) (rest := []) hx hb hml hown hts hE hM hS hA ce_X4_isWord tb_600 (V_X4_isWord l D A ad ns I L G 7 _ hG hI rfl (by decide)) rfl rfl ⟨Nat.le_of_ble_eq_true rfl, Nat.le_of_ble_eq_true rfl⟩ (hG.1 70 (by decide)) rfl rfl (by decide) rfl hl.1 rfl (Nat.le_of_ble_eq_true rfl) dX4_wordHere_221 ⟨Nat.le_of_ble_eq_true rfl, Nat.le_of_ble_eq_true rfl⟩) hS (fun r42 u H locs hw hM hS => ?_)
      obtain ⟨rfl, xr42⟩ := hw
      have hM : Mem D A ad ns I L G H := hM
      refine lv_if_eq (tgt := 232) hx hb dX4_wordHere_224 (by decide) (fun c43 => ?_) (fun c43 => ?_)
      · have hc43 := c43
        have q43 := q_eq hc43
        refine lv_aload_n hx hb dX4_wordHere_232 rfl (lv_at hl 0 rfl) ?_
        refine va_ldcS hx hb hown (EV.str hE 8 rfl).1 dX4_wordHere_233 ?_
        refine m_calli (m_runV (70) (As := [.ref (D.2 100 8)]) (rest := []) hx hb hml hown hts hE hM hS hA ce_X4_isWord tb_600 (V_X4_isWord l D A ad ns I L G 8 _ hG hI rfl (by decide)) rfl rfl ⟨Nat.le_of_ble_eq_true rfl, Nat.le_of_ble_eq_true rfl⟩ (hG.1 70 (by decide)) rfl rfl (by decide) rfl hl.1 rfl (Nat.le_of_ble_eq_true rfl) dX4_wordHere_235 ⟨Nat.le_of_ble_eq_true rfl, Nat.le_of_ble_eq_true rfl⟩) hS (fun r44 u H locs hw hM hS => ?_)
        obtain ⟨rfl, xr44⟩ := hw
        have hM : Mem D A ad ns I L G H := hM
        refine lv_if_eq (tgt := 246) hx hb dX4_wordHere_238 (by decide) (fun c45 => ?_) (fun c45 => ?_)
        · have hc45 := c45
          have q45 := q_eq hc45
          refine lv_bipush (v := (-47)) hx hb dX4_wordHere_246 (by decide) ?_
          exact m_iret hx hb hr hlocks hM hS (Nat.le_of_ble_eq_true rfl) (Nat.le_of_ble_eq_true rfl) ⟨rfl, trivial⟩ dX4_wordHere_248
        · have hc45 := c45
          have q45 := q_ne hc45
          refine lv_bipush (v := (-4)) hx hb dX4_wordHere_241 (by decide) ?_
          refine lv_goto (tgt := 248) hx hb dX4_wordHere_243 (by decide) ?_
          exact m_iret hx hb hr hlocks hM hS (Nat.le_of_ble_eq_true rfl) (Nat.le_of_ble_eq_true rfl) ⟨rfl, trivial⟩ dX4_wordHere_248
      · have hc43 := c43
        have q43 := q_ne hc43
        refine lv_bipush (v := (-5)) hx hb dX4_wordHere_227 (by decide) ?_
        refine lv_goto (tgt := 248) hx hb dX4_wordHere_229 (by decide) ?_
        exact m_iret hx hb hr hlocks hM hS (Nat.le_of_ble_eq_true rfl) (Nat.le_of_ble_eq_true rfl) ⟨rfl, trivial⟩ dX4_wordHere_248
theorem dX4_readNumber_0 : decode cX4_readNumber 0 = .ok (.iconst 0, 1) := by decide +kernel
theorem dX4_readNumber_1 : decode cX4_readNumber 1 = .ok (.istore_n 1, 1) := by decide +kernel
theorem dX4_readNumber_2 : decode cX4_readNumber 2 = .ok (.aload_n 0, 1) := by decide +kernel
theorem dX4_readNumber_3 : decode cX4_readNumber 3 = .ok (.aload_n 0, 1) := by decide +kernel
theorem dX4_readNumber_4 : decode cX4_readNumber 4 = .ok (.getfield 29, 3) := by decide +kernel
theorem dX4_readNumber_7 : decode cX4_readNumber 7 = .ok (.aload_n 0, 1) := by decide +kernel
theorem dX4_readNumber_8 : decode cX4_readNumber 8 = .ok (.getfield 65, 3) := by decide +kernel
theorem dX4_readNumber_11 : decode cX4_readNumber 11 = .ok (.iadd, 1) := by decide +kernel
theorem dX4_readNumber_12 : decode cX4_readNumber 12 = .ok (.invokevirtual 132, 3) := by decide +kernel
theorem dX4_readNumber_15 : decode cX4_readNumber 15 = .ok (.invokestatic 135, 3) := by decide +kernel
theorem dX4_readNumber_18 : decode cX4_readNumber 18 = .ok (.ifCond .eq 56, 3) := by decide +kernel
theorem dX4_readNumber_21 : decode cX4_readNumber 21 = .ok (.aload_n 0, 1) := by decide +kernel
theorem dX4_readNumber_22 : decode cX4_readNumber 22 = .ok (.getfield 65, 3) := by decide +kernel
theorem dX4_readNumber_25 : decode cX4_readNumber 25 = .ok (.sipush 400, 3) := by decide +kernel
theorem dX4_readNumber_28 : decode cX4_readNumber 28 = .ok (.if_icmp .ge 46, 3) := by decide +kernel
theorem dX4_readNumber_31 : decode cX4_readNumber 31 = .ok (.aload_n 0, 1) := by decide +kernel
theorem dX4_readNumber_32 : decode cX4_readNumber 32 = .ok (.getfield 65, 3) := by decide +kernel
theorem dX4_readNumber_35 : decode cX4_readNumber 35 = .ok (.iconst 5, 1) := by decide +kernel
theorem dX4_readNumber_36 : decode cX4_readNumber 36 = .ok (.if_icmp .ge 25, 3) := by decide +kernel
theorem dX4_readNumber_39 : decode cX4_readNumber 39 = .ok (.bipush 10, 2) := by decide +kernel
theorem dX4_readNumber_41 : decode cX4_readNumber 41 = .ok (.iload_n 1, 1) := by decide +kernel
theorem dX4_readNumber_42 : decode cX4_readNumber 42 = .ok (.imul, 1) := by decide +kernel
theorem dX4_readNumber_43 : decode cX4_readNumber 43 = .ok (.aload_n 0, 1) := by decide +kernel
theorem dX4_readNumber_44 : decode cX4_readNumber 44 = .ok (.aload_n 0, 1) := by decide +kernel
theorem dX4_readNumber_45 : decode cX4_readNumber 45 = .ok (.getfield 29, 3) := by decide +kernel
theorem dX4_readNumber_48 : decode cX4_readNumber 48 = .ok (.aload_n 0, 1) := by decide +kernel
theorem dX4_readNumber_49 : decode cX4_readNumber 49 = .ok (.getfield 65, 3) := by decide +kernel
theorem dX4_readNumber_52 : decode cX4_readNumber 52 = .ok (.iadd, 1) := by decide +kernel
theorem dX4_readNumber_53 : decode cX4_readNumber 53 = .ok (.invokevirtual 132, 3) := by decide +kernel
theorem dX4_readNumber_56 : decode cX4_readNumber 56 = .ok (.iadd, 1) := by decide +kernel
theorem dX4_readNumber_57 : decode cX4_readNumber 57 = .ok (.bipush 48, 2) := by decide +kernel
theorem dX4_readNumber_59 : decode cX4_readNumber 59 = .ok (.isub, 1) := by decide +kernel
theorem dX4_readNumber_60 : decode cX4_readNumber 60 = .ok (.istore_n 1, 1) := by decide +kernel
theorem dX4_readNumber_61 : decode cX4_readNumber 61 = .ok (.aload_n 0, 1) := by decide +kernel
theorem dX4_readNumber_62 : decode cX4_readNumber 62 = .ok (.dup, 1) := by decide +kernel
theorem dX4_readNumber_63 : decode cX4_readNumber 63 = .ok (.getfield 65, 3) := by decide +kernel
theorem dX4_readNumber_66 : decode cX4_readNumber 66 = .ok (.iconst 1, 1) := by decide +kernel
theorem dX4_readNumber_67 : decode cX4_readNumber 67 = .ok (.iadd, 1) := by decide +kernel
theorem dX4_readNumber_68 : decode cX4_readNumber 68 = .ok (.putfield 65, 3) := by decide +kernel
theorem dX4_readNumber_71 : decode cX4_readNumber 71 = .ok (.goto (-69), 3) := by decide +kernel
theorem dX4_readNumber_74 : decode cX4_readNumber 74 = .ok (.aload_n 0, 1) := by decide +kernel
theorem dX4_readNumber_75 : decode cX4_readNumber 75 = .ok (.aload_n 0, 1) := by decide +kernel
theorem dX4_readNumber_76 : decode cX4_readNumber 76 = .ok (.getfield 65, 3) := by decide +kernel
theorem dX4_readNumber_79 : decode cX4_readNumber 79 = .ok (.iconst 5, 1) := by decide +kernel
theorem dX4_readNumber_80 : decode cX4_readNumber 80 = .ok (.if_icmp .le 8, 3) := by decide +kernel
theorem dX4_readNumber_83 : decode cX4_readNumber 83 = .ok (.bipush (-46), 2) := by decide +kernel
theorem dX4_readNumber_85 : decode cX4_readNumber 85 = .ok (.goto 4, 3) := by decide +kernel
theorem dX4_readNumber_88 : decode cX4_readNumber 88 = .ok (.iload_n 1, 1) := by decide +kernel
theorem dX4_readNumber_89 : decode cX4_readNumber 89 = .ok (.putfield 83, 3) := by decide +kernel
theorem dX4_readNumber_92 : decode cX4_readNumber 92 = .ok (.return_, 1) := by decide +kernel
theorem ce_X4_readNumber : CeV RX4 yX4_readNumber cX4_readNumber 2 none 0 := ⟨tb_586, tp_4, tb_9, tb_587, rfl, by decide, by decide, by decide +kernel⟩
set_option maxHeartbeats 4000000 in
set_option maxRecDepth 20000 in
theorem V_X4_readNumber (l : Launch) (D : va_G) (A : Nat → Prop) (ad : Nat → Nat) (ns : List Nat) (I : MI) (L : ML) (G : MG) (hG : SGC ns G) (hI : INV I) : Met l yX4_readNumber (wd yX4_readNumber cX4_readNumber 2 none) ({ frames := 1, cells := 0, slots := 0, locals := 21 }) (va_Pc [.ref (ad (70))] (PM D A ad ns I L G)) (va_Qv (fun u => ∃ I2 L2, u = (ad, ns, I2, L2, G) ∧ INV I2 ∧ Kp [] [(70, 5), (70, 6)] I I2) (BM D A) A) 0 0 A := by
  refine m_ofW (by decide) (Nat.le_of_ble_eq_true rfl) ?_
  intro p e s m below meth c ls args hC hE hM hA hS hl
  obtain ⟨hx, hb, hml, hown, hts, hr, hlocks, hin⟩ := hC
  have km46 : (-46 : Int32).toInt = -46 := by decide
  have k0 : (0 : Int32).toInt = 0 := by decide
  have k1 : (1 : Int32).toInt = 1 := by decide
  have k5 : (5 : Int32).toInt = 5 := by decide
  have k10 : (10 : Int32).toInt = 10 := by decide
  have k48 : (48 : Int32).toInt = 48 := by decide
  have k400 : (400 : Int32).toInt = 400 := by decide
  have hK : Kp [] [(70, 5), (70, 6)] I I := Kp.rf
  have hl : lv_has ls 2 [(0, .ref (ad (70)))] := hl
  refine lv_iconst (v := (0)) hx hb dX4_readNumber_0 (by decide) ?_
  refine lv_istore_n (lv' := [(1, .int (0)), (0, .ref (ad (70)))]) hx hb dX4_readNumber_1 rfl hl (by decide) rfl (fun ls hl => ?_)
  have loop2 : ∀ (n : Nat) (x1_2 : Int32) (Ia2 : MI) (La2 : ML) (H : Heap) (locs : List Loc) (ls : Array Slot), INV Ia2 → Kp [] [(70, 5), (70, 6)] I Ia2 → (401 - (Ia2 70 6).toInt).toNat < n → Mem D A ad ns Ia2 La2 G H → va_S A s.heap H locs → lv_has ls 2 [(1, .int (x1_2)), (0, .ref (ad (70)))] → W p l e ({ frames := 1, cells := 0, slots := 0, locals := 21 } : Room) s m args below meth c H locs 0 0 (MQ below (va_Qv (fun u => ∃ I2 L2, u = (ad, ns, I2, L2, G) ∧ INV I2 ∧ Kp [] [(70, 5), (70, 6)] I I2) (BM D A) A) args s 0 0 A) (F0 m 2 ls []) := by
    intro n
    induction n with
    | zero =>
      intro x1_2 Ia2 La2 H locs ls hI hK  hmu
      exact absurd hmu (Nat.not_lt_zero _)
    | succ n ih2 =>
      intro x1_2 Ia2 La2 H locs ls hI hK  hmu2 hM hS hl
      refine lv_aload_n hx hb dX4_readNumber_2 rfl (lv_at hl 1 rfl) ?_
      refine lv_aload_n hx hb dX4_readNumber_3 rfl (lv_at hl 1 rfl) ?_
      refine m_geti (70) 4 hx hb hts hown hE oc4 hM (hG.1 70 (by decide)) rfl (by decide) rfl tb_322 dX4_readNumber_4 ?_
      have g1 := hI.get (70) 4 (lo := 0) (hi := 801) rfl
      refine lv_aload_n hx hb dX4_readNumber_7 rfl (lv_at hl 1 rfl) ?_
      refine m_geti (70) 6 hx hb hts hown hE oc4 hM (hG.1 70 (by decide)) rfl (by decide) rfl tb_324 dX4_readNumber_8 ?_
      have g2 := hI.get (70) 6 (lo := 0) (hi := 401) rfl
      refine lv_iadd hx hb dX4_readNumber_11 ?_
      refine lv_topi (fun v3 ev3 => ?_)
      have tv3 := a_add ev3 (by omega) (by omega)
      refine m_calli (m_runV (70) (As := [.int (v3)]) (rest := []) hx hb hml hown hts hE hM hS hA ce_X4_byteAt tb_577 (V_X4_byteAt l D A ad ns Ia2 La2 G (v3) hG hI) rfl rfl ⟨Nat.le_of_ble_eq_true rfl, Nat.le_of_ble_eq_true rfl⟩ (hG.1 70 (by decide)) rfl rfl (by decide) rfl hl.1 rfl (Nat.le_of_ble_eq_true rfl) dX4_readNumber_12 ⟨Nat.le_of_ble_eq_true rfl, Nat.le_of_ble_eq_true rfl⟩) hS (fun r4 u H locs hw hM hS => ?_)
      obtain ⟨rfl, xr4⟩ := hw
      have hM : Mem D A ad ns Ia2 La2 G H := hM
      refine m_calli (m_runS (As := [.int (r4)]) (rest := []) hx hb hml hown hts hE hM hS hA ce_X4_isDigit tb_581 (V_X4_isDigit l D A ad ns Ia2 La2 G (r4) hI) rfl rfl ⟨Nat.le_of_ble_eq_true rfl, Nat.le_of_ble_eq_true rfl⟩  rfl hl.1 rfl (Nat.le_of_ble_eq_true rfl) dX4_readNumber_15 ⟨Nat.le_of_ble_eq_true rfl, Nat.le_of_ble_eq_true rfl⟩) hS (fun r5 u H locs hw hM hS => ?_)
      obtain ⟨rfl, xr5⟩ := hw
      have hM : Mem D A ad ns Ia2 La2 G H := hM
      have yr5 := bo01 xr5
      refine lv_if_eq (tgt := 74) hx hb dX4_readNumber_18 (by decide) (fun c6 => ?_) (fun c6 => ?_)
      · have hc6 := c6
        have q6 := xr5.f hc6
        refine lv_aload_n hx hb dX4_readNumber_74 rfl (lv_at hl 1 rfl) ?_
        refine lv_aload_n hx hb dX4_readNumber_75 rfl (lv_at hl 1 rfl) ?_
        refine m_geti (70) 6 hx hb hts hown hE oc4 hM (hG.1 70 (by decide)) rfl (by decide) rfl tb_324 dX4_readNumber_76 ?_
        refine lv_iconst (v := (5)) hx hb dX4_readNumber_79 (by decide) ?_
        refine lv_icmp_le (tgt := 88) hx hb dX4_readNumber_80 (by decide) (fun c7 => ?_) (fun c7 => ?_)
        · have hc7 := c7
          have q7 := q_le hc7
          refine lv_iload_n hx hb dX4_readNumber_88 rfl (lv_at hl 0 rfl) ?_
          refine m_puti (70) 5 hx hb hts hown hE oc4 hM hS (hG.1 70 (by decide)) rfl (by decide) rfl rfl rfl rfl tb_323 dX4_readNumber_89 (fun H locs I8 eI8 hM hS => ?_)
          subst eI8
          have hI := hI.putF (n := 70) (k := 5) (v := x1_2) rfl
          have hK := hK.put (n := 70) (k := 5) (v := x1_2) (by first | rfl | simp [inR])
          exact m_vret hx hb hr hlocks hM hS (Nat.le_of_ble_eq_true rfl) (Nat.le_of_ble_eq_true rfl) ⟨_, _, rfl, hI, hK⟩ dX4_readNumber_92
        · have hc7 := c7
          have q7 := q_nle hc7
          refine lv_bipush (v := (-46)) hx hb dX4_readNumber_83 (by decide) ?_
          refine lv_goto (tgt := 89) hx hb dX4_readNumber_85 (by decide) ?_
          refine m_puti (70) 5 hx hb hts hown hE oc4 hM hS (hG.1 70 (by decide)) rfl (by decide) rfl rfl rfl rfl tb_323 dX4_readNumber_89 (fun H locs I9 eI9 hM hS => ?_)
          subst eI9
          have hI := hI.putF (n := 70) (k := 5) (v := (-46 : Int32)) rfl
          have hK := hK.put (n := 70) (k := 5) (v := (-46 : Int32)) (by first | rfl | simp [inR])
          exact m_vret hx hb hr hlocks hM hS (Nat.le_of_ble_eq_true rfl) (Nat.le_of_ble_eq_true rfl) ⟨_, _, rfl, hI, hK⟩ dX4_readNumber_92
      · have hc6 := c6
        have q6 := xr5.t hc6
        refine lv_aload_n hx hb dX4_readNumber_21 rfl (lv_at hl 1 rfl) ?_
        refine m_geti (70) 6 hx hb hts hown hE oc4 hM (hG.1 70 (by decide)) rfl (by decide) rfl tb_324 dX4_readNumber_22 ?_
        refine lv_sipush (v := (400)) hx hb dX4_readNumber_25 (by decide) ?_
        refine lv_icmp_ge (tgt := 74) hx hb dX4_readNumber_28 (by decide) (fun c10 => ?_) (fun c10 => ?_)
        · have hc10 := c10
          have q10 := q_le hc10
          refine lv_aload_n hx hb dX4_readNumber_74 rfl (lv_at hl 1 rfl) ?_
          refine lv_aload_n hx hb dX4_readNumber_75 rfl (lv_at hl 1 rfl) ?_
          refine m_geti (70) 6 hx hb hts hown hE oc4 hM (hG.1 70 (by decide)) rfl (by decide) rfl tb_324 dX4_readNumber_76 ?_
          refine lv_iconst (v := (5)) hx hb dX4_readNumber_79 (by decide) ?_
          refine lv_icmp_le (tgt := 88) hx hb dX4_readNumber_80 (by decide) (fun c11 => ?_) (fun c11 => ?_)
          · have hc11 := c11
            have q11 := q_le hc11
            refine lv_iload_n hx hb dX4_readNumber_88 rfl (lv_at hl 0 rfl) ?_
            refine m_puti (70) 5 hx hb hts hown hE oc4 hM hS (hG.1 70 (by decide)) rfl (by decide) rfl rfl rfl rfl tb_323 dX4_readNumber_89 (fun H locs I12 eI12 hM hS => ?_)
            subst eI12
            have hI := hI.putF (n := 70) (k := 5) (v := x1_2) rfl
            have hK := hK.put (n := 70) (k := 5) (v := x1_2) (by first | rfl | simp [inR])
            exact m_vret hx hb hr hlocks hM hS (Nat.le_of_ble_eq_true rfl) (Nat.le_of_ble_eq_true rfl) ⟨_, _, rfl, hI, hK⟩ dX4_readNumber_92
          · have hc11 := c11
            have q11 := q_nle hc11
            refine lv_bipush (v := (-46)) hx hb dX4_readNumber_83 (by decide) ?_
            refine lv_goto (tgt := 89) hx hb dX4_readNumber_85 (by decide) ?_
            refine m_puti (70) 5 hx hb hts hown hE oc4 hM hS (hG.1 70 (by decide)) rfl (by decide) rfl rfl rfl rfl tb_323 dX4_readNumber_89 (fun H locs I13 eI13 hM hS => ?_)
            subst eI13
            have hI := hI.putF (n := 70) (k := 5) (v := (-46 : Int32)) rfl
            have hK := hK.put (n := 70) (k := 5) (v := (-46 : Int32)) (by first | rfl | simp [inR])
            exact m_vret hx hb hr hlocks hM hS (Nat.le_of_ble_eq_true rfl) (Nat.le_of_ble_eq_true rfl) ⟨_, _, rfl, hI, hK⟩ dX4_readNumber_92
        · have hc10 := c10
          have q10 := q_nle hc10
          refine lv_aload_n hx hb dX4_readNumber_31 rfl (lv_at hl 1 rfl) ?_
          refine m_geti (70) 6 hx hb hts hown hE oc4 hM (hG.1 70 (by decide)) rfl (by decide) rfl tb_324 dX4_readNumber_32 ?_
          refine lv_iconst (v := (5)) hx hb dX4_readNumber_35 (by decide) ?_
          refine lv_icmp_ge (tgt := 61) hx hb dX4_readNumber_36 (by decide) (fun c14 => ?_) (fun c14 => ?_)
          · have hc14 := c14
            have q14 := q_le hc14
            refine lv_aload_n hx hb dX4_readNumber_61 rfl (lv_at hl 1 rfl) ?_
            refine lv_dup hx hb dX4_readNumber_62 rfl ?_
            refine m_geti (70) 6 hx hb hts hown hE oc4 hM (hG.1 70 (by decide)) rfl (by decide) rfl tb_324 dX4_readNumber_63 ?_
            refine lv_iconst (v := (1)) hx hb dX4_readNumber_66 (by decide) ?_
            refine lv_iadd hx hb dX4_readNumber_67 ?_
            refine lv_topi (fun v15 ev15 => ?_)
            have tv15 := a_add ev15 (by omega) (by omega)
            refine m_puti (70) 6 hx hb hts hown hE oc4 hM hS (hG.1 70 (by decide)) rfl (by decide) rfl rfl rfl rfl tb_324 dX4_readNumber_68 (fun H locs I16 eI16 hM hS => ?_)
            subst eI16
            have hI := hI.put (n := 70) (k := 6) (v := v15) (lo := 0) (hi := 401) rfl (by first | omega | decide)
            have hK := hK.put (n := 70) (k := 6) (v := v15) (by first | rfl | simp [inR])
            refine lv_goto (tgt := 2) hx hb dX4_readNumber_71 (by decide) ?_
            have tr706 : ((u2 Ia2 (70) 6 (v15)) (70) 6).toInt = (v15 : Int32).toInt := congrArg Int32.toInt ((show (u2 Ia2 (70) 6 (v15)) (70) 6 = v15 from by simp [u2_v]))
            exact ih2 (x1_2) (u2 Ia2 (70) 6 (v15)) La2 _ _ ls hI hK  (by omega) hM hS (lv_sub hl [0, 1] rfl)
          · have hc14 := c14
            have q14 := q_nle hc14
            refine lv_bipush (v := (10)) hx hb dX4_readNumber_39 (by decide) ?_
            refine lv_iload_n hx hb dX4_readNumber_41 rfl (lv_at hl 0 rfl) ?_
            refine lv_imul hx hb dX4_readNumber_42 ?_
            refine lv_topi (fun v17 ev17 => ?_)
            refine lv_aload_n hx hb dX4_readNumber_43 rfl (lv_at hl 1 rfl) ?_
            refine lv_aload_n hx hb dX4_readNumber_44 rfl (lv_at hl 1 rfl) ?_
            refine m_geti (70) 4 hx hb hts hown hE oc4 hM (hG.1 70 (by decide)) rfl (by decide) rfl tb_322 dX4_readNumber_45 ?_
            refine lv_aload_n hx hb dX4_readNumber_48 rfl (lv_at hl 1 rfl) ?_
            refine m_geti (70) 6 hx hb hts hown hE oc4 hM (hG.1 70 (by decide)) rfl (by decide) rfl tb_324 dX4_readNumber_49 ?_
            refine lv_iadd hx hb dX4_readNumber_52 ?_
            refine lv_topi (fun v18 ev18 => ?_)
            have tv18 := a_add ev18 (by omega) (by omega)
            refine m_calli (m_runV (70) (As := [.int (v18)]) (rest := [.int (v17)]) hx hb hml hown hts hE hM hS hA ce_X4_byteAt tb_577 (V_X4_byteAt l D A ad ns Ia2 La2 G (v18) hG hI) rfl rfl ⟨Nat.le_of_ble_eq_true rfl, Nat.le_of_ble_eq_true rfl⟩ (hG.1 70 (by decide)) rfl rfl (by decide) rfl hl.1 rfl (Nat.le_of_ble_eq_true rfl) dX4_readNumber_53 ⟨Nat.le_of_ble_eq_true rfl, Nat.le_of_ble_eq_true rfl⟩) hS (fun r19 u H locs hw hM hS => ?_)
            obtain ⟨rfl, xr19⟩ := hw
            have hM : Mem D A ad ns Ia2 La2 G H := hM
            refine lv_iadd hx hb dX4_readNumber_56 ?_
            refine lv_topi (fun v20 ev20 => ?_)
            refine lv_bipush (v := (48)) hx hb dX4_readNumber_57 (by decide) ?_
            refine lv_isub hx hb dX4_readNumber_59 ?_
            refine lv_topi (fun v21 ev21 => ?_)
            refine lv_istore_n (lv' := [(1, .int (v21)), (0, .ref (ad (70)))]) hx hb dX4_readNumber_60 rfl hl (by decide) rfl (fun ls hl => ?_)
            refine lv_aload_n hx hb dX4_readNumber_61 rfl (lv_at hl 1 rfl) ?_
            refine lv_dup hx hb dX4_readNumber_62 rfl ?_
            refine m_geti (70) 6 hx hb hts hown hE oc4 hM (hG.1 70 (by decide)) rfl (by decide) rfl tb_324 dX4_readNumber_63 ?_
            refine lv_iconst (v := (1)) hx hb dX4_readNumber_66 (by decide) ?_
            refine lv_iadd hx hb dX4_readNumber_67 ?_
            refine lv_topi (fun v22 ev22 => ?_)
            have tv22 := a_add ev22 (by omega) (by omega)
            refine m_puti (70) 6 hx hb hts hown hE oc4 hM hS (hG.1 70 (by decide)) rfl (by decide) rfl rfl rfl rfl tb_324 dX4_readNumber_68 (fun H locs I23 eI23 hM hS => ?_)
            subst eI23
            have hI := hI.put (n := 70) (k := 6) (v := v22) (lo := 0) (hi := 401) rfl (by first | omega | decide)
            have hK := hK.put (n := 70) (k := 6) (v := v22) (by first | rfl | simp [inR])
            refine lv_goto (tgt := 2) hx hb dX4_readNumber_71 (by decide) ?_
            have tr706 : ((u2 Ia2 (70) 6 (v22)) (70) 6).toInt = (v22 : Int32).toInt := congrArg Int32.toInt ((show (u2 Ia2 (70) 6 (v22)) (70) 6 = v22 from by simp [u2_v]))
            exact ih2 (v21) (u2 Ia2 (70) 6 (v22)) La2 _ _ ls hI hK  (by omega) hM hS (lv_sub hl [0, 1] rfl)
  exact loop2 (_ + 1) (0) I L _ _ ls hI hK  (Nat.lt_succ_self _) hM hS (lv_sub hl [0, 1] rfl)
theorem dX4_readToken_0 : decode cX4_readToken 0 = .ok (.aload_n 0, 1) := by decide +kernel
theorem dX4_readToken_1 : decode cX4_readToken 1 = .ok (.getfield 29, 3) := by decide +kernel
theorem dX4_readToken_4 : decode cX4_readToken 4 = .ok (.aload_n 0, 1) := by decide +kernel
theorem dX4_readToken_5 : decode cX4_readToken 5 = .ok (.getfield 25, 3) := by decide +kernel
theorem dX4_readToken_8 : decode cX4_readToken 8 = .ok (.if_icmp .ge 30, 3) := by decide +kernel
theorem dX4_readToken_11 : decode cX4_readToken 11 = .ok (.aload_n 0, 1) := by decide +kernel
theorem dX4_readToken_12 : decode cX4_readToken 12 = .ok (.getfield 9, 3) := by decide +kernel
theorem dX4_readToken_15 : decode cX4_readToken 15 = .ok (.aload_n 0, 1) := by decide +kernel
theorem dX4_readToken_16 : decode cX4_readToken 16 = .ok (.getfield 29, 3) := by decide +kernel
theorem dX4_readToken_19 : decode cX4_readToken 19 = .ok (.baload, 1) := by decide +kernel
theorem dX4_readToken_20 : decode cX4_readToken 20 = .ok (.bipush 32, 2) := by decide +kernel
theorem dX4_readToken_22 : decode cX4_readToken 22 = .ok (.if_icmp .ne 16, 3) := by decide +kernel
theorem dX4_readToken_25 : decode cX4_readToken 25 = .ok (.aload_n 0, 1) := by decide +kernel
theorem dX4_readToken_26 : decode cX4_readToken 26 = .ok (.dup, 1) := by decide +kernel
theorem dX4_readToken_27 : decode cX4_readToken 27 = .ok (.getfield 29, 3) := by decide +kernel
theorem dX4_readToken_30 : decode cX4_readToken 30 = .ok (.iconst 1, 1) := by decide +kernel
theorem dX4_readToken_31 : decode cX4_readToken 31 = .ok (.iadd, 1) := by decide +kernel
theorem dX4_readToken_32 : decode cX4_readToken 32 = .ok (.putfield 29, 3) := by decide +kernel
theorem dX4_readToken_35 : decode cX4_readToken 35 = .ok (.goto (-35), 3) := by decide +kernel
theorem dX4_readToken_38 : decode cX4_readToken 38 = .ok (.aload_n 0, 1) := by decide +kernel
theorem dX4_readToken_39 : decode cX4_readToken 39 = .ok (.iconst 0, 1) := by decide +kernel
theorem dX4_readToken_40 : decode cX4_readToken 40 = .ok (.putfield 65, 3) := by decide +kernel
theorem dX4_readToken_43 : decode cX4_readToken 43 = .ok (.aload_n 0, 1) := by decide +kernel
theorem dX4_readToken_44 : decode cX4_readToken 44 = .ok (.getfield 29, 3) := by decide +kernel
theorem dX4_readToken_47 : decode cX4_readToken 47 = .ok (.aload_n 0, 1) := by decide +kernel
theorem dX4_readToken_48 : decode cX4_readToken 48 = .ok (.getfield 25, 3) := by decide +kernel
theorem dX4_readToken_51 : decode cX4_readToken 51 = .ok (.if_icmp .lt 12, 3) := by decide +kernel
theorem dX4_readToken_54 : decode cX4_readToken 54 = .ok (.aload_n 0, 1) := by decide +kernel
theorem dX4_readToken_55 : decode cX4_readToken 55 = .ok (.bipush (-45), 2) := by decide +kernel
theorem dX4_readToken_57 : decode cX4_readToken 57 = .ok (.putfield 83, 3) := by decide +kernel
theorem dX4_readToken_60 : decode cX4_readToken 60 = .ok (.goto 141, 3) := by decide +kernel
theorem dX4_readToken_63 : decode cX4_readToken 63 = .ok (.aload_n 0, 1) := by decide +kernel
theorem dX4_readToken_64 : decode cX4_readToken 64 = .ok (.aload_n 0, 1) := by decide +kernel
theorem dX4_readToken_65 : decode cX4_readToken 65 = .ok (.getfield 29, 3) := by decide +kernel
theorem dX4_readToken_68 : decode cX4_readToken 68 = .ok (.invokevirtual 132, 3) := by decide +kernel
theorem dX4_readToken_71 : decode cX4_readToken 71 = .ok (.invokestatic 135, 3) := by decide +kernel
theorem dX4_readToken_74 : decode cX4_readToken 74 = .ok (.ifCond .eq 10, 3) := by decide +kernel
theorem dX4_readToken_77 : decode cX4_readToken 77 = .ok (.aload_n 0, 1) := by decide +kernel
theorem dX4_readToken_78 : decode cX4_readToken 78 = .ok (.invokevirtual 139, 3) := by decide +kernel
theorem dX4_readToken_81 : decode cX4_readToken 81 = .ok (.goto 120, 3) := by decide +kernel
theorem dX4_readToken_84 : decode cX4_readToken 84 = .ok (.aload_n 0, 1) := by decide +kernel
theorem dX4_readToken_85 : decode cX4_readToken 85 = .ok (.aload_n 0, 1) := by decide +kernel
theorem dX4_readToken_86 : decode cX4_readToken 86 = .ok (.getfield 29, 3) := by decide +kernel
theorem dX4_readToken_89 : decode cX4_readToken 89 = .ok (.invokevirtual 132, 3) := by decide +kernel
theorem dX4_readToken_92 : decode cX4_readToken 92 = .ok (.invokestatic 142, 3) := by decide +kernel
theorem dX4_readToken_95 : decode cX4_readToken 95 = .ok (.ifCond .eq 71, 3) := by decide +kernel
theorem dX4_readToken_98 : decode cX4_readToken 98 = .ok (.aload_n 0, 1) := by decide +kernel
theorem dX4_readToken_99 : decode cX4_readToken 99 = .ok (.aload_n 0, 1) := by decide +kernel
theorem dX4_readToken_100 : decode cX4_readToken 100 = .ok (.getfield 29, 3) := by decide +kernel
theorem dX4_readToken_103 : decode cX4_readToken 103 = .ok (.aload_n 0, 1) := by decide +kernel
theorem dX4_readToken_104 : decode cX4_readToken 104 = .ok (.getfield 65, 3) := by decide +kernel
theorem dX4_readToken_107 : decode cX4_readToken 107 = .ok (.iadd, 1) := by decide +kernel
theorem dX4_readToken_108 : decode cX4_readToken 108 = .ok (.invokevirtual 132, 3) := by decide +kernel
theorem dX4_readToken_111 : decode cX4_readToken 111 = .ok (.invokestatic 142, 3) := by decide +kernel
theorem dX4_readToken_114 : decode cX4_readToken 114 = .ok (.ifCond .eq 26, 3) := by decide +kernel
theorem dX4_readToken_117 : decode cX4_readToken 117 = .ok (.aload_n 0, 1) := by decide +kernel
theorem dX4_readToken_118 : decode cX4_readToken 118 = .ok (.getfield 65, 3) := by decide +kernel
theorem dX4_readToken_121 : decode cX4_readToken 121 = .ok (.sipush 400, 3) := by decide +kernel
theorem dX4_readToken_124 : decode cX4_readToken 124 = .ok (.if_icmp .ge 16, 3) := by decide +kernel
theorem dX4_readToken_127 : decode cX4_readToken 127 = .ok (.aload_n 0, 1) := by decide +kernel
theorem dX4_readToken_128 : decode cX4_readToken 128 = .ok (.dup, 1) := by decide +kernel
theorem dX4_readToken_129 : decode cX4_readToken 129 = .ok (.getfield 65, 3) := by decide +kernel
theorem dX4_readToken_132 : decode cX4_readToken 132 = .ok (.iconst 1, 1) := by decide +kernel
theorem dX4_readToken_133 : decode cX4_readToken 133 = .ok (.iadd, 1) := by decide +kernel
theorem dX4_readToken_134 : decode cX4_readToken 134 = .ok (.putfield 65, 3) := by decide +kernel
theorem dX4_readToken_137 : decode cX4_readToken 137 = .ok (.goto (-39), 3) := by decide +kernel
theorem dX4_readToken_140 : decode cX4_readToken 140 = .ok (.aload_n 0, 1) := by decide +kernel
theorem dX4_readToken_141 : decode cX4_readToken 141 = .ok (.aload_n 0, 1) := by decide +kernel
theorem dX4_readToken_142 : decode cX4_readToken 142 = .ok (.getfield 65, 3) := by decide +kernel
theorem dX4_readToken_145 : decode cX4_readToken 145 = .ok (.iconst 1, 1) := by decide +kernel
theorem dX4_readToken_146 : decode cX4_readToken 146 = .ok (.if_icmp .ne 10, 3) := by decide +kernel
theorem dX4_readToken_149 : decode cX4_readToken 149 = .ok (.aload_n 0, 1) := by decide +kernel
theorem dX4_readToken_150 : decode cX4_readToken 150 = .ok (.invokevirtual 145, 3) := by decide +kernel
theorem dX4_readToken_153 : decode cX4_readToken 153 = .ok (.goto 7, 3) := by decide +kernel
theorem dX4_readToken_156 : decode cX4_readToken 156 = .ok (.aload_n 0, 1) := by decide +kernel
theorem dX4_readToken_157 : decode cX4_readToken 157 = .ok (.invokevirtual 149, 3) := by decide +kernel
theorem dX4_readToken_160 : decode cX4_readToken 160 = .ok (.putfield 83, 3) := by decide +kernel
theorem dX4_readToken_163 : decode cX4_readToken 163 = .ok (.goto 38, 3) := by decide +kernel
theorem dX4_readToken_166 : decode cX4_readToken 166 = .ok (.aload_n 0, 1) := by decide +kernel
theorem dX4_readToken_167 : decode cX4_readToken 167 = .ok (.aload_n 0, 1) := by decide +kernel
theorem dX4_readToken_168 : decode cX4_readToken 168 = .ok (.invokevirtual 152, 3) := by decide +kernel
theorem dX4_readToken_171 : decode cX4_readToken 171 = .ok (.putfield 83, 3) := by decide +kernel
theorem dX4_readToken_174 : decode cX4_readToken 174 = .ok (.aload_n 0, 1) := by decide +kernel
theorem dX4_readToken_175 : decode cX4_readToken 175 = .ok (.aload_n 0, 1) := by decide +kernel
theorem dX4_readToken_176 : decode cX4_readToken 176 = .ok (.getfield 83, 3) := by decide +kernel
theorem dX4_readToken_179 : decode cX4_readToken 179 = .ok (.bipush (-20), 2) := by decide +kernel
theorem dX4_readToken_181 : decode cX4_readToken 181 = .ok (.if_icmp .eq 12, 3) := by decide +kernel
theorem dX4_readToken_184 : decode cX4_readToken 184 = .ok (.aload_n 0, 1) := by decide +kernel
theorem dX4_readToken_185 : decode cX4_readToken 185 = .ok (.getfield 83, 3) := by decide +kernel
theorem dX4_readToken_188 : decode cX4_readToken 188 = .ok (.bipush (-22), 2) := by decide +kernel
theorem dX4_readToken_190 : decode cX4_readToken 190 = .ok (.if_icmp .ne 7, 3) := by decide +kernel
theorem dX4_readToken_193 : decode cX4_readToken 193 = .ok (.iconst 2, 1) := by decide +kernel
theorem dX4_readToken_194 : decode cX4_readToken 194 = .ok (.goto 4, 3) := by decide +kernel
theorem dX4_readToken_197 : decode cX4_readToken 197 = .ok (.iconst 1, 1) := by decide +kernel
theorem dX4_readToken_198 : decode cX4_readToken 198 = .ok (.putfield 65, 3) := by decide +kernel
theorem dX4_readToken_201 : decode cX4_readToken 201 = .ok (.return_, 1) := by decide +kernel
theorem ce_X4_readToken : CeV RX4 yX4_readToken cX4_readToken 1 none 0 := ⟨tb_575, tp_2, tb_9, tb_576, rfl, by decide, by decide, by decide +kernel⟩
set_option maxHeartbeats 4000000 in
set_option maxRecDepth 20000 in
theorem V_X4_readToken (l : Launch) (D : va_G) (A : Nat → Prop) (ad : Nat → Nat) (ns : List Nat) (I : MI) (L : ML) (G : MG) (hG : SGC ns G) (hI : INV I) : Met l yX4_readToken (wd yX4_readToken cX4_readToken 1 none) ({ frames := 6, cells := 0, slots := 0, locals := 127 }) (va_Pc [.ref (ad (70))] (PM D A ad ns I L G)) (va_Qv (fun u => ∃ I2 L2, u = (ad, ns, I2, L2, G) ∧ INV I2 ∧ Kp [] [(70, 4), (70, 5), (70, 6)] I I2 ∧ ((I2 70 6).toInt = 0 ∨ (I2 70 4).toInt < 400)) (BM D A) A) 0 0 A := by
  refine m_ofW (by decide) (Nat.le_of_ble_eq_true rfl) ?_
  intro p e s m below meth c ls args hC hE hM hA hS hl
  obtain ⟨hx, hb, hml, hown, hts, hr, hlocks, hin⟩ := hC
  have km45 : (-45 : Int32).toInt = -45 := by decide
  have km22 : (-22 : Int32).toInt = -22 := by decide
  have km20 : (-20 : Int32).toInt = -20 := by decide
  have k0 : (0 : Int32).toInt = 0 := by decide
  have k1 : (1 : Int32).toInt = 1 := by decide
  have k2 : (2 : Int32).toInt = 2 := by decide
  have k32 : (32 : Int32).toInt = 32 := by decide
  have k400 : (400 : Int32).toInt = 400 := by decide
  have hK : Kp [] [(70, 4), (70, 5), (70, 6)] I I := Kp.rf
  have hl : lv_has ls 1 [(0, .ref (ad (70)))] := hl
  have loop0 : ∀ (n : Nat)  (Ia0 : MI) (La0 : ML) (H : Heap) (locs : List Loc) (ls : Array Slot), INV Ia0 → Kp [] [(70, 4), (70, 5), (70, 6)] I Ia0 → (401 - (Ia0 70 4).toInt).toNat < n → Mem D A ad ns Ia0 La0 G H → va_S A s.heap H locs → lv_has ls 1 [(0, .ref (ad (70)))] → W p l e ({ frames := 6, cells := 0, slots := 0, locals := 127 } : Room) s m args below meth c H locs 0 0 (MQ below (va_Qv (fun u => ∃ I2 L2, u = (ad, ns, I2, L2, G) ∧ INV I2 ∧ Kp [] [(70, 4), (70, 5), (70, 6)] I I2 ∧ ((I2 70 6).toInt = 0 ∨ (I2 70 4).toInt < 400)) (BM D A) A) args s 0 0 A) (F0 m 0 ls []) := by
    intro n
    induction n with
    | zero =>
      intro  Ia0 La0 H locs ls hI hK  hmu
      exact absurd hmu (Nat.not_lt_zero _)
    | succ n ih0 =>
      intro  Ia0 La0 H locs ls hI hK  hmu0 hM hS hl
      refine lv_aload_n hx hb dX4_readToken_0 rfl (lv_at hl 0 rfl) ?_
      refine m_geti (70) 4 hx hb hts hown hE oc4 hM (hG.1 70 (by decide)) rfl (by decide) rfl tb_322 dX4_readToken_1 ?_
      have g1 := hI.get (70) 4 (lo := 0) (hi := 801) rfl
      refine lv_aload_n hx hb dX4_readToken_4 rfl (lv_at hl 0 rfl) ?_
      refine m_geti (70) 3 hx hb hts hown hE oc4 hM (hG.1 70 (by decide)) rfl (by decide) rfl tb_321 dX4_readToken_5 ?_
      have g2 := hI.get (70) 3 (lo := 0) (hi := 400) rfl
      refine lv_icmp_ge (tgt := 38) hx hb dX4_readToken_8 (by decide) (fun c3 => ?_) (fun c3 => ?_)
      · have hc3 := c3
        have q3 := q_le hc3
        refine lv_aload_n hx hb dX4_readToken_38 rfl (lv_at hl 0 rfl) ?_
        refine lv_iconst (v := (0)) hx hb dX4_readToken_39 (by decide) ?_
        refine m_puti (70) 6 hx hb hts hown hE oc4 hM hS (hG.1 70 (by decide)) rfl (by decide) rfl rfl rfl rfl tb_324 dX4_readToken_40 (fun H locs I4 eI4 hM hS => ?_)
        subst eI4
        have hI := hI.put (n := 70) (k := 6) (v := 0) (lo := 0) (hi := 401) rfl (by first | omega | decide)
        have hK := hK.put (n := 70) (k := 6) (v := 0) (by first | rfl | simp [inR])
        refine lv_aload_n hx hb dX4_readToken_43 rfl (lv_at hl 0 rfl) ?_
        refine m_geti (70) 4 hx hb hts hown hE oc4 hM (hG.1 70 (by decide)) rfl (by decide) rfl tb_322 dX4_readToken_44 ?_
        have z5 : (u2 Ia0 (70) 6 (0)) (70) 4 = Ia0 (70) 4 := (show (u2 Ia0 (70) 6 (0)) (70) 4 = Ia0 (70) 4 from by simp [u2_v])
        rw [z5]
        refine lv_aload_n hx hb dX4_readToken_47 rfl (lv_at hl 0 rfl) ?_
        refine m_geti (70) 3 hx hb hts hown hE oc4 hM (hG.1 70 (by decide)) rfl (by decide) rfl tb_321 dX4_readToken_48 ?_
        have z6 : (u2 Ia0 (70) 6 (0)) (70) 3 = Ia0 (70) 3 := (show (u2 Ia0 (70) 6 (0)) (70) 3 = Ia0 (70) 3 from by simp [u2_v])
        rw [z6]
        refine lv_icmp_lt (tgt := 63) hx hb dX4_readToken_51 (by decide) (fun c7 => ?_) (fun c7 => ?_)
        · have hc7 := c7
          have q7 := q_lt hc7
          refine lv_aload_n hx hb dX4_readToken_63 rfl (lv_at hl 0 rfl) ?_
          refine lv_aload_n hx hb dX4_readToken_64 rfl (lv_at hl 0 rfl) ?_
          refine m_geti (70) 4 hx hb hts hown hE oc4 hM (hG.1 70 (by decide)) rfl (by decide) rfl tb_322 dX4_readToken_65 ?_
          have z8 : (u2 Ia0 (70) 6 (0)) (70) 4 = Ia0 (70) 4 := (show (u2 Ia0 (70) 6 (0)) (70) 4 = Ia0 (70) 4 from by simp [u2_v])
          rw [z8]
          refine m_calli (m_runV (70) (As := [.int (Ia0 (70) 4)]) (rest := []) hx hb hml hown hts hE hM hS hA ce_X4_byteAt tb_577 (V_X4_byteAt l D A ad ns (u2 Ia0 (70) 6 (0)) La0 G (Ia0 (70) 4) hG hI) rfl rfl ⟨Nat.le_of_ble_eq_true rfl, Nat.le_of_ble_eq_true rfl⟩ (hG.1 70 (by decide)) rfl rfl (by decide) rfl hl.1 rfl (Nat.le_of_ble_eq_true rfl) dX4_readToken_68 ⟨Nat.le_of_ble_eq_true rfl, Nat.le_of_ble_eq_true rfl⟩) hS (fun r9 u H locs hw hM hS => ?_)
          obtain ⟨rfl, xr9⟩ := hw
          have hM : Mem D A ad ns (u2 Ia0 (70) 6 (0)) La0 G H := hM
          refine m_calli (m_runS (As := [.int (r9)]) (rest := []) hx hb hml hown hts hE hM hS hA ce_X4_isDigit tb_581 (V_X4_isDigit l D A ad ns (u2 Ia0 (70) 6 (0)) La0 G (r9) hI) rfl rfl ⟨Nat.le_of_ble_eq_true rfl, Nat.le_of_ble_eq_true rfl⟩  rfl hl.1 rfl (Nat.le_of_ble_eq_true rfl) dX4_readToken_71 ⟨Nat.le_of_ble_eq_true rfl, Nat.le_of_ble_eq_true rfl⟩) hS (fun r10 u H locs hw hM hS => ?_)
          obtain ⟨rfl, xr10⟩ := hw
          have hM : Mem D A ad ns (u2 Ia0 (70) 6 (0)) La0 G H := hM
          have yr10 := bo01 xr10
          refine lv_if_eq (tgt := 84) hx hb dX4_readToken_74 (by decide) (fun c11 => ?_) (fun c11 => ?_)
          · have hc11 := c11
            have q11 := xr10.f hc11
            refine lv_aload_n hx hb dX4_readToken_84 rfl (lv_at hl 0 rfl) ?_
            refine lv_aload_n hx hb dX4_readToken_85 rfl (lv_at hl 0 rfl) ?_
            refine m_geti (70) 4 hx hb hts hown hE oc4 hM (hG.1 70 (by decide)) rfl (by decide) rfl tb_322 dX4_readToken_86 ?_
            have z12 : (u2 Ia0 (70) 6 (0)) (70) 4 = Ia0 (70) 4 := (show (u2 Ia0 (70) 6 (0)) (70) 4 = Ia0 (70) 4 from by simp [u2_v])
            rw [z12]
            refine m_calli (m_runV (70) (As := [.int (Ia0 (70) 4)]) (rest := []) hx hb hml hown hts hE hM hS hA ce_X4_byteAt tb_577 (V_X4_byteAt l D A ad ns (u2 Ia0 (70) 6 (0)) La0 G (Ia0 (70) 4) hG hI) rfl rfl ⟨Nat.le_of_ble_eq_true rfl, Nat.le_of_ble_eq_true rfl⟩ (hG.1 70 (by decide)) rfl rfl (by decide) rfl hl.1 rfl (Nat.le_of_ble_eq_true rfl) dX4_readToken_89 ⟨Nat.le_of_ble_eq_true rfl, Nat.le_of_ble_eq_true rfl⟩) hS (fun r13 u H locs hw hM hS => ?_)
            obtain ⟨rfl, xr13⟩ := hw
            have hM : Mem D A ad ns (u2 Ia0 (70) 6 (0)) La0 G H := hM
            refine m_calli (m_runS (As := [.int (r13)]) (rest := []) hx hb hml hown hts hE hM hS hA ce_X4_isLetter tb_588 (V_X4_isLetter l D A ad ns (u2 Ia0 (70) 6 (0)) La0 G (r13) hI) rfl rfl ⟨Nat.le_of_ble_eq_true rfl, Nat.le_of_ble_eq_true rfl⟩  rfl hl.1 rfl (Nat.le_of_ble_eq_true rfl) dX4_readToken_92 ⟨Nat.le_of_ble_eq_true rfl, Nat.le_of_ble_eq_true rfl⟩) hS (fun r14 u H locs hw hM hS => ?_)
            obtain ⟨rfl, xr14⟩ := hw
            have hM : Mem D A ad ns (u2 Ia0 (70) 6 (0)) La0 G H := hM
            have yr14 := bo01 xr14
            refine lv_if_eq (tgt := 166) hx hb dX4_readToken_95 (by decide) (fun c15 => ?_) (fun c15 => ?_)
            · have hc15 := c15
              have q15 := xr14.f hc15
              refine lv_aload_n hx hb dX4_readToken_166 rfl (lv_at hl 0 rfl) ?_
              refine lv_aload_n hx hb dX4_readToken_167 rfl (lv_at hl 0 rfl) ?_
              refine m_calli (m_runV (70) (As := []) (rest := [.ref (ad (70))]) hx hb hml hown hts hE hM hS hA ce_X4_signHere tb_661 (V_X4_signHere l D A ad ns (u2 Ia0 (70) 6 (0)) La0 G hG hI) rfl rfl ⟨Nat.le_of_ble_eq_true rfl, Nat.le_of_ble_eq_true rfl⟩ (hG.1 70 (by decide)) rfl rfl (by decide) rfl hl.1 rfl (Nat.le_of_ble_eq_true rfl) dX4_readToken_168 ⟨Nat.le_of_ble_eq_true rfl, Nat.le_of_ble_eq_true rfl⟩) hS (fun r16 u H locs hw hM hS => ?_)
              obtain ⟨rfl, xr16⟩ := hw
              have hM : Mem D A ad ns (u2 Ia0 (70) 6 (0)) La0 G H := hM
              refine m_puti (70) 5 hx hb hts hown hE oc4 hM hS (hG.1 70 (by decide)) rfl (by decide) rfl rfl rfl rfl tb_323 dX4_readToken_171 (fun H locs I17 eI17 hM hS => ?_)
              subst eI17
              have hI := hI.putF (n := 70) (k := 5) (v := r16) rfl
              have hK := hK.put (n := 70) (k := 5) (v := r16) (by first | rfl | simp [inR])
              refine lv_aload_n hx hb dX4_readToken_174 rfl (lv_at hl 0 rfl) ?_
              refine lv_aload_n hx hb dX4_readToken_175 rfl (lv_at hl 0 rfl) ?_
              refine m_geti (70) 5 hx hb hts hown hE oc4 hM (hG.1 70 (by decide)) rfl (by decide) rfl tb_323 dX4_readToken_176 ?_
              have z18 : (u2 (u2 Ia0 (70) 6 (0)) (70) 5 (r16)) (70) 5 = r16 := (show (u2 (u2 Ia0 (70) 6 (0)) (70) 5 (r16)) (70) 5 = r16 from by simp [u2_v])
              rw [z18]
              refine lv_bipush (v := (-20)) hx hb dX4_readToken_179 (by decide) ?_
              refine lv_icmp_eq (tgt := 193) hx hb dX4_readToken_181 (by decide) (fun c19 => ?_) (fun c19 => ?_)
              · have hc19 := c19
                have q19 := q_eq hc19
                refine lv_iconst (v := (2)) hx hb dX4_readToken_193 (by decide) ?_
                refine lv_goto (tgt := 198) hx hb dX4_readToken_194 (by decide) ?_
                refine m_puti (70) 6 hx hb hts hown hE oc4 hM hS (hG.1 70 (by decide)) rfl (by decide) rfl rfl rfl rfl tb_324 dX4_readToken_198 (fun H locs I20 eI20 hM hS => ?_)
                subst eI20
                have hI := hI.put (n := 70) (k := 6) (v := 2) (lo := 0) (hi := 401) rfl (by first | omega | decide)
                have hK := hK.put (n := 70) (k := 6) (v := 2) (by first | rfl | simp [inR])
                have tf6 : ((u2 (u2 (u2 Ia0 (70) 6 (0)) (70) 5 (r16)) (70) 6 (2)) (70) 6).toInt = (2 : Int32).toInt := congrArg Int32.toInt ((show (u2 (u2 (u2 Ia0 (70) 6 (0)) (70) 5 (r16)) (70) 6 (2)) (70) 6 = 2 from by simp [u2_v]))
                have tf4 : ((u2 (u2 (u2 Ia0 (70) 6 (0)) (70) 5 (r16)) (70) 6 (2)) (70) 4).toInt = (Ia0 (70) 4 : Int32).toInt := congrArg Int32.toInt ((show (u2 (u2 (u2 Ia0 (70) 6 (0)) (70) 5 (r16)) (70) 6 (2)) (70) 4 = Ia0 (70) 4 from by simp [u2_v]))
                exact m_vret hx hb hr hlocks hM hS (Nat.le_of_ble_eq_true rfl) (Nat.le_of_ble_eq_true rfl) ⟨_, _, rfl, hI, hK, (by omega)⟩ dX4_readToken_201
              · have hc19 := c19
                have q19 := q_ne hc19
                refine lv_aload_n hx hb dX4_readToken_184 rfl (lv_at hl 0 rfl) ?_
                refine m_geti (70) 5 hx hb hts hown hE oc4 hM (hG.1 70 (by decide)) rfl (by decide) rfl tb_323 dX4_readToken_185 ?_
                have z21 : (u2 (u2 Ia0 (70) 6 (0)) (70) 5 (r16)) (70) 5 = r16 := (show (u2 (u2 Ia0 (70) 6 (0)) (70) 5 (r16)) (70) 5 = r16 from by simp [u2_v])
                rw [z21]
                refine lv_bipush (v := (-22)) hx hb dX4_readToken_188 (by decide) ?_
                refine lv_icmp_ne (tgt := 197) hx hb dX4_readToken_190 (by decide) (fun c22 => ?_) (fun c22 => ?_)
                · have hc22 := c22
                  have q22 := q_ne hc22
                  refine lv_iconst (v := (1)) hx hb dX4_readToken_197 (by decide) ?_
                  refine m_puti (70) 6 hx hb hts hown hE oc4 hM hS (hG.1 70 (by decide)) rfl (by decide) rfl rfl rfl rfl tb_324 dX4_readToken_198 (fun H locs I23 eI23 hM hS => ?_)
                  subst eI23
                  have hI := hI.put (n := 70) (k := 6) (v := 1) (lo := 0) (hi := 401) rfl (by first | omega | decide)
                  have hK := hK.put (n := 70) (k := 6) (v := 1) (by first | rfl | simp [inR])
                  have tf6 : ((u2 (u2 (u2 Ia0 (70) 6 (0)) (70) 5 (r16)) (70) 6 (1)) (70) 6).toInt = (1 : Int32).toInt := congrArg Int32.toInt ((show (u2 (u2 (u2 Ia0 (70) 6 (0)) (70) 5 (r16)) (70) 6 (1)) (70) 6 = 1 from by simp [u2_v]))
                  have tf4 : ((u2 (u2 (u2 Ia0 (70) 6 (0)) (70) 5 (r16)) (70) 6 (1)) (70) 4).toInt = (Ia0 (70) 4 : Int32).toInt := congrArg Int32.toInt ((show (u2 (u2 (u2 Ia0 (70) 6 (0)) (70) 5 (r16)) (70) 6 (1)) (70) 4 = Ia0 (70) 4 from by simp [u2_v]))
                  exact m_vret hx hb hr hlocks hM hS (Nat.le_of_ble_eq_true rfl) (Nat.le_of_ble_eq_true rfl) ⟨_, _, rfl, hI, hK, (by omega)⟩ dX4_readToken_201
                · have hc22 := c22
                  have q22 := q_eq hc22
                  refine lv_iconst (v := (2)) hx hb dX4_readToken_193 (by decide) ?_
                  refine lv_goto (tgt := 198) hx hb dX4_readToken_194 (by decide) ?_
                  refine m_puti (70) 6 hx hb hts hown hE oc4 hM hS (hG.1 70 (by decide)) rfl (by decide) rfl rfl rfl rfl tb_324 dX4_readToken_198 (fun H locs I24 eI24 hM hS => ?_)
                  subst eI24
                  have hI := hI.put (n := 70) (k := 6) (v := 2) (lo := 0) (hi := 401) rfl (by first | omega | decide)
                  have hK := hK.put (n := 70) (k := 6) (v := 2) (by first | rfl | simp [inR])
                  have tf6 : ((u2 (u2 (u2 Ia0 (70) 6 (0)) (70) 5 (r16)) (70) 6 (2)) (70) 6).toInt = (2 : Int32).toInt := congrArg Int32.toInt ((show (u2 (u2 (u2 Ia0 (70) 6 (0)) (70) 5 (r16)) (70) 6 (2)) (70) 6 = 2 from by simp [u2_v]))
                  have tf4 : ((u2 (u2 (u2 Ia0 (70) 6 (0)) (70) 5 (r16)) (70) 6 (2)) (70) 4).toInt = (Ia0 (70) 4 : Int32).toInt := congrArg Int32.toInt ((show (u2 (u2 (u2 Ia0 (70) 6 (0)) (70) 5 (r16)) (70) 6 (2)) (70) 4 = Ia0 (70) 4 from by simp [u2_v]))
                  exact m_vret hx hb hr hlocks hM hS (Nat.le_of_ble_eq_true rfl) (Nat.le_of_ble_eq_true rfl) ⟨_, _, rfl, hI, hK, (by omega)⟩ dX4_readToken_201
            · have hc15 := c15
              have q15 := xr14.t hc15
              have loop98 : ∀ (n : Nat)  (Ia98 : MI) (La98 : ML) (H : Heap) (locs : List Loc) (ls : Array Slot), INV Ia98 → Kp [] [(70, 4), (70, 5), (70, 6)] I Ia98 → ((Ia98 70 4).toInt < 400) → (401 - (Ia98 70 6).toInt).toNat < n → Mem D A ad ns Ia98 La98 G H → va_S A s.heap H locs → lv_has ls 1 [(0, .ref (ad (70)))] → W p l e ({ frames := 6, cells := 0, slots := 0, locals := 127 } : Room) s m args below meth c H locs 0 0 (MQ below (va_Qv (fun u => ∃ I2 L2, u = (ad, ns, I2, L2, G) ∧ INV I2 ∧ Kp [] [(70, 4), (70, 5), (70, 6)] I I2 ∧ ((I2 70 6).toInt = 0 ∨ (I2 70 4).toInt < 400)) (BM D A) A) args s 0 0 A) (F0 m 98 ls []) := by
                intro n
                induction n with
                | zero =>
                  intro  Ia98 La98 H locs ls hI hK hp4 hmu
                  exact absurd hmu (Nat.not_lt_zero _)
                | succ n ih98 =>
                  intro  Ia98 La98 H locs ls hI hK hp4 hmu98 hM hS hl
                  refine lv_aload_n hx hb dX4_readToken_98 rfl (lv_at hl 0 rfl) ?_
                  refine lv_aload_n hx hb dX4_readToken_99 rfl (lv_at hl 0 rfl) ?_
                  refine m_geti (70) 4 hx hb hts hown hE oc4 hM (hG.1 70 (by decide)) rfl (by decide) rfl tb_322 dX4_readToken_100 ?_
                  have g25 := hI.get (70) 4 (lo := 0) (hi := 801) rfl
                  refine lv_aload_n hx hb dX4_readToken_103 rfl (lv_at hl 0 rfl) ?_
                  refine m_geti (70) 6 hx hb hts hown hE oc4 hM (hG.1 70 (by decide)) rfl (by decide) rfl tb_324 dX4_readToken_104 ?_
                  have g26 := hI.get (70) 6 (lo := 0) (hi := 401) rfl
                  refine lv_iadd hx hb dX4_readToken_107 ?_
                  refine lv_topi (fun v27 ev27 => ?_)
                  have tv27 := a_add ev27 (by omega) (by omega)
                  refine m_calli (m_runV (70) (As := [.int (v27)]) (rest := []) hx hb hml hown hts hE hM hS hA ce_X4_byteAt tb_577 (V_X4_byteAt l D A ad ns Ia98 La98 G (v27) hG hI) rfl rfl ⟨Nat.le_of_ble_eq_true rfl, Nat.le_of_ble_eq_true rfl⟩ (hG.1 70 (by decide)) rfl rfl (by decide) rfl hl.1 rfl (Nat.le_of_ble_eq_true rfl) dX4_readToken_108 ⟨Nat.le_of_ble_eq_true rfl, Nat.le_of_ble_eq_true rfl⟩) hS (fun r28 u H locs hw hM hS => ?_)
                  obtain ⟨rfl, xr28⟩ := hw
                  have hM : Mem D A ad ns Ia98 La98 G H := hM
                  refine m_calli (m_runS (As := [.int (r28)]) (rest := []) hx hb hml hown hts hE hM hS hA ce_X4_isLetter tb_588 (V_X4_isLetter l D A ad ns Ia98 La98 G (r28) hI) rfl rfl ⟨Nat.le_of_ble_eq_true rfl, Nat.le_of_ble_eq_true rfl⟩  rfl hl.1 rfl (Nat.le_of_ble_eq_true rfl) dX4_readToken_111 ⟨Nat.le_of_ble_eq_true rfl, Nat.le_of_ble_eq_true rfl⟩) hS (fun r29 u H locs hw hM hS => ?_)
                  obtain ⟨rfl, xr29⟩ := hw
                  have hM : Mem D A ad ns Ia98 La98 G H := hM
                  have yr29 := bo01 xr29
                  refine lv_if_eq (tgt := 140) hx hb dX4_readToken_114 (by decide) (fun c30 => ?_) (fun c30 => ?_)
                  · have hc30 := c30
                    have q30 := xr29.f hc30
                    refine lv_aload_n hx hb dX4_readToken_140 rfl (lv_at hl 0 rfl) ?_
                    refine lv_aload_n hx hb dX4_readToken_141 rfl (lv_at hl 0 rfl) ?_
                    refine m_geti (70) 6 hx hb hts hown hE oc4 hM (hG.1 70 (by decide)) rfl (by decide) rfl tb_324 dX4_readToken_142 ?_
                    refine lv_iconst (v := (1)) hx hb dX4_readToken_145 (by decide) ?_
                    refine lv_icmp_ne (tgt := 156) hx hb dX4_readToken_146 (by decide) (fun c31 => ?_) (fun c31 => ?_)
                    · have hc31 := c31
                      have q31 := q_ne hc31
                      refine lv_aload_n hx hb dX4_readToken_156 rfl (lv_at hl 0 rfl) ?_
                      refine m_calli (m_runV (70) (As := []) (rest := [.ref (ad (70))]) hx hb hml hown hts hE hM hS hA ce_X4_wordHere tb_595 (V_X4_wordHere l D A ad ns Ia98 La98 G hG hI) rfl rfl ⟨Nat.le_of_ble_eq_true rfl, Nat.le_of_ble_eq_true rfl⟩ (hG.1 70 (by decide)) rfl rfl (by decide) rfl hl.1 rfl (Nat.le_of_ble_eq_true rfl) dX4_readToken_157 ⟨Nat.le_of_ble_eq_true rfl, Nat.le_of_ble_eq_true rfl⟩) hS (fun r32 u H locs hw hM hS => ?_)
                      obtain ⟨rfl, xr32⟩ := hw
                      have hM : Mem D A ad ns Ia98 La98 G H := hM
                      refine m_puti (70) 5 hx hb hts hown hE oc4 hM hS (hG.1 70 (by decide)) rfl (by decide) rfl rfl rfl rfl tb_323 dX4_readToken_160 (fun H locs I33 eI33 hM hS => ?_)
                      subst eI33
                      have hI := hI.putF (n := 70) (k := 5) (v := r32) rfl
                      have hK := hK.put (n := 70) (k := 5) (v := r32) (by first | rfl | simp [inR])
                      refine lv_goto (tgt := 201) hx hb dX4_readToken_163 (by decide) ?_
                      have tf6 : ((u2 Ia98 (70) 5 (r32)) (70) 6).toInt = (Ia98 (70) 6 : Int32).toInt := congrArg Int32.toInt ((show (u2 Ia98 (70) 5 (r32)) (70) 6 = Ia98 (70) 6 from by simp [u2_v]))
                      have tf4 : ((u2 Ia98 (70) 5 (r32)) (70) 4).toInt = (Ia98 (70) 4 : Int32).toInt := congrArg Int32.toInt ((show (u2 Ia98 (70) 5 (r32)) (70) 4 = Ia98 (70) 4 from by simp [u2_v]))
                      exact m_vret hx hb hr hlocks hM hS (Nat.le_of_ble_eq_true rfl) (Nat.le_of_ble_eq_true rfl) ⟨_, _, rfl, hI, hK, (by omega)⟩ dX4_readToken_201
                    · have hc31 := c31
                      have q31 := q_eq hc31
                      refine lv_aload_n hx hb dX4_readToken_149 rfl (lv_at hl 0 rfl) ?_
                      refine m_calli (m_runV (70) (As := []) (rest := [.ref (ad (70))]) hx hb hml hown hts hE hM hS hA ce_X4_yardHere tb_591 (V_X4_yardHere l D A ad ns Ia98 La98 G hG hI) rfl rfl ⟨Nat.le_of_ble_eq_true rfl, Nat.le_of_ble_eq_true rfl⟩ (hG.1 70 (by decide)) rfl rfl (by decide) rfl hl.1 rfl (Nat.le_of_ble_eq_true rfl) dX4_readToken_150 ⟨Nat.le_of_ble_eq_true rfl, Nat.le_of_ble_eq_true rfl⟩) hS (fun r34 u H locs hw hM hS => ?_)
                      obtain ⟨rfl, xr34⟩ := hw
                      have hM : Mem D A ad ns Ia98 La98 G H := hM
                      refine lv_goto (tgt := 160) hx hb dX4_readToken_153 (by decide) ?_
                      refine m_puti (70) 5 hx hb hts hown hE oc4 hM hS (hG.1 70 (by decide)) rfl (by decide) rfl rfl rfl rfl tb_323 dX4_readToken_160 (fun H locs I35 eI35 hM hS => ?_)
                      subst eI35
                      have hI := hI.putF (n := 70) (k := 5) (v := r34) rfl
                      have hK := hK.put (n := 70) (k := 5) (v := r34) (by first | rfl | simp [inR])
                      refine lv_goto (tgt := 201) hx hb dX4_readToken_163 (by decide) ?_
                      have tf6 : ((u2 Ia98 (70) 5 (r34)) (70) 6).toInt = (Ia98 (70) 6 : Int32).toInt := congrArg Int32.toInt ((show (u2 Ia98 (70) 5 (r34)) (70) 6 = Ia98 (70) 6 from by simp [u2_v]))
                      have tf4 : ((u2 Ia98 (70) 5 (r34)) (70) 4).toInt = (Ia98 (70) 4 : Int32).toInt := congrArg Int32.toInt ((show (u2 Ia98 (70) 5 (r34)) (70) 4 = Ia98 (70) 4 from by simp [u2_v]))
                      exact m_vret hx hb hr hlocks hM hS (Nat.le_of_ble_eq_true rfl) (Nat.le_of_ble_eq_true rfl) ⟨_, _, rfl, hI, hK, (by omega)⟩ dX4_readToken_201
                  · have hc30 := c30
                    have q30 := xr29.t hc30
                    refine lv_aload_n hx hb dX4_readToken_117 rfl (lv_at hl 0 rfl) ?_
                    refine m_geti (70) 6 hx hb hts hown hE oc4 hM (hG.1 70 (by decide)) rfl (by decide) rfl tb_324 dX4_readToken_118 ?_
                    refine lv_sipush (v := (400)) hx hb dX4_readToken_121 (by decide) ?_
                    refine lv_icmp_ge (tgt := 140) hx hb dX4_readToken_124 (by decide) (fun c36 => ?_) (fun c36 => ?_)
                    · have hc36 := c36
                      have q36 := q_le hc36
                      refine lv_aload_n hx hb dX4_readToken_140 rfl (lv_at hl 0 rfl) ?_
                      refine lv_aload_n hx hb dX4_readToken_141 rfl (lv_at hl 0 rfl) ?_
                      refine m_geti (70) 6 hx hb hts hown hE oc4 hM (hG.1 70 (by decide)) rfl (by decide) rfl tb_324 dX4_readToken_142 ?_
                      refine lv_iconst (v := (1)) hx hb dX4_readToken_145 (by decide) ?_
                      refine lv_icmp_ne (tgt := 156) hx hb dX4_readToken_146 (by decide) (fun c37 => ?_) (fun c37 => ?_)
                      · have hc37 := c37
                        have q37 := q_ne hc37
                        refine lv_aload_n hx hb dX4_readToken_156 rfl (lv_at hl 0 rfl) ?_
                        refine m_calli (m_runV (70) (As := []) (rest := [.ref (ad (70))]) hx hb hml hown hts hE hM hS hA ce_X4_wordHere tb_595 (V_X4_wordHere l D A ad ns Ia98 La98 G hG hI) rfl rfl ⟨Nat.le_of_ble_eq_true rfl, Nat.le_of_ble_eq_true rfl⟩ (hG.1 70 (by decide)) rfl rfl (by decide) rfl hl.1 rfl (Nat.le_of_ble_eq_true rfl) dX4_readToken_157 ⟨Nat.le_of_ble_eq_true rfl, Nat.le_of_ble_eq_true rfl⟩) hS (fun r38 u H locs hw hM hS => ?_)
                        obtain ⟨rfl, xr38⟩ := hw
                        have hM : Mem D A ad ns Ia98 La98 G H := hM
                        refine m_puti (70) 5 hx hb hts hown hE oc4 hM hS (hG.1 70 (by decide)) rfl (by decide) rfl rfl rfl rfl tb_323 dX4_readToken_160 (fun H locs I39 eI39 hM hS => ?_)
                        subst eI39
                        have hI := hI.putF (n := 70) (k := 5) (v := r38) rfl
                        have hK := hK.put (n := 70) (k := 5) (v := r38) (by first | rfl | simp [inR])
                        refine lv_goto (tgt := 201) hx hb dX4_readToken_163 (by decide) ?_
                        have tf6 : ((u2 Ia98 (70) 5 (r38)) (70) 6).toInt = (Ia98 (70) 6 : Int32).toInt := congrArg Int32.toInt ((show (u2 Ia98 (70) 5 (r38)) (70) 6 = Ia98 (70) 6 from by simp [u2_v]))
                        have tf4 : ((u2 Ia98 (70) 5 (r38)) (70) 4).toInt = (Ia98 (70) 4 : Int32).toInt := congrArg Int32.toInt ((show (u2 Ia98 (70) 5 (r38)) (70) 4 = Ia98 (70) 4 from by simp [u2_v]))
                        exact m_vret hx hb hr hlocks hM hS (Nat.le_of_ble_eq_true rfl) (Nat.le_of_ble_eq_true rfl) ⟨_, _, rfl, hI, hK, (by omega)⟩ dX4_readToken_201
                      · have hc37 := c37
                        have q37 := q_eq hc37
                        refine lv_aload_n hx hb dX4_readToken_149 rfl (lv_at hl 0 rfl) ?_
                        refine m_calli (m_runV (70) (As := []) (rest := [.ref (ad (70))]) hx hb hml hown hts hE hM hS hA ce_X4_yardHere tb_591 (V_X4_yardHere l D A ad ns Ia98 La98 G hG hI) rfl rfl ⟨Nat.le_of_ble_eq_true rfl, Nat.le_of_ble_eq_true rfl⟩ (hG.1 70 (by decide)) rfl rfl (by decide) rfl hl.1 rfl (Nat.le_of_ble_eq_true rfl) dX4_readToken_150 ⟨Nat.le_of_ble_eq_true rfl, Nat.le_of_ble_eq_true rfl⟩) hS (fun r40 u H locs hw hM hS => ?_)
                        obtain ⟨rfl, xr40⟩ := hw
                        have hM : Mem D A ad ns Ia98 La98 G H := hM
                        refine lv_goto (tgt := 160) hx hb dX4_readToken_153 (by decide) ?_
                        refine m_puti (70) 5 hx hb hts hown hE oc4 hM hS (hG.1 70 (by decide)) rfl (by decide) rfl rfl rfl rfl tb_323 dX4_readToken_160 (fun H locs I41 eI41 hM hS => ?_)
                        subst eI41
                        have hI := hI.putF (n := 70) (k := 5) (v := r40) rfl
                        have hK := hK.put (n := 70) (k := 5) (v := r40) (by first | rfl | simp [inR])
                        refine lv_goto (tgt := 201) hx hb dX4_readToken_163 (by decide) ?_
                        have tf6 : ((u2 Ia98 (70) 5 (r40)) (70) 6).toInt = (Ia98 (70) 6 : Int32).toInt := congrArg Int32.toInt ((show (u2 Ia98 (70) 5 (r40)) (70) 6 = Ia98 (70) 6 from by simp [u2_v]))
                        have tf4 : ((u2 Ia98 (70) 5 (r40)) (70) 4).toInt = (Ia98 (70) 4 : Int32).toInt := congrArg Int32.toInt ((show (u2 Ia98 (70) 5 (r40)) (70) 4 = Ia98 (70) 4 from by simp [u2_v]))
                        exact m_vret hx hb hr hlocks hM hS (Nat.le_of_ble_eq_true rfl) (Nat.le_of_ble_eq_true rfl) ⟨_, _, rfl, hI, hK, (by omega)⟩ dX4_readToken_201
                    · have hc36 := c36
                      have q36 := q_nle hc36
                      refine lv_aload_n hx hb dX4_readToken_127 rfl (lv_at hl 0 rfl) ?_
                      refine lv_dup hx hb dX4_readToken_128 rfl ?_
                      refine m_geti (70) 6 hx hb hts hown hE oc4 hM (hG.1 70 (by decide)) rfl (by decide) rfl tb_324 dX4_readToken_129 ?_
                      refine lv_iconst (v := (1)) hx hb dX4_readToken_132 (by decide) ?_
                      refine lv_iadd hx hb dX4_readToken_133 ?_
                      refine lv_topi (fun v42 ev42 => ?_)
                      have tv42 := a_add ev42 (by omega) (by omega)
                      refine m_puti (70) 6 hx hb hts hown hE oc4 hM hS (hG.1 70 (by decide)) rfl (by decide) rfl rfl rfl rfl tb_324 dX4_readToken_134 (fun H locs I43 eI43 hM hS => ?_)
                      subst eI43
                      have hI := hI.put (n := 70) (k := 6) (v := v42) (lo := 0) (hi := 401) rfl (by first | omega | decide)
                      have hK := hK.put (n := 70) (k := 6) (v := v42) (by first | rfl | simp [inR])
                      refine lv_goto (tgt := 98) hx hb dX4_readToken_137 (by decide) ?_
                      have tr706 : ((u2 Ia98 (70) 6 (v42)) (70) 6).toInt = (v42 : Int32).toInt := congrArg Int32.toInt ((show (u2 Ia98 (70) 6 (v42)) (70) 6 = v42 from by simp [u2_v]))
                      have tr704 : ((u2 Ia98 (70) 6 (v42)) (70) 4).toInt = (Ia98 (70) 4 : Int32).toInt := congrArg Int32.toInt ((show (u2 Ia98 (70) 6 (v42)) (70) 4 = Ia98 (70) 4 from by simp [u2_v]))
                      exact ih98  (u2 Ia98 (70) 6 (v42)) La98 _ _ ls hI hK (by omega) (by omega) hM hS (lv_sub hl [0] rfl)
              exact loop98 (_ + 1)  (u2 Ia0 (70) 6 (0)) La0 _ _ ls hI hK (by have tq := congrArg Int32.toInt ((show (u2 Ia0 (70) 6 (0)) (70) 4 = Ia0 (70) 4 from by simp [u2_v])); omega) (Nat.lt_succ_self _) hM hS (lv_sub hl [0] rfl)
          · have hc11 := c11
            have q11 := xr10.t hc11
            refine lv_aload_n hx hb dX4_readToken_77 rfl (lv_at hl 0 rfl) ?_
            refine m_callv (m_runV (70) (As := []) (rest := []) hx hb hml hown hts hE hM hS hA ce_X4_readNumber tb_584 (V_X4_readNumber l D A ad ns (u2 Ia0 (70) 6 (0)) La0 G hG hI) rfl rfl ⟨Nat.le_of_ble_eq_true rfl, Nat.le_of_ble_eq_true rfl⟩ (hG.1 70 (by decide)) rfl rfl (by decide) rfl hl.1 rfl (Nat.le_of_ble_eq_true rfl) dX4_readToken_78 ⟨Nat.le_of_ble_eq_true rfl, Nat.le_of_ble_eq_true rfl⟩) hS (fun u H locs hw hM hS => ?_)
            obtain ⟨I44, L45, rfl, hI, hkI44⟩ := hw
            have hM : Mem D A ad ns I44 L45 G H := hM
            have hK := hK.trans hkI44 rfl
            refine lv_goto (tgt := 201) hx hb dX4_readToken_81 (by decide) ?_
            have tf4 : (I44 (70) 4).toInt = (Ia0 (70) 4 : Int32).toInt := congrArg Int32.toInt (((hkI44.get (70) 4 rfl)).trans (show (u2 Ia0 (70) 6 (0)) (70) 4 = Ia0 (70) 4 from by simp [u2_v]))
            exact m_vret hx hb hr hlocks hM hS (Nat.le_of_ble_eq_true rfl) (Nat.le_of_ble_eq_true rfl) ⟨_, _, rfl, hI, hK, (by omega)⟩ dX4_readToken_201
        · have hc7 := c7
          have q7 := q_nlt hc7
          refine lv_aload_n hx hb dX4_readToken_54 rfl (lv_at hl 0 rfl) ?_
          refine lv_bipush (v := (-45)) hx hb dX4_readToken_55 (by decide) ?_
          refine m_puti (70) 5 hx hb hts hown hE oc4 hM hS (hG.1 70 (by decide)) rfl (by decide) rfl rfl rfl rfl tb_323 dX4_readToken_57 (fun H locs I46 eI46 hM hS => ?_)
          subst eI46
          have hI := hI.putF (n := 70) (k := 5) (v := (-45 : Int32)) rfl
          have hK := hK.put (n := 70) (k := 5) (v := (-45 : Int32)) (by first | rfl | simp [inR])
          refine lv_goto (tgt := 201) hx hb dX4_readToken_60 (by decide) ?_
          have tf6 : ((u2 (u2 Ia0 (70) 6 (0)) (70) 5 ((-45 : Int32))) (70) 6).toInt = (0 : Int32).toInt := congrArg Int32.toInt ((show (u2 (u2 Ia0 (70) 6 (0)) (70) 5 ((-45 : Int32))) (70) 6 = 0 from by simp [u2_v]))
          have tf4 : ((u2 (u2 Ia0 (70) 6 (0)) (70) 5 ((-45 : Int32))) (70) 4).toInt = (Ia0 (70) 4 : Int32).toInt := congrArg Int32.toInt ((show (u2 (u2 Ia0 (70) 6 (0)) (70) 5 ((-45 : Int32))) (70) 4 = Ia0 (70) 4 from by simp [u2_v]))
          exact m_vret hx hb hr hlocks hM hS (Nat.le_of_ble_eq_true rfl) (Nat.le_of_ble_eq_true rfl) ⟨_, _, rfl, hI, hK, (by omega)⟩ dX4_readToken_201
      · have hc3 := c3
        have q3 := q_nle hc3
        refine lv_aload_n hx hb dX4_readToken_11 rfl (lv_at hl 0 rfl) ?_
        refine m_getr (70) 0 (71) hx hb hts hown hE oc4 hM (hG.1 70 (by decide)) rfl (by decide) rfl (hG.2 (70, 0, 71) (by decide)) (by decide) tb_318 dX4_readToken_12 ?_
        refine lv_aload_n hx hb dX4_readToken_15 rfl (lv_at hl 0 rfl) ?_
        refine m_geti (70) 4 hx hb hts hown hE oc4 hM (hG.1 70 (by decide)) rfl (by decide) rfl tb_322 dX4_readToken_16 ?_
        refine m_bald (71) hx hb hE hM (hG.1 71 (by decide)) rfl (vp_in_iff.mpr (by omega)) dX4_readToken_19 ?_
        have g47 := hI.get (71) ((Ia0 (70) 4).toNatClampNeg) (lo := -128) (hi := 127) rfl
        refine lv_bipush (v := (32)) hx hb dX4_readToken_20 (by decide) ?_
        refine lv_icmp_ne (tgt := 38) hx hb dX4_readToken_22 (by decide) (fun c48 => ?_) (fun c48 => ?_)
        · have hc48 := c48
          have q48 := q_ne hc48
          refine lv_aload_n hx hb dX4_readToken_38 rfl (lv_at hl 0 rfl) ?_
          refine lv_iconst (v := (0)) hx hb dX4_readToken_39 (by decide) ?_
          refine m_puti (70) 6 hx hb hts hown hE oc4 hM hS (hG.1 70 (by decide)) rfl (by decide) rfl rfl rfl rfl tb_324 dX4_readToken_40 (fun H locs I49 eI49 hM hS => ?_)
          subst eI49
          have hI := hI.put (n := 70) (k := 6) (v := 0) (lo := 0) (hi := 401) rfl (by first | omega | decide)
          have hK := hK.put (n := 70) (k := 6) (v := 0) (by first | rfl | simp [inR])
          refine lv_aload_n hx hb dX4_readToken_43 rfl (lv_at hl 0 rfl) ?_
          refine m_geti (70) 4 hx hb hts hown hE oc4 hM (hG.1 70 (by decide)) rfl (by decide) rfl tb_322 dX4_readToken_44 ?_
          have z50 : (u2 Ia0 (70) 6 (0)) (70) 4 = Ia0 (70) 4 := (show (u2 Ia0 (70) 6 (0)) (70) 4 = Ia0 (70) 4 from by simp [u2_v])
          rw [z50]
          refine lv_aload_n hx hb dX4_readToken_47 rfl (lv_at hl 0 rfl) ?_
          refine m_geti (70) 3 hx hb hts hown hE oc4 hM (hG.1 70 (by decide)) rfl (by decide) rfl tb_321 dX4_readToken_48 ?_
          have z51 : (u2 Ia0 (70) 6 (0)) (70) 3 = Ia0 (70) 3 := (show (u2 Ia0 (70) 6 (0)) (70) 3 = Ia0 (70) 3 from by simp [u2_v])
          rw [z51]
          refine lv_icmp_lt (tgt := 63) hx hb dX4_readToken_51 (by decide) (fun c52 => ?_) (fun c52 => ?_)
          · have hc52 := c52
            have q52 := q_lt hc52
            refine lv_aload_n hx hb dX4_readToken_63 rfl (lv_at hl 0 rfl) ?_
            refine lv_aload_n hx hb dX4_readToken_64 rfl (lv_at hl 0 rfl) ?_
            refine m_geti (70) 4 hx hb hts hown hE oc4 hM (hG.1 70 (by decide)) rfl (by decide) rfl tb_322 dX4_readToken_65 ?_
            have z53 : (u2 Ia0 (70) 6 (0)) (70) 4 = Ia0 (70) 4 := (show (u2 Ia0 (70) 6 (0)) (70) 4 = Ia0 (70) 4 from by simp [u2_v])
            rw [z53]
            refine m_calli (m_runV (70) (As := [.int (Ia0 (70) 4)]) (rest := []) hx hb hml hown hts hE hM hS hA ce_X4_byteAt tb_577 (V_X4_byteAt l D A ad ns (u2 Ia0 (70) 6 (0)) La0 G (Ia0 (70) 4) hG hI) rfl rfl ⟨Nat.le_of_ble_eq_true rfl, Nat.le_of_ble_eq_true rfl⟩ (hG.1 70 (by decide)) rfl rfl (by decide) rfl hl.1 rfl (Nat.le_of_ble_eq_true rfl) dX4_readToken_68 ⟨Nat.le_of_ble_eq_true rfl, Nat.le_of_ble_eq_true rfl⟩) hS (fun r54 u H locs hw hM hS => ?_)
            obtain ⟨rfl, xr54⟩ := hw
            have hM : Mem D A ad ns (u2 Ia0 (70) 6 (0)) La0 G H := hM
            refine m_calli (m_runS (As := [.int (r54)]) (rest := []) hx hb hml hown hts hE hM hS hA ce_X4_isDigit tb_581 (V_X4_isDigit l D A ad ns (u2 Ia0 (70) 6 (0)) La0 G (r54) hI) rfl rfl ⟨Nat.le_of_ble_eq_true rfl, Nat.le_of_ble_eq_true rfl⟩  rfl hl.1 rfl (Nat.le_of_ble_eq_true rfl) dX4_readToken_71 ⟨Nat.le_of_ble_eq_true rfl, Nat.le_of_ble_eq_true rfl⟩) hS (fun r55 u H locs hw hM hS => ?_)
            obtain ⟨rfl, xr55⟩ := hw
            have hM : Mem D A ad ns (u2 Ia0 (70) 6 (0)) La0 G H := hM
            have yr55 := bo01 xr55
            refine lv_if_eq (tgt := 84) hx hb dX4_readToken_74 (by decide) (fun c56 => ?_) (fun c56 => ?_)
            · have hc56 := c56
              have q56 := xr55.f hc56
              refine lv_aload_n hx hb dX4_readToken_84 rfl (lv_at hl 0 rfl) ?_
              refine lv_aload_n hx hb dX4_readToken_85 rfl (lv_at hl 0 rfl) ?_
              refine m_geti (70) 4 hx hb hts hown hE oc4 hM (hG.1 70 (by decide)) rfl (by decide) rfl tb_322 dX4_readToken_86 ?_
              have z57 : (u2 Ia0 (70) 6 (0)) (70) 4 = Ia0 (70) 4 := (show (u2 Ia0 (70) 6 (0)) (70) 4 = Ia0 (70) 4 from by simp [u2_v])
              rw [z57]
              refine m_calli (m_runV (70) (As := [.int (Ia0 (70) 4)]) (rest := []) hx hb hml hown hts hE hM hS hA ce_X4_byteAt tb_577 (V_X4_byteAt l D A ad ns (u2 Ia0 (70) 6 (0)) La0 G (Ia0 (70) 4) hG hI) rfl rfl ⟨Nat.le_of_ble_eq_true rfl, Nat.le_of_ble_eq_true rfl⟩ (hG.1 70 (by decide)) rfl rfl (by decide) rfl hl.1 rfl (Nat.le_of_ble_eq_true rfl) dX4_readToken_89 ⟨Nat.le_of_ble_eq_true rfl, Nat.le_of_ble_eq_true rfl⟩) hS (fun r58 u H locs hw hM hS => ?_)
              obtain ⟨rfl, xr58⟩ := hw
              have hM : Mem D A ad ns (u2 Ia0 (70) 6 (0)) La0 G H := hM
              refine m_calli (m_runS (As := [.int (r58)]) (rest := []) hx hb hml hown hts hE hM hS hA ce_X4_isLetter tb_588 (V_X4_isLetter l D A ad ns (u2 Ia0 (70) 6 (0)) La0 G (r58) hI) rfl rfl ⟨Nat.le_of_ble_eq_true rfl, Nat.le_of_ble_eq_true rfl⟩  rfl hl.1 rfl (Nat.le_of_ble_eq_true rfl) dX4_readToken_92 ⟨Nat.le_of_ble_eq_true rfl, Nat.le_of_ble_eq_true rfl⟩) hS (fun r59 u H locs hw hM hS => ?_)
              obtain ⟨rfl, xr59⟩ := hw
              have hM : Mem D A ad ns (u2 Ia0 (70) 6 (0)) La0 G H := hM
              have yr59 := bo01 xr59
              refine lv_if_eq (tgt := 166) hx hb dX4_readToken_95 (by decide) (fun c60 => ?_) (fun c60 => ?_)
              · have hc60 := c60
                have q60 := xr59.f hc60
                refine lv_aload_n hx hb dX4_readToken_166 rfl (lv_at hl 0 rfl) ?_
                refine lv_aload_n hx hb dX4_readToken_167 rfl (lv_at hl 0 rfl) ?_
                refine m_calli (m_runV (70) (As := []) (rest := [.ref (ad (70))]) hx hb hml hown hts hE hM hS hA ce_X4_signHere tb_661 (V_X4_signHere l D A ad ns (u2 Ia0 (70) 6 (0)) La0 G hG hI) rfl rfl ⟨Nat.le_of_ble_eq_true rfl, Nat.le_of_ble_eq_true rfl⟩ (hG.1 70 (by decide)) rfl rfl (by decide) rfl hl.1 rfl (Nat.le_of_ble_eq_true rfl) dX4_readToken_168 ⟨Nat.le_of_ble_eq_true rfl, Nat.le_of_ble_eq_true rfl⟩) hS (fun r61 u H locs hw hM hS => ?_)
                obtain ⟨rfl, xr61⟩ := hw
                have hM : Mem D A ad ns (u2 Ia0 (70) 6 (0)) La0 G H := hM
                refine m_puti (70) 5 hx hb hts hown hE oc4 hM hS (hG.1 70 (by decide)) rfl (by decide) rfl rfl rfl rfl tb_323 dX4_readToken_171 (fun H locs I62 eI62 hM hS => ?_)
                subst eI62
                have hI := hI.putF (n := 70) (k := 5) (v := r61) rfl
                have hK := hK.put (n := 70) (k := 5) (v := r61) (by first | rfl | simp [inR])
                refine lv_aload_n hx hb dX4_readToken_174 rfl (lv_at hl 0 rfl) ?_
                refine lv_aload_n hx hb dX4_readToken_175 rfl (lv_at hl 0 rfl) ?_
                refine m_geti (70) 5 hx hb hts hown hE oc4 hM (hG.1 70 (by decide)) rfl (by decide) rfl tb_323 dX4_readToken_176 ?_
                have z63 : (u2 (u2 Ia0 (70) 6 (0)) (70) 5 (r61)) (70) 5 = r61 := (show (u2 (u2 Ia0 (70) 6 (0)) (70) 5 (r61)) (70) 5 = r61 from by simp [u2_v])
                rw [z63]
                refine lv_bipush (v := (-20)) hx hb dX4_readToken_179 (by decide) ?_
                refine lv_icmp_eq (tgt := 193) hx hb dX4_readToken_181 (by decide) (fun c64 => ?_) (fun c64 => ?_)
                · have hc64 := c64
                  have q64 := q_eq hc64
                  refine lv_iconst (v := (2)) hx hb dX4_readToken_193 (by decide) ?_
                  refine lv_goto (tgt := 198) hx hb dX4_readToken_194 (by decide) ?_
                  refine m_puti (70) 6 hx hb hts hown hE oc4 hM hS (hG.1 70 (by decide)) rfl (by decide) rfl rfl rfl rfl tb_324 dX4_readToken_198 (fun H locs I65 eI65 hM hS => ?_)
                  subst eI65
                  have hI := hI.put (n := 70) (k := 6) (v := 2) (lo := 0) (hi := 401) rfl (by first | omega | decide)
                  have hK := hK.put (n := 70) (k := 6) (v := 2) (by first | rfl | simp [inR])
                  have tf6 : ((u2 (u2 (u2 Ia0 (70) 6 (0)) (70) 5 (r61)) (70) 6 (2)) (70) 6).toInt = (2 : Int32).toInt := congrArg Int32.toInt ((show (u2 (u2 (u2 Ia0 (70) 6 (0)) (70) 5 (r61)) (70) 6 (2)) (70) 6 = 2 from by simp [u2_v]))
                  have tf4 : ((u2 (u2 (u2 Ia0 (70) 6 (0)) (70) 5 (r61)) (70) 6 (2)) (70) 4).toInt = (Ia0 (70) 4 : Int32).toInt := congrArg Int32.toInt ((show (u2 (u2 (u2 Ia0 (70) 6 (0)) (70) 5 (r61)) (70) 6 (2)) (70) 4 = Ia0 (70) 4 from by simp [u2_v]))
                  exact m_vret hx hb hr hlocks hM hS (Nat.le_of_ble_eq_true rfl) (Nat.le_of_ble_eq_true rfl) ⟨_, _, rfl, hI, hK, (by omega)⟩ dX4_readToken_201
                · have hc64 := c64
                  have q64 := q_ne hc64
                  refine lv_aload_n hx hb dX4_readToken_184 rfl (lv_at hl 0 rfl) ?_
                  refine m_geti (70) 5 hx hb hts hown hE oc4 hM (hG.1 70 (by decide)) rfl (by decide) rfl tb_323 dX4_readToken_185 ?_
                  have z66 : (u2 (u2 Ia0 (70) 6 (0)) (70) 5 (r61)) (70) 5 = r61 := (show (u2 (u2 Ia0 (70) 6 (0)) (70) 5 (r61)) (70) 5 = r61 from by simp [u2_v])
                  rw [z66]
                  refine lv_bipush (v := (-22)) hx hb dX4_readToken_188 (by decide) ?_
                  refine lv_icmp_ne (tgt := 197) hx hb dX4_readToken_190 (by decide) (fun c67 => ?_) (fun c67 => ?_)
                  · have hc67 := c67
                    have q67 := q_ne hc67
                    refine lv_iconst (v := (1)) hx hb dX4_readToken_197 (by decide) ?_
                    refine m_puti (70) 6 hx hb hts hown hE oc4 hM hS (hG.1 70 (by decide)) rfl (by decide) rfl rfl rfl rfl tb_324 dX4_readToken_198 (fun H locs I68 eI68 hM hS => ?_)
                    subst eI68
                    have hI := hI.put (n := 70) (k := 6) (v := 1) (lo := 0) (hi := 401) rfl (by first | omega | decide)
                    have hK := hK.put (n := 70) (k := 6) (v := 1) (by first | rfl | simp [inR])
                    have tf6 : ((u2 (u2 (u2 Ia0 (70) 6 (0)) (70) 5 (r61)) (70) 6 (1)) (70) 6).toInt = (1 : Int32).toInt := congrArg Int32.toInt ((show (u2 (u2 (u2 Ia0 (70) 6 (0)) (70) 5 (r61)) (70) 6 (1)) (70) 6 = 1 from by simp [u2_v]))
                    have tf4 : ((u2 (u2 (u2 Ia0 (70) 6 (0)) (70) 5 (r61)) (70) 6 (1)) (70) 4).toInt = (Ia0 (70) 4 : Int32).toInt := congrArg Int32.toInt ((show (u2 (u2 (u2 Ia0 (70) 6 (0)) (70) 5 (r61)) (70) 6 (1)) (70) 4 = Ia0 (70) 4 from by simp [u2_v]))
                    exact m_vret hx hb hr hlocks hM hS (Nat.le_of_ble_eq_true rfl) (Nat.le_of_ble_eq_true rfl) ⟨_, _, rfl, hI, hK, (by omega)⟩ dX4_readToken_201
                  · have hc67 := c67
                    have q67 := q_eq hc67
                    refine lv_iconst (v := (2)) hx hb dX4_readToken_193 (by decide) ?_
                    refine lv_goto (tgt := 198) hx hb dX4_readToken_194 (by decide) ?_
                    refine m_puti (70) 6 hx hb hts hown hE oc4 hM hS (hG.1 70 (by decide)) rfl (by decide) rfl rfl rfl rfl tb_324 dX4_readToken_198 (fun H locs I69 eI69 hM hS => ?_)
                    subst eI69
                    have hI := hI.put (n := 70) (k := 6) (v := 2) (lo := 0) (hi := 401) rfl (by first | omega | decide)
                    have hK := hK.put (n := 70) (k := 6) (v := 2) (by first | rfl | simp [inR])
                    have tf6 : ((u2 (u2 (u2 Ia0 (70) 6 (0)) (70) 5 (r61)) (70) 6 (2)) (70) 6).toInt = (2 : Int32).toInt := congrArg Int32.toInt ((show (u2 (u2 (u2 Ia0 (70) 6 (0)) (70) 5 (r61)) (70) 6 (2)) (70) 6 = 2 from by simp [u2_v]))
                    have tf4 : ((u2 (u2 (u2 Ia0 (70) 6 (0)) (70) 5 (r61)) (70) 6 (2)) (70) 4).toInt = (Ia0 (70) 4 : Int32).toInt := congrArg Int32.toInt ((show (u2 (u2 (u2 Ia0 (70) 6 (0)) (70) 5 (r61)) (70) 6 (2)) (70) 4 = Ia0 (70) 4 from by simp [u2_v]))
                    exact m_vret hx hb hr hlocks hM hS (Nat.le_of_ble_eq_true rfl) (Nat.le_of_ble_eq_true rfl) ⟨_, _, rfl, hI, hK, (by omega)⟩ dX4_readToken_201
              · have hc60 := c60
                have q60 := xr59.t hc60
                have loop98 : ∀ (n : Nat)  (Ia98 : MI) (La98 : ML) (H : Heap) (locs : List Loc) (ls : Array Slot), INV Ia98 → Kp [] [(70, 4), (70, 5), (70, 6)] I Ia98 → ((Ia98 70 4).toInt < 400) → (401 - (Ia98 70 6).toInt).toNat < n → Mem D A ad ns Ia98 La98 G H → va_S A s.heap H locs → lv_has ls 1 [(0, .ref (ad (70)))] → W p l e ({ frames := 6, cells := 0, slots := 0, locals := 127 } : Room) s m args below meth c H locs 0 0 (MQ below (va_Qv (fun u => ∃ I2 L2, u = (ad, ns, I2, L2, G) ∧ INV I2 ∧ Kp [] [(70, 4), (70, 5), (70, 6)] I I2 ∧ ((I2 70 6).toInt = 0 ∨ (I2 70 4).toInt < 400)) (BM D A) A) args s 0 0 A) (F0 m 98 ls []) := by
                  intro n
                  induction n with
                  | zero =>
                    intro  Ia98 La98 H locs ls hI hK hp4 hmu
                    exact absurd hmu (Nat.not_lt_zero _)
                  | succ n ih98 =>
                    intro  Ia98 La98 H locs ls hI hK hp4 hmu98 hM hS hl
                    refine lv_aload_n hx hb dX4_readToken_98 rfl (lv_at hl 0 rfl) ?_
                    refine lv_aload_n hx hb dX4_readToken_99 rfl (lv_at hl 0 rfl) ?_
                    refine m_geti (70) 4 hx hb hts hown hE oc4 hM (hG.1 70 (by decide)) rfl (by decide) rfl tb_322 dX4_readToken_100 ?_
                    have g70 := hI.get (70) 4 (lo := 0) (hi := 801) rfl
                    refine lv_aload_n hx hb dX4_readToken_103 rfl (lv_at hl 0 rfl) ?_
                    refine m_geti (70) 6 hx hb hts hown hE oc4 hM (hG.1 70 (by decide)) rfl (by decide) rfl tb_324 dX4_readToken_104 ?_
                    have g71 := hI.get (70) 6 (lo := 0) (hi := 401) rfl
                    refine lv_iadd hx hb dX4_readToken_107 ?_
                    refine lv_topi (fun v72 ev72 => ?_)
                    have tv72 := a_add ev72 (by omega) (by omega)
                    refine m_calli (m_runV (70) (As := [.int (v72)]) (rest := []) hx hb hml hown hts hE hM hS hA ce_X4_byteAt tb_577 (V_X4_byteAt l D A ad ns Ia98 La98 G (v72) hG hI) rfl rfl ⟨Nat.le_of_ble_eq_true rfl, Nat.le_of_ble_eq_true rfl⟩ (hG.1 70 (by decide)) rfl rfl (by decide) rfl hl.1 rfl (Nat.le_of_ble_eq_true rfl) dX4_readToken_108 ⟨Nat.le_of_ble_eq_true rfl, Nat.le_of_ble_eq_true rfl⟩) hS (fun r73 u H locs hw hM hS => ?_)
                    obtain ⟨rfl, xr73⟩ := hw
                    have hM : Mem D A ad ns Ia98 La98 G H := hM
                    refine m_calli (m_runS (As := [.int (r73)]) (rest := []) hx hb hml hown hts hE hM hS hA ce_X4_isLetter tb_588 (V_X4_isLetter l D A ad ns Ia98 La98 G (r73) hI) rfl rfl ⟨Nat.le_of_ble_eq_true rfl, Nat.le_of_ble_eq_true rfl⟩  rfl hl.1 rfl (Nat.le_of_ble_eq_true rfl) dX4_readToken_111 ⟨Nat.le_of_ble_eq_true rfl, Nat.le_of_ble_eq_true rfl⟩) hS (fun r74 u H locs hw hM hS => ?_)
                    obtain ⟨rfl, xr74⟩ := hw
                    have hM : Mem D A ad ns Ia98 La98 G H := hM
                    have yr74 := bo01 xr74
                    refine lv_if_eq (tgt := 140) hx hb dX4_readToken_114 (by decide) (fun c75 => ?_) (fun c75 => ?_)
                    · have hc75 := c75
                      have q75 := xr74.f hc75
                      refine lv_aload_n hx hb dX4_readToken_140 rfl (lv_at hl 0 rfl) ?_
                      refine lv_aload_n hx hb dX4_readToken_141 rfl (lv_at hl 0 rfl) ?_
                      refine m_geti (70) 6 hx hb hts hown hE oc4 hM (hG.1 70 (by decide)) rfl (by decide) rfl tb_324 dX4_readToken_142 ?_
                      refine lv_iconst (v := (1)) hx hb dX4_readToken_145 (by decide) ?_
                      refine lv_icmp_ne (tgt := 156) hx hb dX4_readToken_146 (by decide) (fun c76 => ?_) (fun c76 => ?_)
                      · have hc76 := c76
                        have q76 := q_ne hc76
                        refine lv_aload_n hx hb dX4_readToken_156 rfl (lv_at hl 0 rfl) ?_
                        refine m_calli (m_runV (70) (As := []) (rest := [.ref (ad (70))]) hx hb hml hown hts hE hM hS hA ce_X4_wordHere tb_595 (V_X4_wordHere l D A ad ns Ia98 La98 G hG hI) rfl rfl ⟨Nat.le_of_ble_eq_true rfl, Nat.le_of_ble_eq_true rfl⟩ (hG.1 70 (by decide)) rfl rfl (by decide) rfl hl.1 rfl (Nat.le_of_ble_eq_true rfl) dX4_readToken_157 ⟨Nat.le_of_ble_eq_true rfl, Nat.le_of_ble_eq_true rfl⟩) hS (fun r77 u H locs hw hM hS => ?_)
                        obtain ⟨rfl, xr77⟩ := hw
                        have hM : Mem D A ad ns Ia98 La98 G H := hM
                        refine m_puti (70) 5 hx hb hts hown hE oc4 hM hS (hG.1 70 (by decide)) rfl (by decide) rfl rfl rfl rfl tb_323 dX4_readToken_160 (fun H locs I78 eI78 hM hS => ?_)
                        subst eI78
                        have hI := hI.putF (n := 70) (k := 5) (v := r77) rfl
                        have hK := hK.put (n := 70) (k := 5) (v := r77) (by first | rfl | simp [inR])
                        refine lv_goto (tgt := 201) hx hb dX4_readToken_163 (by decide) ?_
                        have tf6 : ((u2 Ia98 (70) 5 (r77)) (70) 6).toInt = (Ia98 (70) 6 : Int32).toInt := congrArg Int32.toInt ((show (u2 Ia98 (70) 5 (r77)) (70) 6 = Ia98 (70) 6 from by simp [u2_v]))
                        have tf4 : ((u2 Ia98 (70) 5 (r77)) (70) 4).toInt = (Ia98 (70) 4 : Int32).toInt := congrArg Int32.toInt ((show (u2 Ia98 (70) 5 (r77)) (70) 4 = Ia98 (70) 4 from by simp [u2_v]))
                        exact m_vret hx hb hr hlocks hM hS (Nat.le_of_ble_eq_true rfl) (Nat.le_of_ble_eq_true rfl) ⟨_, _, rfl, hI, hK, (by omega)⟩ dX4_readToken_201
                      · have hc76 := c76
                        have q76 := q_eq hc76
                        refine lv_aload_n hx hb dX4_readToken_149 rfl (lv_at hl 0 rfl) ?_
                        refine m_calli (m_runV (70) (As := []) (rest := [.ref (ad (70))]) hx hb hml hown hts hE hM hS hA ce_X4_yardHere tb_591 (V_X4_yardHere l D A ad ns Ia98 La98 G hG hI) rfl rfl ⟨Nat.le_of_ble_eq_true rfl, Nat.le_of_ble_eq_true rfl⟩ (hG.1 70 (by decide)) rfl rfl (by decide) rfl hl.1 rfl (Nat.le_of_ble_eq_true rfl) dX4_readToken_150 ⟨Nat.le_of_ble_eq_true rfl, Nat.le_of_ble_eq_true rfl⟩) hS (fun r79 u H locs hw hM hS => ?_)
                        obtain ⟨rfl, xr79⟩ := hw
                        have hM : Mem D A ad ns Ia98 La98 G H := hM
                        refine lv_goto (tgt := 160) hx hb dX4_readToken_153 (by decide) ?_
                        refine m_puti (70) 5 hx hb hts hown hE oc4 hM hS (hG.1 70 (by decide)) rfl (by decide) rfl rfl rfl rfl tb_323 dX4_readToken_160 (fun H locs I80 eI80 hM hS => ?_)
                        subst eI80
                        have hI := hI.putF (n := 70) (k := 5) (v := r79) rfl
                        have hK := hK.put (n := 70) (k := 5) (v := r79) (by first | rfl | simp [inR])
                        refine lv_goto (tgt := 201) hx hb dX4_readToken_163 (by decide) ?_
                        have tf6 : ((u2 Ia98 (70) 5 (r79)) (70) 6).toInt = (Ia98 (70) 6 : Int32).toInt := congrArg Int32.toInt ((show (u2 Ia98 (70) 5 (r79)) (70) 6 = Ia98 (70) 6 from by simp [u2_v]))
                        have tf4 : ((u2 Ia98 (70) 5 (r79)) (70) 4).toInt = (Ia98 (70) 4 : Int32).toInt := congrArg Int32.toInt ((show (u2 Ia98 (70) 5 (r79)) (70) 4 = Ia98 (70) 4 from by simp [u2_v]))
                        exact m_vret hx hb hr hlocks hM hS (Nat.le_of_ble_eq_true rfl) (Nat.le_of_ble_eq_true rfl) ⟨_, _, rfl, hI, hK, (by omega)⟩ dX4_readToken_201
                    · have hc75 := c75
                      have q75 := xr74.t hc75
                      refine lv_aload_n hx hb dX4_readToken_117 rfl (lv_at hl 0 rfl) ?_
                      refine m_geti (70) 6 hx hb hts hown hE oc4 hM (hG.1 70 (by decide)) rfl (by decide) rfl tb_324 dX4_readToken_118 ?_
                      refine lv_sipush (v := (400)) hx hb dX4_readToken_121 (by decide) ?_
                      refine lv_icmp_ge (tgt := 140) hx hb dX4_readToken_124 (by decide) (fun c81 => ?_) (fun c81 => ?_)
                      · have hc81 := c81
                        have q81 := q_le hc81
                        refine lv_aload_n hx hb dX4_readToken_140 rfl (lv_at hl 0 rfl) ?_
                        refine lv_aload_n hx hb dX4_readToken_141 rfl (lv_at hl 0 rfl) ?_
                        refine m_geti (70) 6 hx hb hts hown hE oc4 hM (hG.1 70 (by decide)) rfl (by decide) rfl tb_324 dX4_readToken_142 ?_
                        refine lv_iconst (v := (1)) hx hb dX4_readToken_145 (by decide) ?_
                        refine lv_icmp_ne (tgt := 156) hx hb dX4_readToken_146 (by decide) (fun c82 => ?_) (fun c82 => ?_)
                        · have hc82 := c82
                          have q82 := q_ne hc82
                          refine lv_aload_n hx hb dX4_readToken_156 rfl (lv_at hl 0 rfl) ?_
                          refine m_calli (m_runV (70) (As := []) (rest := [.ref (ad (70))]) hx hb hml hown hts hE hM hS hA ce_X4_wordHere tb_595 (V_X4_wordHere l D A ad ns Ia98 La98 G hG hI) rfl rfl ⟨Nat.le_of_ble_eq_true rfl, Nat.le_of_ble_eq_true rfl⟩ (hG.1 70 (by decide)) rfl rfl (by decide) rfl hl.1 rfl (Nat.le_of_ble_eq_true rfl) dX4_readToken_157 ⟨Nat.le_of_ble_eq_true rfl, Nat.le_of_ble_eq_true rfl⟩) hS (fun r83 u H locs hw hM hS => ?_)
                          obtain ⟨rfl, xr83⟩ := hw
                          have hM : Mem D A ad ns Ia98 La98 G H := hM
                          refine m_puti (70) 5 hx hb hts hown hE oc4 hM hS (hG.1 70 (by decide)) rfl (by decide) rfl rfl rfl rfl tb_323 dX4_readToken_160 (fun H locs I84 eI84 hM hS => ?_)
                          subst eI84
                          have hI := hI.putF (n := 70) (k := 5) (v := r83) rfl
                          have hK := hK.put (n := 70) (k := 5) (v := r83) (by first | rfl | simp [inR])
                          refine lv_goto (tgt := 201) hx hb dX4_readToken_163 (by decide) ?_
                          have tf6 : ((u2 Ia98 (70) 5 (r83)) (70) 6).toInt = (Ia98 (70) 6 : Int32).toInt := congrArg Int32.toInt ((show (u2 Ia98 (70) 5 (r83)) (70) 6 = Ia98 (70) 6 from by simp [u2_v]))
                          have tf4 : ((u2 Ia98 (70) 5 (r83)) (70) 4).toInt = (Ia98 (70) 4 : Int32).toInt := congrArg Int32.toInt ((show (u2 Ia98 (70) 5 (r83)) (70) 4 = Ia98 (70) 4 from by simp [u2_v]))
                          exact m_vret hx hb hr hlocks hM hS (Nat.le_of_ble_eq_true rfl) (Nat.le_of_ble_eq_true rfl) ⟨_, _, rfl, hI, hK, (by omega)⟩ dX4_readToken_201
                        · have hc82 := c82
                          have q82 := q_eq hc82
                          refine lv_aload_n hx hb dX4_readToken_149 rfl (lv_at hl 0 rfl) ?_
                          refine m_calli (m_runV (70) (As := []) (rest := [.ref (ad (70))]) hx hb hml hown hts hE hM hS hA ce_X4_yardHere tb_591 (V_X4_yardHere l D A ad ns Ia98 La98 G hG hI) rfl rfl ⟨Nat.le_of_ble_eq_true rfl, Nat.le_of_ble_eq_true rfl⟩ (hG.1 70 (by decide)) rfl rfl (by decide) rfl hl.1 rfl (Nat.le_of_ble_eq_true rfl) dX4_readToken_150 ⟨Nat.le_of_ble_eq_true rfl, Nat.le_of_ble_eq_true rfl⟩) hS (fun r85 u H locs hw hM hS => ?_)
                          obtain ⟨rfl, xr85⟩ := hw
                          have hM : Mem D A ad ns Ia98 La98 G H := hM
                          refine lv_goto (tgt := 160) hx hb dX4_readToken_153 (by decide) ?_
                          refine m_puti (70) 5 hx hb hts hown hE oc4 hM hS (hG.1 70 (by decide)) rfl (by decide) rfl rfl rfl rfl tb_323 dX4_readToken_160 (fun H locs I86 eI86 hM hS => ?_)
                          subst eI86
                          have hI := hI.putF (n := 70) (k := 5) (v := r85) rfl
                          have hK := hK.put (n := 70) (k := 5) (v := r85) (by first | rfl | simp [inR])
                          refine lv_goto (tgt := 201) hx hb dX4_readToken_163 (by decide) ?_
                          have tf6 : ((u2 Ia98 (70) 5 (r85)) (70) 6).toInt = (Ia98 (70) 6 : Int32).toInt := congrArg Int32.toInt ((show (u2 Ia98 (70) 5 (r85)) (70) 6 = Ia98 (70) 6 from by simp [u2_v]))
                          have tf4 : ((u2 Ia98 (70) 5 (r85)) (70) 4).toInt = (Ia98 (70) 4 : Int32).toInt := congrArg Int32.toInt ((show (u2 Ia98 (70) 5 (r85)) (70) 4 = Ia98 (70) 4 from by simp [u2_v]))
                          exact m_vret hx hb hr hlocks hM hS (Nat.le_of_ble_eq_true rfl) (Nat.le_of_ble_eq_true rfl) ⟨_, _, rfl, hI, hK, (by omega)⟩ dX4_readToken_201
                      · have hc81 := c81
                        have q81 := q_nle hc81
                        refine lv_aload_n hx hb dX4_readToken_127 rfl (lv_at hl 0 rfl) ?_
                        refine lv_dup hx hb dX4_readToken_128 rfl ?_
                        refine m_geti (70) 6 hx hb hts hown hE oc4 hM (hG.1 70 (by decide)) rfl (by decide) rfl tb_324 dX4_readToken_129 ?_
                        refine lv_iconst (v := (1)) hx hb dX4_readToken_132 (by decide) ?_
                        refine lv_iadd hx hb dX4_readToken_133 ?_
                        refine lv_topi (fun v87 ev87 => ?_)
                        have tv87 := a_add ev87 (by omega) (by omega)
                        refine m_puti (70) 6 hx hb hts hown hE oc4 hM hS (hG.1 70 (by decide)) rfl (by decide) rfl rfl rfl rfl tb_324 dX4_readToken_134 (fun H locs I88 eI88 hM hS => ?_)
                        subst eI88
                        have hI := hI.put (n := 70) (k := 6) (v := v87) (lo := 0) (hi := 401) rfl (by first | omega | decide)
                        have hK := hK.put (n := 70) (k := 6) (v := v87) (by first | rfl | simp [inR])
                        refine lv_goto (tgt := 98) hx hb dX4_readToken_137 (by decide) ?_
                        have tr706 : ((u2 Ia98 (70) 6 (v87)) (70) 6).toInt = (v87 : Int32).toInt := congrArg Int32.toInt ((show (u2 Ia98 (70) 6 (v87)) (70) 6 = v87 from by simp [u2_v]))
                        have tr704 : ((u2 Ia98 (70) 6 (v87)) (70) 4).toInt = (Ia98 (70) 4 : Int32).toInt := congrArg Int32.toInt ((show (u2 Ia98 (70) 6 (v87)) (70) 4 = Ia98 (70) 4 from by simp [u2_v]))
                        exact ih98  (u2 Ia98 (70) 6 (v87)) La98 _ _ ls hI hK (by omega) (by omega) hM hS (lv_sub hl [0] rfl)
                exact loop98 (_ + 1)  (u2 Ia0 (70) 6 (0)) La0 _ _ ls hI hK (by have tq := congrArg Int32.toInt ((show (u2 Ia0 (70) 6 (0)) (70) 4 = Ia0 (70) 4 from by simp [u2_v])); omega) (Nat.lt_succ_self _) hM hS (lv_sub hl [0] rfl)
            · have hc56 := c56
              have q56 := xr55.t hc56
              refine lv_aload_n hx hb dX4_readToken_77 rfl (lv_at hl 0 rfl) ?_
              refine m_callv (m_runV (70) (As := []) (rest := []) hx hb hml hown hts hE hM hS hA ce_X4_readNumber tb_584 (V_X4_readNumber l D A ad ns (u2 Ia0 (70) 6 (0)) La0 G hG hI) rfl rfl ⟨Nat.le_of_ble_eq_true rfl, Nat.le_of_ble_eq_true rfl⟩ (hG.1 70 (by decide)) rfl rfl (by decide) rfl hl.1 rfl (Nat.le_of_ble_eq_true rfl) dX4_readToken_78 ⟨Nat.le_of_ble_eq_true rfl, Nat.le_of_ble_eq_true rfl⟩) hS (fun u H locs hw hM hS => ?_)
              obtain ⟨I89, L90, rfl, hI, hkI89⟩ := hw
              have hM : Mem D A ad ns I89 L90 G H := hM
              have hK := hK.trans hkI89 rfl
              refine lv_goto (tgt := 201) hx hb dX4_readToken_81 (by decide) ?_
              have tf4 : (I89 (70) 4).toInt = (Ia0 (70) 4 : Int32).toInt := congrArg Int32.toInt (((hkI89.get (70) 4 rfl)).trans (show (u2 Ia0 (70) 6 (0)) (70) 4 = Ia0 (70) 4 from by simp [u2_v]))
              exact m_vret hx hb hr hlocks hM hS (Nat.le_of_ble_eq_true rfl) (Nat.le_of_ble_eq_true rfl) ⟨_, _, rfl, hI, hK, (by omega)⟩ dX4_readToken_201
          · have hc52 := c52
            have q52 := q_nlt hc52
            refine lv_aload_n hx hb dX4_readToken_54 rfl (lv_at hl 0 rfl) ?_
            refine lv_bipush (v := (-45)) hx hb dX4_readToken_55 (by decide) ?_
            refine m_puti (70) 5 hx hb hts hown hE oc4 hM hS (hG.1 70 (by decide)) rfl (by decide) rfl rfl rfl rfl tb_323 dX4_readToken_57 (fun H locs I91 eI91 hM hS => ?_)
            subst eI91
            have hI := hI.putF (n := 70) (k := 5) (v := (-45 : Int32)) rfl
            have hK := hK.put (n := 70) (k := 5) (v := (-45 : Int32)) (by first | rfl | simp [inR])
            refine lv_goto (tgt := 201) hx hb dX4_readToken_60 (by decide) ?_
            have tf6 : ((u2 (u2 Ia0 (70) 6 (0)) (70) 5 ((-45 : Int32))) (70) 6).toInt = (0 : Int32).toInt := congrArg Int32.toInt ((show (u2 (u2 Ia0 (70) 6 (0)) (70) 5 ((-45 : Int32))) (70) 6 = 0 from by simp [u2_v]))
            have tf4 : ((u2 (u2 Ia0 (70) 6 (0)) (70) 5 ((-45 : Int32))) (70) 4).toInt = (Ia0 (70) 4 : Int32).toInt := congrArg Int32.toInt ((show (u2 (u2 Ia0 (70) 6 (0)) (70) 5 ((-45 : Int32))) (70) 4 = Ia0 (70) 4 from by simp [u2_v]))
            exact m_vret hx hb hr hlocks hM hS (Nat.le_of_ble_eq_true rfl) (Nat.le_of_ble_eq_true rfl) ⟨_, _, rfl, hI, hK, (by omega)⟩ dX4_readToken_201
        · have hc48 := c48
          have q48 := q_eq hc48
          refine lv_aload_n hx hb dX4_readToken_25 rfl (lv_at hl 0 rfl) ?_
          refine lv_dup hx hb dX4_readToken_26 rfl ?_
          refine m_geti (70) 4 hx hb hts hown hE oc4 hM (hG.1 70 (by decide)) rfl (by decide) rfl tb_322 dX4_readToken_27 ?_
          refine lv_iconst (v := (1)) hx hb dX4_readToken_30 (by decide) ?_
          refine lv_iadd hx hb dX4_readToken_31 ?_
          refine lv_topi (fun v92 ev92 => ?_)
          have tv92 := a_add ev92 (by omega) (by omega)
          refine m_puti (70) 4 hx hb hts hown hE oc4 hM hS (hG.1 70 (by decide)) rfl (by decide) rfl rfl rfl rfl tb_322 dX4_readToken_32 (fun H locs I93 eI93 hM hS => ?_)
          subst eI93
          have hI := hI.put (n := 70) (k := 4) (v := v92) (lo := 0) (hi := 801) rfl (by first | omega | decide)
          have hK := hK.put (n := 70) (k := 4) (v := v92) (by first | rfl | simp [inR])
          refine lv_goto (tgt := 0) hx hb dX4_readToken_35 (by decide) ?_
          have tr704 : ((u2 Ia0 (70) 4 (v92)) (70) 4).toInt = (v92 : Int32).toInt := congrArg Int32.toInt ((show (u2 Ia0 (70) 4 (v92)) (70) 4 = v92 from by simp [u2_v]))
          exact ih0  (u2 Ia0 (70) 4 (v92)) La0 _ _ ls hI hK  (by omega) hM hS (lv_sub hl [0] rfl)
  exact loop0 (_ + 1)  I L _ _ ls hI hK  (Nat.lt_succ_self _) hM hS (lv_sub hl [0] rfl)
theorem dX4_popDownTo_0 : decode cX4_popDownTo 0 = .ok (.aload_n 0, 1) := by decide +kernel
theorem dX4_popDownTo_1 : decode cX4_popDownTo 1 = .ok (.getfield 32, 3) := by decide +kernel
theorem dX4_popDownTo_4 : decode cX4_popDownTo 4 = .ok (.ifCond .le 94, 3) := by decide +kernel
theorem dX4_popDownTo_7 : decode cX4_popDownTo 7 = .ok (.aload_n 0, 1) := by decide +kernel
theorem dX4_popDownTo_8 : decode cX4_popDownTo 8 = .ok (.getfield 15, 3) := by decide +kernel
theorem dX4_popDownTo_11 : decode cX4_popDownTo 11 = .ok (.aload_n 0, 1) := by decide +kernel
theorem dX4_popDownTo_12 : decode cX4_popDownTo 12 = .ok (.getfield 32, 3) := by decide +kernel
theorem dX4_popDownTo_15 : decode cX4_popDownTo 15 = .ok (.iconst 1, 1) := by decide +kernel
theorem dX4_popDownTo_16 : decode cX4_popDownTo 16 = .ok (.isub, 1) := by decide +kernel
theorem dX4_popDownTo_17 : decode cX4_popDownTo 17 = .ok (.iaload, 1) := by decide +kernel
theorem dX4_popDownTo_18 : decode cX4_popDownTo 18 = .ok (.bipush (-42), 2) := by decide +kernel
theorem dX4_popDownTo_20 : decode cX4_popDownTo 20 = .ok (.if_icmp .eq 78, 3) := by decide +kernel
theorem dX4_popDownTo_23 : decode cX4_popDownTo 23 = .ok (.aload_n 0, 1) := by decide +kernel
theorem dX4_popDownTo_24 : decode cX4_popDownTo 24 = .ok (.getfield 15, 3) := by decide +kernel
theorem dX4_popDownTo_27 : decode cX4_popDownTo 27 = .ok (.aload_n 0, 1) := by decide +kernel
theorem dX4_popDownTo_28 : decode cX4_popDownTo 28 = .ok (.getfield 32, 3) := by decide +kernel
theorem dX4_popDownTo_31 : decode cX4_popDownTo 31 = .ok (.iconst 1, 1) := by decide +kernel
theorem dX4_popDownTo_32 : decode cX4_popDownTo 32 = .ok (.isub, 1) := by decide +kernel
theorem dX4_popDownTo_33 : decode cX4_popDownTo 33 = .ok (.iaload, 1) := by decide +kernel
theorem dX4_popDownTo_34 : decode cX4_popDownTo 34 = .ok (.invokestatic 125, 3) := by decide +kernel
theorem dX4_popDownTo_37 : decode cX4_popDownTo 37 = .ok (.iload_n 1, 1) := by decide +kernel
theorem dX4_popDownTo_38 : decode cX4_popDownTo 38 = .ok (.if_icmp .lt 60, 3) := by decide +kernel
theorem dX4_popDownTo_41 : decode cX4_popDownTo 41 = .ok (.aload_n 0, 1) := by decide +kernel
theorem dX4_popDownTo_42 : decode cX4_popDownTo 42 = .ok (.dup, 1) := by decide +kernel
theorem dX4_popDownTo_43 : decode cX4_popDownTo 43 = .ok (.getfield 32, 3) := by decide +kernel
theorem dX4_popDownTo_46 : decode cX4_popDownTo 46 = .ok (.iconst 1, 1) := by decide +kernel
theorem dX4_popDownTo_47 : decode cX4_popDownTo 47 = .ok (.isub, 1) := by decide +kernel
theorem dX4_popDownTo_48 : decode cX4_popDownTo 48 = .ok (.putfield 32, 3) := by decide +kernel
theorem dX4_popDownTo_51 : decode cX4_popDownTo 51 = .ok (.aload_n 0, 1) := by decide +kernel
theorem dX4_popDownTo_52 : decode cX4_popDownTo 52 = .ok (.dup, 1) := by decide +kernel
theorem dX4_popDownTo_53 : decode cX4_popDownTo 53 = .ok (.getfield 35, 3) := by decide +kernel
theorem dX4_popDownTo_56 : decode cX4_popDownTo 56 = .ok (.aload_n 0, 1) := by decide +kernel
theorem dX4_popDownTo_57 : decode cX4_popDownTo 57 = .ok (.getfield 15, 3) := by decide +kernel
theorem dX4_popDownTo_60 : decode cX4_popDownTo 60 = .ok (.aload_n 0, 1) := by decide +kernel
theorem dX4_popDownTo_61 : decode cX4_popDownTo 61 = .ok (.getfield 32, 3) := by decide +kernel
theorem dX4_popDownTo_64 : decode cX4_popDownTo 64 = .ok (.iaload, 1) := by decide +kernel
theorem dX4_popDownTo_65 : decode cX4_popDownTo 65 = .ok (.bipush (-14), 2) := by decide +kernel
theorem dX4_popDownTo_67 : decode cX4_popDownTo 67 = .ok (.if_icmp .ne 7, 3) := by decide +kernel
theorem dX4_popDownTo_70 : decode cX4_popDownTo 70 = .ok (.iconst 1, 1) := by decide +kernel
theorem dX4_popDownTo_71 : decode cX4_popDownTo 71 = .ok (.goto 4, 3) := by decide +kernel
theorem dX4_popDownTo_74 : decode cX4_popDownTo 74 = .ok (.iconst 0, 1) := by decide +kernel
theorem dX4_popDownTo_75 : decode cX4_popDownTo 75 = .ok (.isub, 1) := by decide +kernel
theorem dX4_popDownTo_76 : decode cX4_popDownTo 76 = .ok (.putfield 35, 3) := by decide +kernel
theorem dX4_popDownTo_79 : decode cX4_popDownTo 79 = .ok (.aload_n 0, 1) := by decide +kernel
theorem dX4_popDownTo_80 : decode cX4_popDownTo 80 = .ok (.getfield 50, 3) := by decide +kernel
theorem dX4_popDownTo_83 : decode cX4_popDownTo 83 = .ok (.aload_n 0, 1) := by decide +kernel
theorem dX4_popDownTo_84 : decode cX4_popDownTo 84 = .ok (.getfield 15, 3) := by decide +kernel
theorem dX4_popDownTo_87 : decode cX4_popDownTo 87 = .ok (.aload_n 0, 1) := by decide +kernel
theorem dX4_popDownTo_88 : decode cX4_popDownTo 88 = .ok (.getfield 32, 3) := by decide +kernel
theorem dX4_popDownTo_91 : decode cX4_popDownTo 91 = .ok (.iaload, 1) := by decide +kernel
theorem dX4_popDownTo_92 : decode cX4_popDownTo 92 = .ok (.invokevirtual 106, 3) := by decide +kernel
theorem dX4_popDownTo_95 : decode cX4_popDownTo 95 = .ok (.goto (-95), 3) := by decide +kernel
theorem dX4_popDownTo_98 : decode cX4_popDownTo 98 = .ok (.return_, 1) := by decide +kernel
theorem ce_X4_popDownTo : CeV RX4 yX4_popDownTo cX4_popDownTo 2 none 1 := ⟨tb_718, tp_19, tb_9, tb_719, rfl, by decide, by decide, by decide +kernel⟩
set_option maxHeartbeats 4000000 in
set_option maxRecDepth 20000 in
theorem V_X4_popDownTo (l : Launch) (D : va_G) (A : Nat → Prop) (ad : Nat → Nat) (ns : List Nat) (I : MI) (L : ML) (G : MG) (w : Nat) (a0 : Int32) (hG : SGC ns G) (hI : INV I) (hW : LOK ns G w) (hd : G 70 13 = w) : Met l yX4_popDownTo (wd yX4_popDownTo cX4_popDownTo 2 none) ({ frames := 1, cells := 0, slots := 0, locals := 21 }) (va_Pc [.ref (ad (70)), .int a0] (PM D A ad ns I L G)) (va_Qv (fun u => ∃ I2 L2, u = (ad, ns, I2, L2, G) ∧ INV I2 ∧ Kp [(200, 300)] [(70, 2), (70, 9)] I I2) (BM D A) A) 0 0 A := by
  refine m_ofW (by decide) (Nat.le_of_ble_eq_true rfl) ?_
  intro p e s m below meth c ls args hC hE hM hA hS hl
  obtain ⟨hx, hb, hml, hown, hts, hr, hlocks, hin⟩ := hC
  have km42 : (-42 : Int32).toInt = -42 := by decide
  have km14 : (-14 : Int32).toInt = -14 := by decide
  have k0 : (0 : Int32).toInt = 0 := by decide
  have k1 : (1 : Int32).toInt = 1 := by decide
  have hK : Kp [(200, 300)] [(70, 2), (70, 9)] I I := Kp.rf
  have hl : lv_has ls 2 [(0, .ref (ad (70))), (1, .int (a0))] := hl
  have loop0 : ∀ (n : Nat)  (Ia0 : MI) (La0 : ML) (H : Heap) (locs : List Loc) (ls : Array Slot), INV Ia0 → Kp [(200, 300)] [(70, 2), (70, 9)] I Ia0 → (Ia0 70 2).toInt.toNat < n → Mem D A ad ns Ia0 La0 G H → va_S A s.heap H locs → lv_has ls 2 [(0, .ref (ad (70))), (1, .int (a0))] → W p l e ({ frames := 1, cells := 0, slots := 0, locals := 21 } : Room) s m args below meth c H locs 0 0 (MQ below (va_Qv (fun u => ∃ I2 L2, u = (ad, ns, I2, L2, G) ∧ INV I2 ∧ Kp [(200, 300)] [(70, 2), (70, 9)] I I2) (BM D A) A) args s 0 0 A) (F0 m 0 ls []) := by
    intro n
    induction n with
    | zero =>
      intro  Ia0 La0 H locs ls hI hK  hmu
      exact absurd hmu (Nat.not_lt_zero _)
    | succ n ih0 =>
      intro  Ia0 La0 H locs ls hI hK  hmu0 hM hS hl
      refine lv_aload_n hx hb dX4_popDownTo_0 rfl (lv_at hl 0 rfl) ?_
      refine m_geti (70) 2 hx hb hts hown hE oc4 hM (hG.1 70 (by decide)) rfl (by decide) rfl tb_320 dX4_popDownTo_1 ?_
      have g1 := hI.get (70) 2 (lo := 0) (hi := 64) rfl
      refine lv_if_le (tgt := 98) hx hb dX4_popDownTo_4 (by decide) (fun c2 => ?_) (fun c2 => ?_)
      · have hc2 := c2
        have q2 := q_le hc2
        exact m_vret hx hb hr hlocks hM hS (Nat.le_of_ble_eq_true rfl) (Nat.le_of_ble_eq_true rfl) ⟨_, _, rfl, hI, hK⟩ dX4_popDownTo_98
      · have hc2 := c2
        have q2 := q_nle hc2
        refine lv_aload_n hx hb dX4_popDownTo_7 rfl (lv_at hl 0 rfl) ?_
        refine m_getr (70) 1 (72) hx hb hts hown hE oc4 hM (hG.1 70 (by decide)) rfl (by decide) rfl (hG.2 (70, 1, 72) (by decide)) (by decide) tb_319 dX4_popDownTo_8 ?_
        refine lv_aload_n hx hb dX4_popDownTo_11 rfl (lv_at hl 0 rfl) ?_
        refine m_geti (70) 2 hx hb hts hown hE oc4 hM (hG.1 70 (by decide)) rfl (by decide) rfl tb_320 dX4_popDownTo_12 ?_
        refine lv_iconst (v := (1)) hx hb dX4_popDownTo_15 (by decide) ?_
        refine lv_isub hx hb dX4_popDownTo_16 ?_
        refine lv_topi (fun v3 ev3 => ?_)
        have tv3 := a_sub ev3 (by omega) (by omega)
        refine m_iald (72) hx hb hE hM (hG.1 72 (by decide)) rfl (vp_in_iff.mpr (by omega)) dX4_popDownTo_17 ?_
        refine lv_bipush (v := (-42)) hx hb dX4_popDownTo_18 (by decide) ?_
        refine lv_icmp_eq (tgt := 98) hx hb dX4_popDownTo_20 (by decide) (fun c4 => ?_) (fun c4 => ?_)
        · have hc4 := c4
          have q4 := q_eq hc4
          exact m_vret hx hb hr hlocks hM hS (Nat.le_of_ble_eq_true rfl) (Nat.le_of_ble_eq_true rfl) ⟨_, _, rfl, hI, hK⟩ dX4_popDownTo_98
        · have hc4 := c4
          have q4 := q_ne hc4
          refine lv_aload_n hx hb dX4_popDownTo_23 rfl (lv_at hl 0 rfl) ?_
          refine m_getr (70) 1 (72) hx hb hts hown hE oc4 hM (hG.1 70 (by decide)) rfl (by decide) rfl (hG.2 (70, 1, 72) (by decide)) (by decide) tb_319 dX4_popDownTo_24 ?_
          refine lv_aload_n hx hb dX4_popDownTo_27 rfl (lv_at hl 0 rfl) ?_
          refine m_geti (70) 2 hx hb hts hown hE oc4 hM (hG.1 70 (by decide)) rfl (by decide) rfl tb_320 dX4_popDownTo_28 ?_
          refine lv_iconst (v := (1)) hx hb dX4_popDownTo_31 (by decide) ?_
          refine lv_isub hx hb dX4_popDownTo_32 ?_
          refine lv_topi (fun v5 ev5 => ?_)
          have tv5 := a_sub ev5 (by omega) (by omega)
          refine m_iald (72) hx hb hE hM (hG.1 72 (by decide)) rfl (vp_in_iff.mpr (by omega)) dX4_popDownTo_33 ?_
          refine m_calli (m_runS (As := [.int (Ia0 (72) (v5).toNatClampNeg)]) (rest := []) hx hb hml hown hts hE hM hS hA ce_X4_rankOf tb_713 (V_X4_rankOf l D A ad ns Ia0 La0 G (Ia0 (72) (v5).toNatClampNeg) hI) rfl rfl ⟨Nat.le_of_ble_eq_true rfl, Nat.le_of_ble_eq_true rfl⟩  rfl hl.1 rfl (Nat.le_of_ble_eq_true rfl) dX4_popDownTo_34 ⟨Nat.le_of_ble_eq_true rfl, Nat.le_of_ble_eq_true rfl⟩) hS (fun r6 u H locs hw hM hS => ?_)
          obtain ⟨rfl, xr6⟩ := hw
          have hM : Mem D A ad ns Ia0 La0 G H := hM
          refine lv_iload_n hx hb dX4_popDownTo_37 rfl (lv_at hl 1 rfl) ?_
          refine lv_icmp_lt (tgt := 98) hx hb dX4_popDownTo_38 (by decide) (fun c7 => ?_) (fun c7 => ?_)
          · have hc7 := c7
            have q7 := q_lt hc7
            exact m_vret hx hb hr hlocks hM hS (Nat.le_of_ble_eq_true rfl) (Nat.le_of_ble_eq_true rfl) ⟨_, _, rfl, hI, hK⟩ dX4_popDownTo_98
          · have hc7 := c7
            have q7 := q_nlt hc7
            refine lv_aload_n hx hb dX4_popDownTo_41 rfl (lv_at hl 0 rfl) ?_
            refine lv_dup hx hb dX4_popDownTo_42 rfl ?_
            refine m_geti (70) 2 hx hb hts hown hE oc4 hM (hG.1 70 (by decide)) rfl (by decide) rfl tb_320 dX4_popDownTo_43 ?_
            refine lv_iconst (v := (1)) hx hb dX4_popDownTo_46 (by decide) ?_
            refine lv_isub hx hb dX4_popDownTo_47 ?_
            refine lv_topi (fun v8 ev8 => ?_)
            have tv8 := a_sub ev8 (by omega) (by omega)
            refine m_puti (70) 2 hx hb hts hown hE oc4 hM hS (hG.1 70 (by decide)) rfl (by decide) rfl rfl rfl rfl tb_320 dX4_popDownTo_48 (fun H locs I9 eI9 hM hS => ?_)
            subst eI9
            have hI := hI.put (n := 70) (k := 2) (v := v8) (lo := 0) (hi := 64) rfl (by first | omega | decide)
            have hK := hK.put (n := 70) (k := 2) (v := v8) (by first | rfl | simp [inR])
            refine lv_aload_n hx hb dX4_popDownTo_51 rfl (lv_at hl 0 rfl) ?_
            refine lv_dup hx hb dX4_popDownTo_52 rfl ?_
            refine m_geti (70) 9 hx hb hts hown hE oc4 hM (hG.1 70 (by decide)) rfl (by decide) rfl tb_327 dX4_popDownTo_53 ?_
            have z10 : (u2 Ia0 (70) 2 (v8)) (70) 9 = Ia0 (70) 9 := (show (u2 Ia0 (70) 2 (v8)) (70) 9 = Ia0 (70) 9 from by simp [u2_v])
            rw [z10]
            refine lv_aload_n hx hb dX4_popDownTo_56 rfl (lv_at hl 0 rfl) ?_
            refine m_getr (70) 1 (72) hx hb hts hown hE oc4 hM (hG.1 70 (by decide)) rfl (by decide) rfl (hG.2 (70, 1, 72) (by decide)) (by decide) tb_319 dX4_popDownTo_57 ?_
            refine lv_aload_n hx hb dX4_popDownTo_60 rfl (lv_at hl 0 rfl) ?_
            refine m_geti (70) 2 hx hb hts hown hE oc4 hM (hG.1 70 (by decide)) rfl (by decide) rfl tb_320 dX4_popDownTo_61 ?_
            have g11 := hI.get (70) 2 (lo := 0) (hi := 64) rfl
            have z12 : (u2 Ia0 (70) 2 (v8)) (70) 2 = v8 := (show (u2 Ia0 (70) 2 (v8)) (70) 2 = v8 from by simp [u2_v])
            rw [z12] at g11 ⊢
            refine m_iald (72) hx hb hE hM (hG.1 72 (by decide)) rfl (vp_in_iff.mpr (by omega)) dX4_popDownTo_64 ?_
            have z13 : (u2 Ia0 (70) 2 (v8)) (72) (v8).toNatClampNeg = Ia0 (72) ((v8).toNatClampNeg) := (show (u2 Ia0 (70) 2 (v8)) (72) ((v8).toNatClampNeg) = Ia0 (72) ((v8).toNatClampNeg) from by simp [u2_v])
            rw [z13]
            refine lv_bipush (v := (-14)) hx hb dX4_popDownTo_65 (by decide) ?_
            refine lv_icmp_ne (tgt := 74) hx hb dX4_popDownTo_67 (by decide) (fun c14 => ?_) (fun c14 => ?_)
            · have hc14 := c14
              have q14 := q_ne hc14
              refine lv_iconst (v := (0)) hx hb dX4_popDownTo_74 (by decide) ?_
              refine lv_isub hx hb dX4_popDownTo_75 ?_
              refine lv_topi (fun v15 ev15 => ?_)
              refine m_puti (70) 9 hx hb hts hown hE oc4 hM hS (hG.1 70 (by decide)) rfl (by decide) rfl rfl rfl rfl tb_327 dX4_popDownTo_76 (fun H locs I16 eI16 hM hS => ?_)
              subst eI16
              have hI := hI.putF (n := 70) (k := 9) (v := v15) rfl
              have hK := hK.put (n := 70) (k := 9) (v := v15) (by first | rfl | simp [inR])
              refine lv_aload_n hx hb dX4_popDownTo_79 rfl (lv_at hl 0 rfl) ?_
              refine m_getr (70) 13 (w) hx hb hts hown hE oc4 hM (hG.1 70 (by decide)) rfl (by decide) rfl hd (by have := lbw hW.1; omega) tb_331 dX4_popDownTo_80 ?_
              refine lv_aload_n hx hb dX4_popDownTo_83 rfl (lv_at hl 0 rfl) ?_
              refine m_getr (70) 1 (72) hx hb hts hown hE oc4 hM (hG.1 70 (by decide)) rfl (by decide) rfl (hG.2 (70, 1, 72) (by decide)) (by decide) tb_319 dX4_popDownTo_84 ?_
              refine lv_aload_n hx hb dX4_popDownTo_87 rfl (lv_at hl 0 rfl) ?_
              refine m_geti (70) 2 hx hb hts hown hE oc4 hM (hG.1 70 (by decide)) rfl (by decide) rfl tb_320 dX4_popDownTo_88 ?_
              have z17 : (u2 (u2 Ia0 (70) 2 (v8)) (70) 9 (v15)) (70) 2 = v8 := (show (u2 (u2 Ia0 (70) 2 (v8)) (70) 9 (v15)) (70) 2 = v8 from by simp [u2_v])
              rw [z17]
              refine m_iald (72) hx hb hE hM (hG.1 72 (by decide)) rfl (vp_in_iff.mpr (by omega)) dX4_popDownTo_91 ?_
              have z18 : (u2 (u2 Ia0 (70) 2 (v8)) (70) 9 (v15)) (72) (v8).toNatClampNeg = Ia0 (72) ((v8).toNatClampNeg) := (show (u2 (u2 Ia0 (70) 2 (v8)) (70) 9 (v15)) (72) ((v8).toNatClampNeg) = Ia0 (72) ((v8).toNatClampNeg) from by simp [u2_v])
              rw [z18]
              refine m_callv (m_runV (w) (As := [.int (Ia0 (72) ((v8).toNatClampNeg))]) (rest := []) hx hb hml hown hts hE hM hS hA ce_X3_add tb_697 (V_X3_add l D A ad ns (u2 (u2 Ia0 (70) 2 (v8)) (70) 9 (v15)) La0 G (w) (Ia0 (72) ((v8).toNatClampNeg)) hG hI hW) rfl rfl ⟨Nat.le_of_ble_eq_true rfl, Nat.le_of_ble_eq_true rfl⟩ hW.l (kW _ hW.1).1 rfl (by decide) rfl hl.1 rfl (Nat.le_of_ble_eq_true rfl) dX4_popDownTo_92 ⟨Nat.le_of_ble_eq_true rfl, Nat.le_of_ble_eq_true rfl⟩) hS (fun u H locs hw hM hS => ?_)
              obtain ⟨I19, L20, rfl, hI, hkI19⟩ := hw
              have hM : Mem D A ad ns I19 L20 G H := hM
              have hK := hK.trans hkI19 rfl
              refine lv_goto (tgt := 0) hx hb dX4_popDownTo_95 (by decide) ?_
              have tr702 : (I19 (70) 2).toInt = (v8 : Int32).toInt := congrArg Int32.toInt (((hkI19.get (70) 2 rfl)).trans (show (u2 (u2 Ia0 (70) 2 (v8)) (70) 9 (v15)) (70) 2 = v8 from by simp [u2_v]))
              exact ih0  I19 L20 _ _ ls hI hK  (by omega) hM hS (lv_sub hl [0, 1] rfl)
            · have hc14 := c14
              have q14 := q_eq hc14
              refine lv_iconst (v := (1)) hx hb dX4_popDownTo_70 (by decide) ?_
              refine lv_goto (tgt := 75) hx hb dX4_popDownTo_71 (by decide) ?_
              refine lv_isub hx hb dX4_popDownTo_75 ?_
              refine lv_topi (fun v21 ev21 => ?_)
              refine m_puti (70) 9 hx hb hts hown hE oc4 hM hS (hG.1 70 (by decide)) rfl (by decide) rfl rfl rfl rfl tb_327 dX4_popDownTo_76 (fun H locs I22 eI22 hM hS => ?_)
              subst eI22
              have hI := hI.putF (n := 70) (k := 9) (v := v21) rfl
              have hK := hK.put (n := 70) (k := 9) (v := v21) (by first | rfl | simp [inR])
              refine lv_aload_n hx hb dX4_popDownTo_79 rfl (lv_at hl 0 rfl) ?_
              refine m_getr (70) 13 (w) hx hb hts hown hE oc4 hM (hG.1 70 (by decide)) rfl (by decide) rfl hd (by have := lbw hW.1; omega) tb_331 dX4_popDownTo_80 ?_
              refine lv_aload_n hx hb dX4_popDownTo_83 rfl (lv_at hl 0 rfl) ?_
              refine m_getr (70) 1 (72) hx hb hts hown hE oc4 hM (hG.1 70 (by decide)) rfl (by decide) rfl (hG.2 (70, 1, 72) (by decide)) (by decide) tb_319 dX4_popDownTo_84 ?_
              refine lv_aload_n hx hb dX4_popDownTo_87 rfl (lv_at hl 0 rfl) ?_
              refine m_geti (70) 2 hx hb hts hown hE oc4 hM (hG.1 70 (by decide)) rfl (by decide) rfl tb_320 dX4_popDownTo_88 ?_
              have z23 : (u2 (u2 Ia0 (70) 2 (v8)) (70) 9 (v21)) (70) 2 = v8 := (show (u2 (u2 Ia0 (70) 2 (v8)) (70) 9 (v21)) (70) 2 = v8 from by simp [u2_v])
              rw [z23]
              refine m_iald (72) hx hb hE hM (hG.1 72 (by decide)) rfl (vp_in_iff.mpr (by omega)) dX4_popDownTo_91 ?_
              have z24 : (u2 (u2 Ia0 (70) 2 (v8)) (70) 9 (v21)) (72) (v8).toNatClampNeg = Ia0 (72) ((v8).toNatClampNeg) := (show (u2 (u2 Ia0 (70) 2 (v8)) (70) 9 (v21)) (72) ((v8).toNatClampNeg) = Ia0 (72) ((v8).toNatClampNeg) from by simp [u2_v])
              rw [z24]
              refine m_callv (m_runV (w) (As := [.int (Ia0 (72) ((v8).toNatClampNeg))]) (rest := []) hx hb hml hown hts hE hM hS hA ce_X3_add tb_697 (V_X3_add l D A ad ns (u2 (u2 Ia0 (70) 2 (v8)) (70) 9 (v21)) La0 G (w) (Ia0 (72) ((v8).toNatClampNeg)) hG hI hW) rfl rfl ⟨Nat.le_of_ble_eq_true rfl, Nat.le_of_ble_eq_true rfl⟩ hW.l (kW _ hW.1).1 rfl (by decide) rfl hl.1 rfl (Nat.le_of_ble_eq_true rfl) dX4_popDownTo_92 ⟨Nat.le_of_ble_eq_true rfl, Nat.le_of_ble_eq_true rfl⟩) hS (fun u H locs hw hM hS => ?_)
              obtain ⟨I25, L26, rfl, hI, hkI25⟩ := hw
              have hM : Mem D A ad ns I25 L26 G H := hM
              have hK := hK.trans hkI25 rfl
              refine lv_goto (tgt := 0) hx hb dX4_popDownTo_95 (by decide) ?_
              have tr702 : (I25 (70) 2).toInt = (v8 : Int32).toInt := congrArg Int32.toInt (((hkI25.get (70) 2 rfl)).trans (show (u2 (u2 Ia0 (70) 2 (v8)) (70) 9 (v21)) (70) 2 = v8 from by simp [u2_v]))
              exact ih0  I25 L26 _ _ ls hI hK  (by omega) hM hS (lv_sub hl [0, 1] rfl)
  exact loop0 (_ + 1)  I L _ _ ls hI hK  (Nat.lt_succ_self _) hM hS (lv_sub hl [0, 1] rfl)
theorem dX4_takeSign_0 : decode cX4_takeSign 0 = .ok (.aload_n 0, 1) := by decide +kernel
theorem dX4_takeSign_1 : decode cX4_takeSign 1 = .ok (.aload_n 0, 1) := by decide +kernel
theorem dX4_takeSign_2 : decode cX4_takeSign 2 = .ok (.getfield 83, 3) := by decide +kernel
theorem dX4_takeSign_5 : decode cX4_takeSign 5 = .ok (.invokestatic 125, 3) := by decide +kernel
theorem dX4_takeSign_8 : decode cX4_takeSign 8 = .ok (.invokevirtual 116, 3) := by decide +kernel
theorem dX4_takeSign_11 : decode cX4_takeSign 11 = .ok (.aload_n 0, 1) := by decide +kernel
theorem dX4_takeSign_12 : decode cX4_takeSign 12 = .ok (.aload_n 0, 1) := by decide +kernel
theorem dX4_takeSign_13 : decode cX4_takeSign 13 = .ok (.getfield 83, 3) := by decide +kernel
theorem dX4_takeSign_16 : decode cX4_takeSign 16 = .ok (.invokevirtual 99, 3) := by decide +kernel
theorem dX4_takeSign_19 : decode cX4_takeSign 19 = .ok (.aload_n 0, 1) := by decide +kernel
theorem dX4_takeSign_20 : decode cX4_takeSign 20 = .ok (.iload_n 1, 1) := by decide +kernel
theorem dX4_takeSign_21 : decode cX4_takeSign 21 = .ok (.putfield 96, 3) := by decide +kernel
theorem dX4_takeSign_24 : decode cX4_takeSign 24 = .ok (.aload_n 0, 1) := by decide +kernel
theorem dX4_takeSign_25 : decode cX4_takeSign 25 = .ok (.iload_n 2, 1) := by decide +kernel
theorem dX4_takeSign_26 : decode cX4_takeSign 26 = .ok (.putfield 47, 3) := by decide +kernel
theorem dX4_takeSign_29 : decode cX4_takeSign 29 = .ok (.return_, 1) := by decide +kernel
theorem ce_X4_takeSign : CeV RX4 yX4_takeSign cX4_takeSign 3 none 2 := ⟨tb_711, tp_18, tb_9, tb_712, rfl, by decide, by decide, by decide +kernel⟩
set_option maxHeartbeats 4000000 in
set_option maxRecDepth 20000 in
theorem V_X4_takeSign (l : Launch) (D : va_G) (A : Nat → Prop) (ad : Nat → Nat) (ns : List Nat) (I : MI) (L : ML) (G : MG) (w : Nat) (a0 : Int32) (a1 : Int32) (hG : SGC ns G) (hI : INV I) (hW : LOK ns G w) (hd : G 70 13 = w) (ha1 : 0 ≤ a1.toInt ∧ a1.toInt ≤ 5) : Met l yX4_takeSign (wd yX4_takeSign cX4_takeSign 3 none) ({ frames := 2, cells := 0, slots := 0, locals := 42 }) (va_Pc [.ref (ad (70)), .int a0, .int a1] (PM D A ad ns I L G)) (va_Qv (fun u => ∃ I2 L2, u = (ad, ns, I2, L2, G) ∧ INV I2 ∧ Kp [(72, 73), (200, 300)] [(70, 2), (70, 7), (70, 8), (70, 9)] I I2) (BM D A) A) 0 0 A := by
  refine m_ofW (by decide) (Nat.le_of_ble_eq_true rfl) ?_
  intro p e s m below meth c ls args hC hE hM hA hS hl
  obtain ⟨hx, hb, hml, hown, hts, hr, hlocks, hin⟩ := hC
  have k0 : (0 : Int32).toInt = 0 := by decide
  have hK : Kp [(72, 73), (200, 300)] [(70, 2), (70, 7), (70, 8), (70, 9)] I I := Kp.rf
  have hl : lv_has ls 3 [(0, .ref (ad (70))), (1, .int (a0)), (2, .int (a1))] := hl
  refine lv_aload_n hx hb dX4_takeSign_0 rfl (lv_at hl 0 rfl) ?_
  refine lv_aload_n hx hb dX4_takeSign_1 rfl (lv_at hl 0 rfl) ?_
  refine m_geti (70) 5 hx hb hts hown hE oc4 hM (hG.1 70 (by decide)) rfl (by decide) rfl tb_323 dX4_takeSign_2 ?_
  refine m_calli (m_runS (As := [.int (I (70) 5)]) (rest := [.ref (ad (70))]) hx hb hml hown hts hE hM hS hA ce_X4_rankOf tb_713 (V_X4_rankOf l D A ad ns I L G (I (70) 5) hI) rfl rfl ⟨Nat.le_of_ble_eq_true rfl, Nat.le_of_ble_eq_true rfl⟩  rfl hl.1 rfl (Nat.le_of_ble_eq_true rfl) dX4_takeSign_5 ⟨Nat.le_of_ble_eq_true rfl, Nat.le_of_ble_eq_true rfl⟩) hS (fun r1 u H locs hw hM hS => ?_)
  obtain ⟨rfl, xr1⟩ := hw
  have hM : Mem D A ad ns I L G H := hM
  refine m_callv (m_runV (70) (As := [.int (r1)]) (rest := []) hx hb hml hown hts hE hM hS hA ce_X4_popDownTo tb_716 (V_X4_popDownTo l D A ad ns I L G (w) (r1) hG hI hW hd) rfl rfl ⟨Nat.le_of_ble_eq_true rfl, Nat.le_of_ble_eq_true rfl⟩ (hG.1 70 (by decide)) rfl rfl (by decide) rfl hl.1 rfl (Nat.le_of_ble_eq_true rfl) dX4_takeSign_8 ⟨Nat.le_of_ble_eq_true rfl, Nat.le_of_ble_eq_true rfl⟩) hS (fun u H locs hw hM hS => ?_)
  obtain ⟨I2, L3, rfl, hI, hkI2⟩ := hw
  have hM : Mem D A ad ns I2 L3 G H := hM
  have hK := hK.trans hkI2 rfl
  refine lv_aload_n hx hb dX4_takeSign_11 rfl (lv_at hl 0 rfl) ?_
  refine lv_aload_n hx hb dX4_takeSign_12 rfl (lv_at hl 0 rfl) ?_
  refine m_geti (70) 5 hx hb hts hown hE oc4 hM (hG.1 70 (by decide)) rfl (by decide) rfl tb_323 dX4_takeSign_13 ?_
  have z4 : I2 (70) 5 = I (70) 5 := (hkI2.get (70) 5 rfl)
  rw [z4]
  refine m_callv (m_runV (70) (As := [.int (I (70) 5)]) (rest := []) hx hb hml hown hts hE hM hS hA ce_X4_push tb_701 (V_X4_push l D A ad ns I2 L3 G (I (70) 5) hG hI) rfl rfl ⟨Nat.le_of_ble_eq_true rfl, Nat.le_of_ble_eq_true rfl⟩ (hG.1 70 (by decide)) rfl rfl (by decide) rfl hl.1 rfl (Nat.le_of_ble_eq_true rfl) dX4_takeSign_16 ⟨Nat.le_of_ble_eq_true rfl, Nat.le_of_ble_eq_true rfl⟩) hS (fun u H locs hw hM hS => ?_)
  obtain ⟨I5, L6, rfl, hI, hkI5⟩ := hw
  have hM : Mem D A ad ns I5 L6 G H := hM
  have hK := hK.trans hkI5 rfl
  refine lv_aload_n hx hb dX4_takeSign_19 rfl (lv_at hl 0 rfl) ?_
  refine lv_iload_n hx hb dX4_takeSign_20 rfl (lv_at hl 1 rfl) ?_
  refine m_puti (70) 8 hx hb hts hown hE oc4 hM hS (hG.1 70 (by decide)) rfl (by decide) rfl rfl rfl rfl tb_326 dX4_takeSign_21 (fun H locs I7 eI7 hM hS => ?_)
  subst eI7
  have hI := hI.putF (n := 70) (k := 8) (v := a0) rfl
  have hK := hK.put (n := 70) (k := 8) (v := a0) (by first | rfl | simp [inR])
  refine lv_aload_n hx hb dX4_takeSign_24 rfl (lv_at hl 0 rfl) ?_
  refine lv_iload_n hx hb dX4_takeSign_25 rfl (lv_at hl 2 rfl) ?_
  refine m_puti (70) 7 hx hb hts hown hE oc4 hM hS (hG.1 70 (by decide)) rfl (by decide) rfl rfl rfl rfl tb_325 dX4_takeSign_26 (fun H locs I8 eI8 hM hS => ?_)
  subst eI8
  have hI := hI.put (n := 70) (k := 7) (v := a1) (lo := 0) (hi := 5) rfl (by first | omega | decide)
  have hK := hK.put (n := 70) (k := 7) (v := a1) (by first | rfl | simp [inR])
  exact m_vret hx hb hr hlocks hM hS (Nat.le_of_ble_eq_true rfl) (Nat.le_of_ble_eq_true rfl) ⟨_, _, rfl, hI, hK⟩ dX4_takeSign_29
theorem dX4_closeBracket_0 : decode cX4_closeBracket 0 = .ok (.aload_n 0, 1) := by decide +kernel
theorem dX4_closeBracket_1 : decode cX4_closeBracket 1 = .ok (.bipush (-25), 2) := by decide +kernel
theorem dX4_closeBracket_3 : decode cX4_closeBracket 3 = .ok (.invokestatic 125, 3) := by decide +kernel
theorem dX4_closeBracket_6 : decode cX4_closeBracket 6 = .ok (.invokevirtual 116, 3) := by decide +kernel
theorem dX4_closeBracket_9 : decode cX4_closeBracket 9 = .ok (.aload_n 0, 1) := by decide +kernel
theorem dX4_closeBracket_10 : decode cX4_closeBracket 10 = .ok (.getfield 32, 3) := by decide +kernel
theorem dX4_closeBracket_13 : decode cX4_closeBracket 13 = .ok (.ifCond .le 13, 3) := by decide +kernel
theorem dX4_closeBracket_16 : decode cX4_closeBracket 16 = .ok (.aload_n 0, 1) := by decide +kernel
theorem dX4_closeBracket_17 : decode cX4_closeBracket 17 = .ok (.dup, 1) := by decide +kernel
theorem dX4_closeBracket_18 : decode cX4_closeBracket 18 = .ok (.getfield 32, 3) := by decide +kernel
theorem dX4_closeBracket_21 : decode cX4_closeBracket 21 = .ok (.iconst 1, 1) := by decide +kernel
theorem dX4_closeBracket_22 : decode cX4_closeBracket 22 = .ok (.isub, 1) := by decide +kernel
theorem dX4_closeBracket_23 : decode cX4_closeBracket 23 = .ok (.putfield 32, 3) := by decide +kernel
theorem dX4_closeBracket_26 : decode cX4_closeBracket 26 = .ok (.aload_n 0, 1) := by decide +kernel
theorem dX4_closeBracket_27 : decode cX4_closeBracket 27 = .ok (.dup, 1) := by decide +kernel
theorem dX4_closeBracket_28 : decode cX4_closeBracket 28 = .ok (.getfield 35, 3) := by decide +kernel
theorem dX4_closeBracket_31 : decode cX4_closeBracket 31 = .ok (.iconst 1, 1) := by decide +kernel
theorem dX4_closeBracket_32 : decode cX4_closeBracket 32 = .ok (.isub, 1) := by decide +kernel
theorem dX4_closeBracket_33 : decode cX4_closeBracket 33 = .ok (.putfield 35, 3) := by decide +kernel
theorem dX4_closeBracket_36 : decode cX4_closeBracket 36 = .ok (.aload_n 0, 1) := by decide +kernel
theorem dX4_closeBracket_37 : decode cX4_closeBracket 37 = .ok (.dup, 1) := by decide +kernel
theorem dX4_closeBracket_38 : decode cX4_closeBracket 38 = .ok (.getfield 38, 3) := by decide +kernel
theorem dX4_closeBracket_41 : decode cX4_closeBracket 41 = .ok (.iconst 1, 1) := by decide +kernel
theorem dX4_closeBracket_42 : decode cX4_closeBracket 42 = .ok (.isub, 1) := by decide +kernel
theorem dX4_closeBracket_43 : decode cX4_closeBracket 43 = .ok (.putfield 38, 3) := by decide +kernel
theorem dX4_closeBracket_46 : decode cX4_closeBracket 46 = .ok (.aload_n 0, 1) := by decide +kernel
theorem dX4_closeBracket_47 : decode cX4_closeBracket 47 = .ok (.iconst 3, 1) := by decide +kernel
theorem dX4_closeBracket_48 : decode cX4_closeBracket 48 = .ok (.putfield 96, 3) := by decide +kernel
theorem dX4_closeBracket_51 : decode cX4_closeBracket 51 = .ok (.return_, 1) := by decide +kernel
theorem ce_X4_closeBracket : CeV RX4 yX4_closeBracket cX4_closeBracket 1 none 0 := ⟨tb_722, tp_20, tb_9, tb_723, rfl, by decide, by decide, by decide +kernel⟩
set_option maxHeartbeats 4000000 in
set_option maxRecDepth 20000 in
theorem V_X4_closeBracket (l : Launch) (D : va_G) (A : Nat → Prop) (ad : Nat → Nat) (ns : List Nat) (I : MI) (L : ML) (G : MG) (w : Nat) (hG : SGC ns G) (hI : INV I) (hW : LOK ns G w) (hd : G 70 13 = w) : Met l yX4_closeBracket (wd yX4_closeBracket cX4_closeBracket 1 none) ({ frames := 2, cells := 0, slots := 0, locals := 42 }) (va_Pc [.ref (ad (70))] (PM D A ad ns I L G)) (va_Qv (fun u => ∃ I2 L2, u = (ad, ns, I2, L2, G) ∧ INV I2 ∧ Kp [(200, 300)] [(70, 2), (70, 8), (70, 9), (70, 10)] I I2) (BM D A) A) 0 0 A := by
  refine m_ofW (by decide) (Nat.le_of_ble_eq_true rfl) ?_
  intro p e s m below meth c ls args hC hE hM hA hS hl
  obtain ⟨hx, hb, hml, hown, hts, hr, hlocks, hin⟩ := hC
  have km25 : (-25 : Int32).toInt = -25 := by decide
  have k0 : (0 : Int32).toInt = 0 := by decide
  have k1 : (1 : Int32).toInt = 1 := by decide
  have k3 : (3 : Int32).toInt = 3 := by decide
  have hK : Kp [(200, 300)] [(70, 2), (70, 8), (70, 9), (70, 10)] I I := Kp.rf
  have hl : lv_has ls 1 [(0, .ref (ad (70)))] := hl
  refine lv_aload_n hx hb dX4_closeBracket_0 rfl (lv_at hl 0 rfl) ?_
  refine lv_bipush (v := (-25)) hx hb dX4_closeBracket_1 (by decide) ?_
  refine m_calli (m_runS (As := [.int ((-25 : Int32))]) (rest := [.ref (ad (70))]) hx hb hml hown hts hE hM hS hA ce_X4_rankOf tb_713 (V_X4_rankOf l D A ad ns I L G ((-25 : Int32)) hI) rfl rfl ⟨Nat.le_of_ble_eq_true rfl, Nat.le_of_ble_eq_true rfl⟩  rfl hl.1 rfl (Nat.le_of_ble_eq_true rfl) dX4_closeBracket_3 ⟨Nat.le_of_ble_eq_true rfl, Nat.le_of_ble_eq_true rfl⟩) hS (fun r1 u H locs hw hM hS => ?_)
  obtain ⟨rfl, xr1⟩ := hw
  have hM : Mem D A ad ns I L G H := hM
  refine m_callv (m_runV (70) (As := [.int (r1)]) (rest := []) hx hb hml hown hts hE hM hS hA ce_X4_popDownTo tb_716 (V_X4_popDownTo l D A ad ns I L G (w) (r1) hG hI hW hd) rfl rfl ⟨Nat.le_of_ble_eq_true rfl, Nat.le_of_ble_eq_true rfl⟩ (hG.1 70 (by decide)) rfl rfl (by decide) rfl hl.1 rfl (Nat.le_of_ble_eq_true rfl) dX4_closeBracket_6 ⟨Nat.le_of_ble_eq_true rfl, Nat.le_of_ble_eq_true rfl⟩) hS (fun u H locs hw hM hS => ?_)
  obtain ⟨I2, L3, rfl, hI, hkI2⟩ := hw
  have hM : Mem D A ad ns I2 L3 G H := hM
  have hK := hK.trans hkI2 rfl
  refine lv_aload_n hx hb dX4_closeBracket_9 rfl (lv_at hl 0 rfl) ?_
  refine m_geti (70) 2 hx hb hts hown hE oc4 hM (hG.1 70 (by decide)) rfl (by decide) rfl tb_320 dX4_closeBracket_10 ?_
  have g4 := hI.get (70) 2 (lo := 0) (hi := 64) rfl
  refine lv_if_le (tgt := 26) hx hb dX4_closeBracket_13 (by decide) (fun c5 => ?_) (fun c5 => ?_)
  · have hc5 := c5
    have q5 := q_le hc5
    refine lv_aload_n hx hb dX4_closeBracket_26 rfl (lv_at hl 0 rfl) ?_
    refine lv_dup hx hb dX4_closeBracket_27 rfl ?_
    refine m_geti (70) 9 hx hb hts hown hE oc4 hM (hG.1 70 (by decide)) rfl (by decide) rfl tb_327 dX4_closeBracket_28 ?_
    refine lv_iconst (v := (1)) hx hb dX4_closeBracket_31 (by decide) ?_
    refine lv_isub hx hb dX4_closeBracket_32 ?_
    refine lv_topi (fun v6 ev6 => ?_)
    refine m_puti (70) 9 hx hb hts hown hE oc4 hM hS (hG.1 70 (by decide)) rfl (by decide) rfl rfl rfl rfl tb_327 dX4_closeBracket_33 (fun H locs I7 eI7 hM hS => ?_)
    subst eI7
    have hI := hI.putF (n := 70) (k := 9) (v := v6) rfl
    have hK := hK.put (n := 70) (k := 9) (v := v6) (by first | rfl | simp [inR])
    refine lv_aload_n hx hb dX4_closeBracket_36 rfl (lv_at hl 0 rfl) ?_
    refine lv_dup hx hb dX4_closeBracket_37 rfl ?_
    refine m_geti (70) 10 hx hb hts hown hE oc4 hM (hG.1 70 (by decide)) rfl (by decide) rfl tb_328 dX4_closeBracket_38 ?_
    have z8 : (u2 I2 (70) 9 (v6)) (70) 10 = I (70) 10 := ((show (u2 I2 (70) 9 (v6)) (70) 10 = I2 (70) 10 from by simp [u2_v])).trans (hkI2.get (70) 10 rfl)
    rw [z8]
    refine lv_iconst (v := (1)) hx hb dX4_closeBracket_41 (by decide) ?_
    refine lv_isub hx hb dX4_closeBracket_42 ?_
    refine lv_topi (fun v9 ev9 => ?_)
    refine m_puti (70) 10 hx hb hts hown hE oc4 hM hS (hG.1 70 (by decide)) rfl (by decide) rfl rfl rfl rfl tb_328 dX4_closeBracket_43 (fun H locs I10 eI10 hM hS => ?_)
    subst eI10
    have hI := hI.putF (n := 70) (k := 10) (v := v9) rfl
    have hK := hK.put (n := 70) (k := 10) (v := v9) (by first | rfl | simp [inR])
    refine lv_aload_n hx hb dX4_closeBracket_46 rfl (lv_at hl 0 rfl) ?_
    refine lv_iconst (v := (3)) hx hb dX4_closeBracket_47 (by decide) ?_
    refine m_puti (70) 8 hx hb hts hown hE oc4 hM hS (hG.1 70 (by decide)) rfl (by decide) rfl rfl rfl rfl tb_326 dX4_closeBracket_48 (fun H locs I11 eI11 hM hS => ?_)
    subst eI11
    have hI := hI.putF (n := 70) (k := 8) (v := 3) rfl
    have hK := hK.put (n := 70) (k := 8) (v := 3) (by first | rfl | simp [inR])
    exact m_vret hx hb hr hlocks hM hS (Nat.le_of_ble_eq_true rfl) (Nat.le_of_ble_eq_true rfl) ⟨_, _, rfl, hI, hK⟩ dX4_closeBracket_51
  · have hc5 := c5
    have q5 := q_nle hc5
    refine lv_aload_n hx hb dX4_closeBracket_16 rfl (lv_at hl 0 rfl) ?_
    refine lv_dup hx hb dX4_closeBracket_17 rfl ?_
    refine m_geti (70) 2 hx hb hts hown hE oc4 hM (hG.1 70 (by decide)) rfl (by decide) rfl tb_320 dX4_closeBracket_18 ?_
    refine lv_iconst (v := (1)) hx hb dX4_closeBracket_21 (by decide) ?_
    refine lv_isub hx hb dX4_closeBracket_22 ?_
    refine lv_topi (fun v12 ev12 => ?_)
    have tv12 := a_sub ev12 (by omega) (by omega)
    refine m_puti (70) 2 hx hb hts hown hE oc4 hM hS (hG.1 70 (by decide)) rfl (by decide) rfl rfl rfl rfl tb_320 dX4_closeBracket_23 (fun H locs I13 eI13 hM hS => ?_)
    subst eI13
    have hI := hI.put (n := 70) (k := 2) (v := v12) (lo := 0) (hi := 64) rfl (by first | omega | decide)
    have hK := hK.put (n := 70) (k := 2) (v := v12) (by first | rfl | simp [inR])
    refine lv_aload_n hx hb dX4_closeBracket_26 rfl (lv_at hl 0 rfl) ?_
    refine lv_dup hx hb dX4_closeBracket_27 rfl ?_
    refine m_geti (70) 9 hx hb hts hown hE oc4 hM (hG.1 70 (by decide)) rfl (by decide) rfl tb_327 dX4_closeBracket_28 ?_
    have z14 : (u2 I2 (70) 2 (v12)) (70) 9 = I2 (70) 9 := (show (u2 I2 (70) 2 (v12)) (70) 9 = I2 (70) 9 from by simp [u2_v])
    rw [z14]
    refine lv_iconst (v := (1)) hx hb dX4_closeBracket_31 (by decide) ?_
    refine lv_isub hx hb dX4_closeBracket_32 ?_
    refine lv_topi (fun v15 ev15 => ?_)
    refine m_puti (70) 9 hx hb hts hown hE oc4 hM hS (hG.1 70 (by decide)) rfl (by decide) rfl rfl rfl rfl tb_327 dX4_closeBracket_33 (fun H locs I16 eI16 hM hS => ?_)
    subst eI16
    have hI := hI.putF (n := 70) (k := 9) (v := v15) rfl
    have hK := hK.put (n := 70) (k := 9) (v := v15) (by first | rfl | simp [inR])
    refine lv_aload_n hx hb dX4_closeBracket_36 rfl (lv_at hl 0 rfl) ?_
    refine lv_dup hx hb dX4_closeBracket_37 rfl ?_
    refine m_geti (70) 10 hx hb hts hown hE oc4 hM (hG.1 70 (by decide)) rfl (by decide) rfl tb_328 dX4_closeBracket_38 ?_
    have z17 : (u2 (u2 I2 (70) 2 (v12)) (70) 9 (v15)) (70) 10 = I (70) 10 := ((show (u2 (u2 I2 (70) 2 (v12)) (70) 9 (v15)) (70) 10 = I2 (70) 10 from by simp [u2_v])).trans (hkI2.get (70) 10 rfl)
    rw [z17]
    refine lv_iconst (v := (1)) hx hb dX4_closeBracket_41 (by decide) ?_
    refine lv_isub hx hb dX4_closeBracket_42 ?_
    refine lv_topi (fun v18 ev18 => ?_)
    refine m_puti (70) 10 hx hb hts hown hE oc4 hM hS (hG.1 70 (by decide)) rfl (by decide) rfl rfl rfl rfl tb_328 dX4_closeBracket_43 (fun H locs I19 eI19 hM hS => ?_)
    subst eI19
    have hI := hI.putF (n := 70) (k := 10) (v := v18) rfl
    have hK := hK.put (n := 70) (k := 10) (v := v18) (by first | rfl | simp [inR])
    refine lv_aload_n hx hb dX4_closeBracket_46 rfl (lv_at hl 0 rfl) ?_
    refine lv_iconst (v := (3)) hx hb dX4_closeBracket_47 (by decide) ?_
    refine m_puti (70) 8 hx hb hts hown hE oc4 hM hS (hG.1 70 (by decide)) rfl (by decide) rfl rfl rfl rfl tb_326 dX4_closeBracket_48 (fun H locs I20 eI20 hM hS => ?_)
    subst eI20
    have hI := hI.putF (n := 70) (k := 8) (v := 3) rfl
    have hK := hK.put (n := 70) (k := 8) (v := 3) (by first | rfl | simp [inR])
    exact m_vret hx hb hr hlocks hM hS (Nat.le_of_ble_eq_true rfl) (Nat.le_of_ble_eq_true rfl) ⟨_, _, rfl, hI, hK⟩ dX4_closeBracket_51
theorem dX4_takeClauseEnd_0 : decode cX4_takeClauseEnd 0 = .ok (.aload_n 0, 1) := by decide +kernel
theorem dX4_takeClauseEnd_1 : decode cX4_takeClauseEnd 1 = .ok (.bipush (-25), 2) := by decide +kernel
theorem dX4_takeClauseEnd_3 : decode cX4_takeClauseEnd 3 = .ok (.invokestatic 125, 3) := by decide +kernel
theorem dX4_takeClauseEnd_6 : decode cX4_takeClauseEnd 6 = .ok (.invokevirtual 116, 3) := by decide +kernel
theorem dX4_takeClauseEnd_9 : decode cX4_takeClauseEnd 9 = .ok (.aload_n 0, 1) := by decide +kernel
theorem dX4_takeClauseEnd_10 : decode cX4_takeClauseEnd 10 = .ok (.getfield 96, 3) := by decide +kernel
theorem dX4_takeClauseEnd_13 : decode cX4_takeClauseEnd 13 = .ok (.ifCond .ne 10, 3) := by decide +kernel
theorem dX4_takeClauseEnd_16 : decode cX4_takeClauseEnd 16 = .ok (.aload_n 0, 1) := by decide +kernel
theorem dX4_takeClauseEnd_17 : decode cX4_takeClauseEnd 17 = .ok (.getfield 50, 3) := by decide +kernel
theorem dX4_takeClauseEnd_20 : decode cX4_takeClauseEnd 20 = .ok (.invokevirtual 119, 3) := by decide +kernel
theorem dX4_takeClauseEnd_23 : decode cX4_takeClauseEnd 23 = .ok (.aload_n 0, 1) := by decide +kernel
theorem dX4_takeClauseEnd_24 : decode cX4_takeClauseEnd 24 = .ok (.getfield 50, 3) := by decide +kernel
theorem dX4_takeClauseEnd_27 : decode cX4_takeClauseEnd 27 = .ok (.invokevirtual 129, 3) := by decide +kernel
theorem dX4_takeClauseEnd_30 : decode cX4_takeClauseEnd 30 = .ok (.aload_n 0, 1) := by decide +kernel
theorem dX4_takeClauseEnd_31 : decode cX4_takeClauseEnd 31 = .ok (.aload_n 0, 1) := by decide +kernel
theorem dX4_takeClauseEnd_32 : decode cX4_takeClauseEnd 32 = .ok (.getfield 83, 3) := by decide +kernel
theorem dX4_takeClauseEnd_35 : decode cX4_takeClauseEnd 35 = .ok (.bipush (-44), 2) := by decide +kernel
theorem dX4_takeClauseEnd_37 : decode cX4_takeClauseEnd 37 = .ok (.if_icmp .ne 7, 3) := by decide +kernel
theorem dX4_takeClauseEnd_40 : decode cX4_takeClauseEnd 40 = .ok (.iconst 0, 1) := by decide +kernel
theorem dX4_takeClauseEnd_41 : decode cX4_takeClauseEnd 41 = .ok (.goto 4, 3) := by decide +kernel
theorem dX4_takeClauseEnd_44 : decode cX4_takeClauseEnd 44 = .ok (.iconst 5, 1) := by decide +kernel
theorem dX4_takeClauseEnd_45 : decode cX4_takeClauseEnd 45 = .ok (.putfield 47, 3) := by decide +kernel
theorem dX4_takeClauseEnd_48 : decode cX4_takeClauseEnd 48 = .ok (.return_, 1) := by decide +kernel
theorem ce_X4_takeClauseEnd : CeV RX4 yX4_takeClauseEnd cX4_takeClauseEnd 1 none 0 := ⟨tb_730, tp_21, tb_9, tb_731, rfl, by decide, by decide, by decide +kernel⟩
set_option maxHeartbeats 4000000 in
set_option maxRecDepth 20000 in
theorem V_X4_takeClauseEnd (l : Launch) (D : va_G) (A : Nat → Prop) (ad : Nat → Nat) (ns : List Nat) (I : MI) (L : ML) (G : MG) (w : Nat) (hG : SGC ns G) (hI : INV I) (hW : LOK ns G w) (hd : G 70 13 = w) : Met l yX4_takeClauseEnd (wd yX4_takeClauseEnd cX4_takeClauseEnd 1 none) ({ frames := 2, cells := 0, slots := 0, locals := 42 }) (va_Pc [.ref (ad (70))] (PM D A ad ns I L G)) (va_Qv (fun u => ∃ I2 L2, u = (ad, ns, I2, L2, G) ∧ INV I2 ∧ Kp [(200, 300)] [(70, 2), (70, 7), (70, 9)] I I2) (BM D A) A) 0 0 A := by
  refine m_ofW (by decide) (Nat.le_of_ble_eq_true rfl) ?_
  intro p e s m below meth c ls args hC hE hM hA hS hl
  obtain ⟨hx, hb, hml, hown, hts, hr, hlocks, hin⟩ := hC
  have km44 : (-44 : Int32).toInt = -44 := by decide
  have km25 : (-25 : Int32).toInt = -25 := by decide
  have k0 : (0 : Int32).toInt = 0 := by decide
  have k5 : (5 : Int32).toInt = 5 := by decide
  have hK : Kp [(200, 300)] [(70, 2), (70, 7), (70, 9)] I I := Kp.rf
  have hl : lv_has ls 1 [(0, .ref (ad (70)))] := hl
  refine lv_aload_n hx hb dX4_takeClauseEnd_0 rfl (lv_at hl 0 rfl) ?_
  refine lv_bipush (v := (-25)) hx hb dX4_takeClauseEnd_1 (by decide) ?_
  refine m_calli (m_runS (As := [.int ((-25 : Int32))]) (rest := [.ref (ad (70))]) hx hb hml hown hts hE hM hS hA ce_X4_rankOf tb_713 (V_X4_rankOf l D A ad ns I L G ((-25 : Int32)) hI) rfl rfl ⟨Nat.le_of_ble_eq_true rfl, Nat.le_of_ble_eq_true rfl⟩  rfl hl.1 rfl (Nat.le_of_ble_eq_true rfl) dX4_takeClauseEnd_3 ⟨Nat.le_of_ble_eq_true rfl, Nat.le_of_ble_eq_true rfl⟩) hS (fun r1 u H locs hw hM hS => ?_)
  obtain ⟨rfl, xr1⟩ := hw
  have hM : Mem D A ad ns I L G H := hM
  refine m_callv (m_runV (70) (As := [.int (r1)]) (rest := []) hx hb hml hown hts hE hM hS hA ce_X4_popDownTo tb_716 (V_X4_popDownTo l D A ad ns I L G (w) (r1) hG hI hW hd) rfl rfl ⟨Nat.le_of_ble_eq_true rfl, Nat.le_of_ble_eq_true rfl⟩ (hG.1 70 (by decide)) rfl rfl (by decide) rfl hl.1 rfl (Nat.le_of_ble_eq_true rfl) dX4_takeClauseEnd_6 ⟨Nat.le_of_ble_eq_true rfl, Nat.le_of_ble_eq_true rfl⟩) hS (fun u H locs hw hM hS => ?_)
  obtain ⟨I2, L3, rfl, hI, hkI2⟩ := hw
  have hM : Mem D A ad ns I2 L3 G H := hM
  have hK := hK.trans hkI2 rfl
  refine lv_aload_n hx hb dX4_takeClauseEnd_9 rfl (lv_at hl 0 rfl) ?_
  refine m_geti (70) 8 hx hb hts hown hE oc4 hM (hG.1 70 (by decide)) rfl (by decide) rfl tb_326 dX4_takeClauseEnd_10 ?_
  have z4 : I2 (70) 8 = I (70) 8 := (hkI2.get (70) 8 rfl)
  rw [z4]
  refine lv_if_ne (tgt := 23) hx hb dX4_takeClauseEnd_13 (by decide) (fun c5 => ?_) (fun c5 => ?_)
  · have hc5 := c5
    have q5 := q_ne hc5
    refine lv_aload_n hx hb dX4_takeClauseEnd_23 rfl (lv_at hl 0 rfl) ?_
    refine m_getr (70) 13 (w) hx hb hts hown hE oc4 hM (hG.1 70 (by decide)) rfl (by decide) rfl hd (by have := lbw hW.1; omega) tb_331 dX4_takeClauseEnd_24 ?_
    refine m_callv (m_runV (w) (As := []) (rest := []) hx hb hml hown hts hE hM hS hA ce_X3_endClause tb_732 (V_X3_endClause l D A ad ns I2 L3 G (w) hG hI hW) rfl rfl ⟨Nat.le_of_ble_eq_true rfl, Nat.le_of_ble_eq_true rfl⟩ hW.l (kW _ hW.1).1 rfl (by decide) rfl hl.1 rfl (Nat.le_of_ble_eq_true rfl) dX4_takeClauseEnd_27 ⟨Nat.le_of_ble_eq_true rfl, Nat.le_of_ble_eq_true rfl⟩) hS (fun u H locs hw hM hS => ?_)
    obtain ⟨I6, L7, rfl, hI, hkI6⟩ := hw
    have hM : Mem D A ad ns I6 L7 G H := hM
    have hK := hK.trans hkI6 rfl
    refine lv_aload_n hx hb dX4_takeClauseEnd_30 rfl (lv_at hl 0 rfl) ?_
    refine lv_aload_n hx hb dX4_takeClauseEnd_31 rfl (lv_at hl 0 rfl) ?_
    refine m_geti (70) 5 hx hb hts hown hE oc4 hM (hG.1 70 (by decide)) rfl (by decide) rfl tb_323 dX4_takeClauseEnd_32 ?_
    have z8 : I6 (70) 5 = I (70) 5 := ((hkI6.get (70) 5 rfl)).trans (hkI2.get (70) 5 rfl)
    rw [z8]
    refine lv_bipush (v := (-44)) hx hb dX4_takeClauseEnd_35 (by decide) ?_
    refine lv_icmp_ne (tgt := 44) hx hb dX4_takeClauseEnd_37 (by decide) (fun c9 => ?_) (fun c9 => ?_)
    · have hc9 := c9
      have q9 := q_ne hc9
      refine lv_iconst (v := (5)) hx hb dX4_takeClauseEnd_44 (by decide) ?_
      refine m_puti (70) 7 hx hb hts hown hE oc4 hM hS (hG.1 70 (by decide)) rfl (by decide) rfl rfl rfl rfl tb_325 dX4_takeClauseEnd_45 (fun H locs I10 eI10 hM hS => ?_)
      subst eI10
      have hI := hI.put (n := 70) (k := 7) (v := 5) (lo := 0) (hi := 5) rfl (by first | omega | decide)
      have hK := hK.put (n := 70) (k := 7) (v := 5) (by first | rfl | simp [inR])
      exact m_vret hx hb hr hlocks hM hS (Nat.le_of_ble_eq_true rfl) (Nat.le_of_ble_eq_true rfl) ⟨_, _, rfl, hI, hK⟩ dX4_takeClauseEnd_48
    · have hc9 := c9
      have q9 := q_eq hc9
      refine lv_iconst (v := (0)) hx hb dX4_takeClauseEnd_40 (by decide) ?_
      refine lv_goto (tgt := 45) hx hb dX4_takeClauseEnd_41 (by decide) ?_
      refine m_puti (70) 7 hx hb hts hown hE oc4 hM hS (hG.1 70 (by decide)) rfl (by decide) rfl rfl rfl rfl tb_325 dX4_takeClauseEnd_45 (fun H locs I11 eI11 hM hS => ?_)
      subst eI11
      have hI := hI.put (n := 70) (k := 7) (v := 0) (lo := 0) (hi := 5) rfl (by first | omega | decide)
      have hK := hK.put (n := 70) (k := 7) (v := 0) (by first | rfl | simp [inR])
      exact m_vret hx hb hr hlocks hM hS (Nat.le_of_ble_eq_true rfl) (Nat.le_of_ble_eq_true rfl) ⟨_, _, rfl, hI, hK⟩ dX4_takeClauseEnd_48
  · have hc5 := c5
    have q5 := q_eq hc5
    refine lv_aload_n hx hb dX4_takeClauseEnd_16 rfl (lv_at hl 0 rfl) ?_
    refine m_getr (70) 13 (w) hx hb hts hown hE oc4 hM (hG.1 70 (by decide)) rfl (by decide) rfl hd (by have := lbw hW.1; omega) tb_331 dX4_takeClauseEnd_17 ?_
    refine m_callv (m_runV (w) (As := []) (rest := []) hx hb hml hown hts hE hM hS hA ce_X3_beginTest tb_724 (V_X3_beginTest l D A ad ns I2 L3 G (w) hG hI hW) rfl rfl ⟨Nat.le_of_ble_eq_true rfl, Nat.le_of_ble_eq_true rfl⟩ hW.l (kW _ hW.1).1 rfl (by decide) rfl hl.1 rfl (Nat.le_of_ble_eq_true rfl) dX4_takeClauseEnd_20 ⟨Nat.le_of_ble_eq_true rfl, Nat.le_of_ble_eq_true rfl⟩) hS (fun u H locs hw hM hS => ?_)
    obtain ⟨I12, L13, rfl, hI, hkI12⟩ := hw
    have hM : Mem D A ad ns I12 L13 G H := hM
    have hK := hK.trans hkI12 rfl
    refine lv_aload_n hx hb dX4_takeClauseEnd_23 rfl (lv_at hl 0 rfl) ?_
    refine m_getr (70) 13 (w) hx hb hts hown hE oc4 hM (hG.1 70 (by decide)) rfl (by decide) rfl hd (by have := lbw hW.1; omega) tb_331 dX4_takeClauseEnd_24 ?_
    refine m_callv (m_runV (w) (As := []) (rest := []) hx hb hml hown hts hE hM hS hA ce_X3_endClause tb_732 (V_X3_endClause l D A ad ns I12 L13 G (w) hG hI hW) rfl rfl ⟨Nat.le_of_ble_eq_true rfl, Nat.le_of_ble_eq_true rfl⟩ hW.l (kW _ hW.1).1 rfl (by decide) rfl hl.1 rfl (Nat.le_of_ble_eq_true rfl) dX4_takeClauseEnd_27 ⟨Nat.le_of_ble_eq_true rfl, Nat.le_of_ble_eq_true rfl⟩) hS (fun u H locs hw hM hS => ?_)
    obtain ⟨I14, L15, rfl, hI, hkI14⟩ := hw
    have hM : Mem D A ad ns I14 L15 G H := hM
    have hK := hK.trans hkI14 rfl
    refine lv_aload_n hx hb dX4_takeClauseEnd_30 rfl (lv_at hl 0 rfl) ?_
    refine lv_aload_n hx hb dX4_takeClauseEnd_31 rfl (lv_at hl 0 rfl) ?_
    refine m_geti (70) 5 hx hb hts hown hE oc4 hM (hG.1 70 (by decide)) rfl (by decide) rfl tb_323 dX4_takeClauseEnd_32 ?_
    have z16 : I14 (70) 5 = I (70) 5 := (((hkI14.get (70) 5 rfl)).trans (hkI12.get (70) 5 rfl)).trans (hkI2.get (70) 5 rfl)
    rw [z16]
    refine lv_bipush (v := (-44)) hx hb dX4_takeClauseEnd_35 (by decide) ?_
    refine lv_icmp_ne (tgt := 44) hx hb dX4_takeClauseEnd_37 (by decide) (fun c17 => ?_) (fun c17 => ?_)
    · have hc17 := c17
      have q17 := q_ne hc17
      refine lv_iconst (v := (5)) hx hb dX4_takeClauseEnd_44 (by decide) ?_
      refine m_puti (70) 7 hx hb hts hown hE oc4 hM hS (hG.1 70 (by decide)) rfl (by decide) rfl rfl rfl rfl tb_325 dX4_takeClauseEnd_45 (fun H locs I18 eI18 hM hS => ?_)
      subst eI18
      have hI := hI.put (n := 70) (k := 7) (v := 5) (lo := 0) (hi := 5) rfl (by first | omega | decide)
      have hK := hK.put (n := 70) (k := 7) (v := 5) (by first | rfl | simp [inR])
      exact m_vret hx hb hr hlocks hM hS (Nat.le_of_ble_eq_true rfl) (Nat.le_of_ble_eq_true rfl) ⟨_, _, rfl, hI, hK⟩ dX4_takeClauseEnd_48
    · have hc17 := c17
      have q17 := q_eq hc17
      refine lv_iconst (v := (0)) hx hb dX4_takeClauseEnd_40 (by decide) ?_
      refine lv_goto (tgt := 45) hx hb dX4_takeClauseEnd_41 (by decide) ?_
      refine m_puti (70) 7 hx hb hts hown hE oc4 hM hS (hG.1 70 (by decide)) rfl (by decide) rfl rfl rfl rfl tb_325 dX4_takeClauseEnd_45 (fun H locs I19 eI19 hM hS => ?_)
      subst eI19
      have hI := hI.put (n := 70) (k := 7) (v := 0) (lo := 0) (hi := 5) rfl (by first | omega | decide)
      have hK := hK.put (n := 70) (k := 7) (v := 0) (by first | rfl | simp [inR])
      exact m_vret hx hb hr hlocks hM hS (Nat.le_of_ble_eq_true rfl) (Nat.le_of_ble_eq_true rfl) ⟨_, _, rfl, hI, hK⟩ dX4_takeClauseEnd_48
theorem dX4_takeTurn_0 : decode cX4_takeTurn 0 = .ok (.aload_n 0, 1) := by decide +kernel
theorem dX4_takeTurn_1 : decode cX4_takeTurn 1 = .ok (.getfield 83, 3) := by decide +kernel
theorem dX4_takeTurn_4 : decode cX4_takeTurn 4 = .ok (.bipush (-40), 2) := by decide +kernel
theorem dX4_takeTurn_6 : decode cX4_takeTurn 6 = .ok (.if_icmp .eq 11, 3) := by decide +kernel
theorem dX4_takeTurn_9 : decode cX4_takeTurn 9 = .ok (.aload_n 0, 1) := by decide +kernel
theorem dX4_takeTurn_10 : decode cX4_takeTurn 10 = .ok (.iconst 0, 1) := by decide +kernel
theorem dX4_takeTurn_11 : decode cX4_takeTurn 11 = .ok (.invokevirtual 86, 3) := by decide +kernel
theorem dX4_takeTurn_14 : decode cX4_takeTurn 14 = .ok (.goto 28, 3) := by decide +kernel
theorem dX4_takeTurn_17 : decode cX4_takeTurn 17 = .ok (.aload_n 0, 1) := by decide +kernel
theorem dX4_takeTurn_18 : decode cX4_takeTurn 18 = .ok (.getfield 50, 3) := by decide +kernel
theorem dX4_takeTurn_21 : decode cX4_takeTurn 21 = .ok (.getfield 90, 3) := by decide +kernel
theorem dX4_takeTurn_24 : decode cX4_takeTurn 24 = .ok (.bipush 12, 2) := by decide +kernel
theorem dX4_takeTurn_26 : decode cX4_takeTurn 26 = .ok (.if_icmp .lt 11, 3) := by decide +kernel
theorem dX4_takeTurn_29 : decode cX4_takeTurn 29 = .ok (.aload_n 0, 1) := by decide +kernel
theorem dX4_takeTurn_30 : decode cX4_takeTurn 30 = .ok (.iconst 4, 1) := by decide +kernel
theorem dX4_takeTurn_31 : decode cX4_takeTurn 31 = .ok (.invokevirtual 86, 3) := by decide +kernel
theorem dX4_takeTurn_34 : decode cX4_takeTurn 34 = .ok (.goto 8, 3) := by decide +kernel
theorem dX4_takeTurn_37 : decode cX4_takeTurn 37 = .ok (.aload_n 0, 1) := by decide +kernel
theorem dX4_takeTurn_38 : decode cX4_takeTurn 38 = .ok (.iconst 1, 1) := by decide +kernel
theorem dX4_takeTurn_39 : decode cX4_takeTurn 39 = .ok (.putfield 47, 3) := by decide +kernel
theorem dX4_takeTurn_42 : decode cX4_takeTurn 42 = .ok (.return_, 1) := by decide +kernel
theorem ce_X4_takeTurn : CeV RX4 yX4_takeTurn cX4_takeTurn 1 none 0 := ⟨tb_671, tp_10, tb_9, tb_672, rfl, by decide, by decide, by decide +kernel⟩
set_option maxHeartbeats 4000000 in
set_option maxRecDepth 20000 in
theorem V_X4_takeTurn (l : Launch) (D : va_G) (A : Nat → Prop) (ad : Nat → Nat) (ns : List Nat) (I : MI) (L : ML) (G : MG) (w : Nat) (hG : SGC ns G) (hI : INV I) (hW : LOK ns G w) (hd : G 70 13 = w) : Met l yX4_takeTurn (wd yX4_takeTurn cX4_takeTurn 1 none) ({ frames := 1, cells := 0, slots := 0, locals := 21 }) (va_Pc [.ref (ad (70))] (PM D A ad ns I L G)) (va_Qv (fun u => ∃ I2 L2, u = (ad, ns, I2, L2, G) ∧ INV I2 ∧ Kp [] [(70, 7), (70, 12)] I I2) (BM D A) A) 0 0 A := by
  refine m_ofW (by decide) (Nat.le_of_ble_eq_true rfl) ?_
  intro p e s m below meth c ls args hC hE hM hA hS hl
  obtain ⟨hx, hb, hml, hown, hts, hr, hlocks, hin⟩ := hC
  have km40 : (-40 : Int32).toInt = -40 := by decide
  have k0 : (0 : Int32).toInt = 0 := by decide
  have k1 : (1 : Int32).toInt = 1 := by decide
  have k4 : (4 : Int32).toInt = 4 := by decide
  have k12 : (12 : Int32).toInt = 12 := by decide
  have hK : Kp [] [(70, 7), (70, 12)] I I := Kp.rf
  have hl : lv_has ls 1 [(0, .ref (ad (70)))] := hl
  refine lv_aload_n hx hb dX4_takeTurn_0 rfl (lv_at hl 0 rfl) ?_
  refine m_geti (70) 5 hx hb hts hown hE oc4 hM (hG.1 70 (by decide)) rfl (by decide) rfl tb_323 dX4_takeTurn_1 ?_
  refine lv_bipush (v := (-40)) hx hb dX4_takeTurn_4 (by decide) ?_
  refine lv_icmp_eq (tgt := 17) hx hb dX4_takeTurn_6 (by decide) (fun c1 => ?_) (fun c1 => ?_)
  · have hc1 := c1
    have q1 := q_eq hc1
    refine lv_aload_n hx hb dX4_takeTurn_17 rfl (lv_at hl 0 rfl) ?_
    refine m_getr (70) 13 (w) hx hb hts hown hE oc4 hM (hG.1 70 (by decide)) rfl (by decide) rfl hd (by have := lbw hW.1; omega) tb_331 dX4_takeTurn_18 ?_
    refine m_geti (w) 5 hx hb hts hown hE oc3 hM hW.l (kW _ hW.1).1 (by decide) rfl tb_381 dX4_takeTurn_21 ?_
    have g2 := hI.get (w) 5 (lo := 0) (hi := 12) (rgw0 hW.1).1
    refine lv_bipush (v := (12)) hx hb dX4_takeTurn_24 (by decide) ?_
    refine lv_icmp_lt (tgt := 37) hx hb dX4_takeTurn_26 (by decide) (fun c3 => ?_) (fun c3 => ?_)
    · have hc3 := c3
      have q3 := q_lt hc3
      refine lv_aload_n hx hb dX4_takeTurn_37 rfl (lv_at hl 0 rfl) ?_
      refine lv_iconst (v := (1)) hx hb dX4_takeTurn_38 (by decide) ?_
      refine m_puti (70) 7 hx hb hts hown hE oc4 hM hS (hG.1 70 (by decide)) rfl (by decide) rfl rfl rfl rfl tb_325 dX4_takeTurn_39 (fun H locs I4 eI4 hM hS => ?_)
      subst eI4
      have hI := hI.put (n := 70) (k := 7) (v := 1) (lo := 0) (hi := 5) rfl (by first | omega | decide)
      have hK := hK.put (n := 70) (k := 7) (v := 1) (by first | rfl | simp [inR])
      exact m_vret hx hb hr hlocks hM hS (Nat.le_of_ble_eq_true rfl) (Nat.le_of_ble_eq_true rfl) ⟨_, _, rfl, hI, hK⟩ dX4_takeTurn_42
    · have hc3 := c3
      have q3 := q_nlt hc3
      refine lv_aload_n hx hb dX4_takeTurn_29 rfl (lv_at hl 0 rfl) ?_
      refine lv_iconst (v := (4)) hx hb dX4_takeTurn_30 (by decide) ?_
      refine m_callv (m_runV (70) (As := [.int (4)]) (rest := []) hx hb hml hown hts hE hM hS hA ce_X4_fail tb_673 (V_X4_fail l D A ad ns I L G (4) hG hI) rfl rfl ⟨Nat.le_of_ble_eq_true rfl, Nat.le_of_ble_eq_true rfl⟩ (hG.1 70 (by decide)) rfl rfl (by decide) rfl hl.1 rfl (Nat.le_of_ble_eq_true rfl) dX4_takeTurn_31 ⟨Nat.le_of_ble_eq_true rfl, Nat.le_of_ble_eq_true rfl⟩) hS (fun u H locs hw hM hS => ?_)
      obtain ⟨I5, L6, rfl, hI, hkI5⟩ := hw
      have hM : Mem D A ad ns I5 L6 G H := hM
      have hK := hK.trans hkI5 rfl
      refine lv_goto (tgt := 42) hx hb dX4_takeTurn_34 (by decide) ?_
      exact m_vret hx hb hr hlocks hM hS (Nat.le_of_ble_eq_true rfl) (Nat.le_of_ble_eq_true rfl) ⟨_, _, rfl, hI, hK⟩ dX4_takeTurn_42
  · have hc1 := c1
    have q1 := q_ne hc1
    refine lv_aload_n hx hb dX4_takeTurn_9 rfl (lv_at hl 0 rfl) ?_
    refine lv_iconst (v := (0)) hx hb dX4_takeTurn_10 (by decide) ?_
    refine m_callv (m_runV (70) (As := [.int (0)]) (rest := []) hx hb hml hown hts hE hM hS hA ce_X4_fail tb_673 (V_X4_fail l D A ad ns I L G (0) hG hI) rfl rfl ⟨Nat.le_of_ble_eq_true rfl, Nat.le_of_ble_eq_true rfl⟩ (hG.1 70 (by decide)) rfl rfl (by decide) rfl hl.1 rfl (Nat.le_of_ble_eq_true rfl) dX4_takeTurn_11 ⟨Nat.le_of_ble_eq_true rfl, Nat.le_of_ble_eq_true rfl⟩) hS (fun u H locs hw hM hS => ?_)
    obtain ⟨I7, L8, rfl, hI, hkI7⟩ := hw
    have hM : Mem D A ad ns I7 L8 G H := hM
    have hK := hK.trans hkI7 rfl
    refine lv_goto (tgt := 42) hx hb dX4_takeTurn_14 (by decide) ?_
    exact m_vret hx hb hr hlocks hM hS (Nat.le_of_ble_eq_true rfl) (Nat.le_of_ble_eq_true rfl) ⟨_, _, rfl, hI, hK⟩ dX4_takeTurn_42
theorem dX4_takeMirror_0 : decode cX4_takeMirror 0 = .ok (.aload_n 0, 1) := by decide +kernel
theorem dX4_takeMirror_1 : decode cX4_takeMirror 1 = .ok (.getfield 83, 3) := by decide +kernel
theorem dX4_takeMirror_4 : decode cX4_takeMirror 4 = .ok (.ifCond .ge 20, 3) := by decide +kernel
theorem dX4_takeMirror_7 : decode cX4_takeMirror 7 = .ok (.aload_n 0, 1) := by decide +kernel
theorem dX4_takeMirror_8 : decode cX4_takeMirror 8 = .ok (.getfield 83, 3) := by decide +kernel
theorem dX4_takeMirror_11 : decode cX4_takeMirror 11 = .ok (.bipush (-46), 2) := by decide +kernel
theorem dX4_takeMirror_13 : decode cX4_takeMirror 13 = .ok (.if_icmp .eq 11, 3) := by decide +kernel
theorem dX4_takeMirror_16 : decode cX4_takeMirror 16 = .ok (.aload_n 0, 1) := by decide +kernel
theorem dX4_takeMirror_17 : decode cX4_takeMirror 17 = .ok (.iconst 0, 1) := by decide +kernel
theorem dX4_takeMirror_18 : decode cX4_takeMirror 18 = .ok (.invokevirtual 86, 3) := by decide +kernel
theorem dX4_takeMirror_21 : decode cX4_takeMirror 21 = .ok (.goto 48, 3) := by decide +kernel
theorem dX4_takeMirror_24 : decode cX4_takeMirror 24 = .ok (.aload_n 0, 1) := by decide +kernel
theorem dX4_takeMirror_25 : decode cX4_takeMirror 25 = .ok (.getfield 83, 3) := by decide +kernel
theorem dX4_takeMirror_28 : decode cX4_takeMirror 28 = .ok (.ifCond .lt 12, 3) := by decide +kernel
theorem dX4_takeMirror_31 : decode cX4_takeMirror 31 = .ok (.aload_n 0, 1) := by decide +kernel
theorem dX4_takeMirror_32 : decode cX4_takeMirror 32 = .ok (.getfield 83, 3) := by decide +kernel
theorem dX4_takeMirror_35 : decode cX4_takeMirror 35 = .ok (.bipush 24, 2) := by decide +kernel
theorem dX4_takeMirror_37 : decode cX4_takeMirror 37 = .ok (.if_icmp .lt 11, 3) := by decide +kernel
theorem dX4_takeMirror_40 : decode cX4_takeMirror 40 = .ok (.aload_n 0, 1) := by decide +kernel
theorem dX4_takeMirror_41 : decode cX4_takeMirror 41 = .ok (.iconst 1, 1) := by decide +kernel
theorem dX4_takeMirror_42 : decode cX4_takeMirror 42 = .ok (.invokevirtual 86, 3) := by decide +kernel
theorem dX4_takeMirror_45 : decode cX4_takeMirror 45 = .ok (.goto 24, 3) := by decide +kernel
theorem dX4_takeMirror_48 : decode cX4_takeMirror 48 = .ok (.aload_n 0, 1) := by decide +kernel
theorem dX4_takeMirror_49 : decode cX4_takeMirror 49 = .ok (.getfield 50, 3) := by decide +kernel
theorem dX4_takeMirror_52 : decode cX4_takeMirror 52 = .ok (.aload_n 0, 1) := by decide +kernel
theorem dX4_takeMirror_53 : decode cX4_takeMirror 53 = .ok (.getfield 83, 3) := by decide +kernel
theorem dX4_takeMirror_56 : decode cX4_takeMirror 56 = .ok (.invokevirtual 93, 3) := by decide +kernel
theorem dX4_takeMirror_59 : decode cX4_takeMirror 59 = .ok (.aload_n 0, 1) := by decide +kernel
theorem dX4_takeMirror_60 : decode cX4_takeMirror 60 = .ok (.iconst 0, 1) := by decide +kernel
theorem dX4_takeMirror_61 : decode cX4_takeMirror 61 = .ok (.putfield 96, 3) := by decide +kernel
theorem dX4_takeMirror_64 : decode cX4_takeMirror 64 = .ok (.aload_n 0, 1) := by decide +kernel
theorem dX4_takeMirror_65 : decode cX4_takeMirror 65 = .ok (.iconst 3, 1) := by decide +kernel
theorem dX4_takeMirror_66 : decode cX4_takeMirror 66 = .ok (.putfield 47, 3) := by decide +kernel
theorem dX4_takeMirror_69 : decode cX4_takeMirror 69 = .ok (.return_, 1) := by decide +kernel
theorem ce_X4_takeMirror : CeV RX4 yX4_takeMirror cX4_takeMirror 1 none 0 := ⟨tb_679, tp_12, tb_9, tb_680, rfl, by decide, by decide, by decide +kernel⟩
set_option maxHeartbeats 4000000 in
set_option maxRecDepth 20000 in
theorem V_X4_takeMirror (l : Launch) (D : va_G) (A : Nat → Prop) (ad : Nat → Nat) (ns : List Nat) (I : MI) (L : ML) (G : MG) (w : Nat) (hG : SGC ns G) (hI : INV I) (hW : LOK ns G w) (hd : G 70 13 = w) : Met l yX4_takeMirror (wd yX4_takeMirror cX4_takeMirror 1 none) ({ frames := 1, cells := 0, slots := 0, locals := 21 }) (va_Pc [.ref (ad (70))] (PM D A ad ns I L G)) (va_Qv (fun u => ∃ I2 L2, u = (ad, ns, I2, L2, G) ∧ INV I2 ∧ Kp [(200, 300)] [(70, 7), (70, 8), (70, 12)] I I2) (BM D A) A) 0 0 A := by
  refine m_ofW (by decide) (Nat.le_of_ble_eq_true rfl) ?_
  intro p e s m below meth c ls args hC hE hM hA hS hl
  obtain ⟨hx, hb, hml, hown, hts, hr, hlocks, hin⟩ := hC
  have km46 : (-46 : Int32).toInt = -46 := by decide
  have k0 : (0 : Int32).toInt = 0 := by decide
  have k1 : (1 : Int32).toInt = 1 := by decide
  have k3 : (3 : Int32).toInt = 3 := by decide
  have k24 : (24 : Int32).toInt = 24 := by decide
  have hK : Kp [(200, 300)] [(70, 7), (70, 8), (70, 12)] I I := Kp.rf
  have hl : lv_has ls 1 [(0, .ref (ad (70)))] := hl
  refine lv_aload_n hx hb dX4_takeMirror_0 rfl (lv_at hl 0 rfl) ?_
  refine m_geti (70) 5 hx hb hts hown hE oc4 hM (hG.1 70 (by decide)) rfl (by decide) rfl tb_323 dX4_takeMirror_1 ?_
  refine lv_if_ge (tgt := 24) hx hb dX4_takeMirror_4 (by decide) (fun c1 => ?_) (fun c1 => ?_)
  · have hc1 := c1
    have q1 := q_le hc1
    refine lv_aload_n hx hb dX4_takeMirror_24 rfl (lv_at hl 0 rfl) ?_
    refine m_geti (70) 5 hx hb hts hown hE oc4 hM (hG.1 70 (by decide)) rfl (by decide) rfl tb_323 dX4_takeMirror_25 ?_
    refine lv_if_lt (tgt := 40) hx hb dX4_takeMirror_28 (by decide) (fun c2 => ?_) (fun c2 => ?_)
    · have hc2 := c2
      have q2 := q_lt hc2
      refine lv_aload_n hx hb dX4_takeMirror_40 rfl (lv_at hl 0 rfl) ?_
      refine lv_iconst (v := (1)) hx hb dX4_takeMirror_41 (by decide) ?_
      refine m_callv (m_runV (70) (As := [.int (1)]) (rest := []) hx hb hml hown hts hE hM hS hA ce_X4_fail tb_673 (V_X4_fail l D A ad ns I L G (1) hG hI) rfl rfl ⟨Nat.le_of_ble_eq_true rfl, Nat.le_of_ble_eq_true rfl⟩ (hG.1 70 (by decide)) rfl rfl (by decide) rfl hl.1 rfl (Nat.le_of_ble_eq_true rfl) dX4_takeMirror_42 ⟨Nat.le_of_ble_eq_true rfl, Nat.le_of_ble_eq_true rfl⟩) hS (fun u H locs hw hM hS => ?_)
      obtain ⟨I3, L4, rfl, hI, hkI3⟩ := hw
      have hM : Mem D A ad ns I3 L4 G H := hM
      have hK := hK.trans hkI3 rfl
      refine lv_goto (tgt := 69) hx hb dX4_takeMirror_45 (by decide) ?_
      exact m_vret hx hb hr hlocks hM hS (Nat.le_of_ble_eq_true rfl) (Nat.le_of_ble_eq_true rfl) ⟨_, _, rfl, hI, hK⟩ dX4_takeMirror_69
    · have hc2 := c2
      have q2 := q_nlt hc2
      refine lv_aload_n hx hb dX4_takeMirror_31 rfl (lv_at hl 0 rfl) ?_
      refine m_geti (70) 5 hx hb hts hown hE oc4 hM (hG.1 70 (by decide)) rfl (by decide) rfl tb_323 dX4_takeMirror_32 ?_
      refine lv_bipush (v := (24)) hx hb dX4_takeMirror_35 (by decide) ?_
      refine lv_icmp_lt (tgt := 48) hx hb dX4_takeMirror_37 (by decide) (fun c5 => ?_) (fun c5 => ?_)
      · have hc5 := c5
        have q5 := q_lt hc5
        refine lv_aload_n hx hb dX4_takeMirror_48 rfl (lv_at hl 0 rfl) ?_
        refine m_getr (70) 13 (w) hx hb hts hown hE oc4 hM (hG.1 70 (by decide)) rfl (by decide) rfl hd (by have := lbw hW.1; omega) tb_331 dX4_takeMirror_49 ?_
        refine lv_aload_n hx hb dX4_takeMirror_52 rfl (lv_at hl 0 rfl) ?_
        refine m_geti (70) 5 hx hb hts hown hE oc4 hM (hG.1 70 (by decide)) rfl (by decide) rfl tb_323 dX4_takeMirror_53 ?_
        refine m_callv (m_runV (w) (As := [.int (I (70) 5)]) (rest := []) hx hb hml hown hts hE hM hS hA ce_X3_beginClause tb_681 (V_X3_beginClause l D A ad ns I L G (w) (I (70) 5) hG hI hW) rfl rfl ⟨Nat.le_of_ble_eq_true rfl, Nat.le_of_ble_eq_true rfl⟩ hW.l (kW _ hW.1).1 rfl (by decide) rfl hl.1 rfl (Nat.le_of_ble_eq_true rfl) dX4_takeMirror_56 ⟨Nat.le_of_ble_eq_true rfl, Nat.le_of_ble_eq_true rfl⟩) hS (fun u H locs hw hM hS => ?_)
        obtain ⟨I6, L7, rfl, hI, hkI6⟩ := hw
        have hM : Mem D A ad ns I6 L7 G H := hM
        have hK := hK.trans hkI6 rfl
        refine lv_aload_n hx hb dX4_takeMirror_59 rfl (lv_at hl 0 rfl) ?_
        refine lv_iconst (v := (0)) hx hb dX4_takeMirror_60 (by decide) ?_
        refine m_puti (70) 8 hx hb hts hown hE oc4 hM hS (hG.1 70 (by decide)) rfl (by decide) rfl rfl rfl rfl tb_326 dX4_takeMirror_61 (fun H locs I8 eI8 hM hS => ?_)
        subst eI8
        have hI := hI.putF (n := 70) (k := 8) (v := 0) rfl
        have hK := hK.put (n := 70) (k := 8) (v := 0) (by first | rfl | simp [inR])
        refine lv_aload_n hx hb dX4_takeMirror_64 rfl (lv_at hl 0 rfl) ?_
        refine lv_iconst (v := (3)) hx hb dX4_takeMirror_65 (by decide) ?_
        refine m_puti (70) 7 hx hb hts hown hE oc4 hM hS (hG.1 70 (by decide)) rfl (by decide) rfl rfl rfl rfl tb_325 dX4_takeMirror_66 (fun H locs I9 eI9 hM hS => ?_)
        subst eI9
        have hI := hI.put (n := 70) (k := 7) (v := 3) (lo := 0) (hi := 5) rfl (by first | omega | decide)
        have hK := hK.put (n := 70) (k := 7) (v := 3) (by first | rfl | simp [inR])
        exact m_vret hx hb hr hlocks hM hS (Nat.le_of_ble_eq_true rfl) (Nat.le_of_ble_eq_true rfl) ⟨_, _, rfl, hI, hK⟩ dX4_takeMirror_69
      · have hc5 := c5
        have q5 := q_nlt hc5
        refine lv_aload_n hx hb dX4_takeMirror_40 rfl (lv_at hl 0 rfl) ?_
        refine lv_iconst (v := (1)) hx hb dX4_takeMirror_41 (by decide) ?_
        refine m_callv (m_runV (70) (As := [.int (1)]) (rest := []) hx hb hml hown hts hE hM hS hA ce_X4_fail tb_673 (V_X4_fail l D A ad ns I L G (1) hG hI) rfl rfl ⟨Nat.le_of_ble_eq_true rfl, Nat.le_of_ble_eq_true rfl⟩ (hG.1 70 (by decide)) rfl rfl (by decide) rfl hl.1 rfl (Nat.le_of_ble_eq_true rfl) dX4_takeMirror_42 ⟨Nat.le_of_ble_eq_true rfl, Nat.le_of_ble_eq_true rfl⟩) hS (fun u H locs hw hM hS => ?_)
        obtain ⟨I10, L11, rfl, hI, hkI10⟩ := hw
        have hM : Mem D A ad ns I10 L11 G H := hM
        have hK := hK.trans hkI10 rfl
        refine lv_goto (tgt := 69) hx hb dX4_takeMirror_45 (by decide) ?_
        exact m_vret hx hb hr hlocks hM hS (Nat.le_of_ble_eq_true rfl) (Nat.le_of_ble_eq_true rfl) ⟨_, _, rfl, hI, hK⟩ dX4_takeMirror_69
  · have hc1 := c1
    have q1 := q_nle hc1
    refine lv_aload_n hx hb dX4_takeMirror_7 rfl (lv_at hl 0 rfl) ?_
    refine m_geti (70) 5 hx hb hts hown hE oc4 hM (hG.1 70 (by decide)) rfl (by decide) rfl tb_323 dX4_takeMirror_8 ?_
    refine lv_bipush (v := (-46)) hx hb dX4_takeMirror_11 (by decide) ?_
    refine lv_icmp_eq (tgt := 24) hx hb dX4_takeMirror_13 (by decide) (fun c12 => ?_) (fun c12 => ?_)
    · have hc12 := c12
      have q12 := q_eq hc12
      refine lv_aload_n hx hb dX4_takeMirror_24 rfl (lv_at hl 0 rfl) ?_
      refine m_geti (70) 5 hx hb hts hown hE oc4 hM (hG.1 70 (by decide)) rfl (by decide) rfl tb_323 dX4_takeMirror_25 ?_
      refine lv_if_lt (tgt := 40) hx hb dX4_takeMirror_28 (by decide) (fun c13 => ?_) (fun c13 => ?_)
      · have hc13 := c13
        have q13 := q_lt hc13
        refine lv_aload_n hx hb dX4_takeMirror_40 rfl (lv_at hl 0 rfl) ?_
        refine lv_iconst (v := (1)) hx hb dX4_takeMirror_41 (by decide) ?_
        refine m_callv (m_runV (70) (As := [.int (1)]) (rest := []) hx hb hml hown hts hE hM hS hA ce_X4_fail tb_673 (V_X4_fail l D A ad ns I L G (1) hG hI) rfl rfl ⟨Nat.le_of_ble_eq_true rfl, Nat.le_of_ble_eq_true rfl⟩ (hG.1 70 (by decide)) rfl rfl (by decide) rfl hl.1 rfl (Nat.le_of_ble_eq_true rfl) dX4_takeMirror_42 ⟨Nat.le_of_ble_eq_true rfl, Nat.le_of_ble_eq_true rfl⟩) hS (fun u H locs hw hM hS => ?_)
        obtain ⟨I14, L15, rfl, hI, hkI14⟩ := hw
        have hM : Mem D A ad ns I14 L15 G H := hM
        have hK := hK.trans hkI14 rfl
        refine lv_goto (tgt := 69) hx hb dX4_takeMirror_45 (by decide) ?_
        exact m_vret hx hb hr hlocks hM hS (Nat.le_of_ble_eq_true rfl) (Nat.le_of_ble_eq_true rfl) ⟨_, _, rfl, hI, hK⟩ dX4_takeMirror_69
      · have hc13 := c13
        have q13 := q_nlt hc13
        refine lv_aload_n hx hb dX4_takeMirror_31 rfl (lv_at hl 0 rfl) ?_
        refine m_geti (70) 5 hx hb hts hown hE oc4 hM (hG.1 70 (by decide)) rfl (by decide) rfl tb_323 dX4_takeMirror_32 ?_
        refine lv_bipush (v := (24)) hx hb dX4_takeMirror_35 (by decide) ?_
        refine lv_icmp_lt (tgt := 48) hx hb dX4_takeMirror_37 (by decide) (fun c16 => ?_) (fun c16 => ?_)
        · have hc16 := c16
          have q16 := q_lt hc16
          refine lv_aload_n hx hb dX4_takeMirror_48 rfl (lv_at hl 0 rfl) ?_
          refine m_getr (70) 13 (w) hx hb hts hown hE oc4 hM (hG.1 70 (by decide)) rfl (by decide) rfl hd (by have := lbw hW.1; omega) tb_331 dX4_takeMirror_49 ?_
          refine lv_aload_n hx hb dX4_takeMirror_52 rfl (lv_at hl 0 rfl) ?_
          refine m_geti (70) 5 hx hb hts hown hE oc4 hM (hG.1 70 (by decide)) rfl (by decide) rfl tb_323 dX4_takeMirror_53 ?_
          refine m_callv (m_runV (w) (As := [.int (I (70) 5)]) (rest := []) hx hb hml hown hts hE hM hS hA ce_X3_beginClause tb_681 (V_X3_beginClause l D A ad ns I L G (w) (I (70) 5) hG hI hW) rfl rfl ⟨Nat.le_of_ble_eq_true rfl, Nat.le_of_ble_eq_true rfl⟩ hW.l (kW _ hW.1).1 rfl (by decide) rfl hl.1 rfl (Nat.le_of_ble_eq_true rfl) dX4_takeMirror_56 ⟨Nat.le_of_ble_eq_true rfl, Nat.le_of_ble_eq_true rfl⟩) hS (fun u H locs hw hM hS => ?_)
          obtain ⟨I17, L18, rfl, hI, hkI17⟩ := hw
          have hM : Mem D A ad ns I17 L18 G H := hM
          have hK := hK.trans hkI17 rfl
          refine lv_aload_n hx hb dX4_takeMirror_59 rfl (lv_at hl 0 rfl) ?_
          refine lv_iconst (v := (0)) hx hb dX4_takeMirror_60 (by decide) ?_
          refine m_puti (70) 8 hx hb hts hown hE oc4 hM hS (hG.1 70 (by decide)) rfl (by decide) rfl rfl rfl rfl tb_326 dX4_takeMirror_61 (fun H locs I19 eI19 hM hS => ?_)
          subst eI19
          have hI := hI.putF (n := 70) (k := 8) (v := 0) rfl
          have hK := hK.put (n := 70) (k := 8) (v := 0) (by first | rfl | simp [inR])
          refine lv_aload_n hx hb dX4_takeMirror_64 rfl (lv_at hl 0 rfl) ?_
          refine lv_iconst (v := (3)) hx hb dX4_takeMirror_65 (by decide) ?_
          refine m_puti (70) 7 hx hb hts hown hE oc4 hM hS (hG.1 70 (by decide)) rfl (by decide) rfl rfl rfl rfl tb_325 dX4_takeMirror_66 (fun H locs I20 eI20 hM hS => ?_)
          subst eI20
          have hI := hI.put (n := 70) (k := 7) (v := 3) (lo := 0) (hi := 5) rfl (by first | omega | decide)
          have hK := hK.put (n := 70) (k := 7) (v := 3) (by first | rfl | simp [inR])
          exact m_vret hx hb hr hlocks hM hS (Nat.le_of_ble_eq_true rfl) (Nat.le_of_ble_eq_true rfl) ⟨_, _, rfl, hI, hK⟩ dX4_takeMirror_69
        · have hc16 := c16
          have q16 := q_nlt hc16
          refine lv_aload_n hx hb dX4_takeMirror_40 rfl (lv_at hl 0 rfl) ?_
          refine lv_iconst (v := (1)) hx hb dX4_takeMirror_41 (by decide) ?_
          refine m_callv (m_runV (70) (As := [.int (1)]) (rest := []) hx hb hml hown hts hE hM hS hA ce_X4_fail tb_673 (V_X4_fail l D A ad ns I L G (1) hG hI) rfl rfl ⟨Nat.le_of_ble_eq_true rfl, Nat.le_of_ble_eq_true rfl⟩ (hG.1 70 (by decide)) rfl rfl (by decide) rfl hl.1 rfl (Nat.le_of_ble_eq_true rfl) dX4_takeMirror_42 ⟨Nat.le_of_ble_eq_true rfl, Nat.le_of_ble_eq_true rfl⟩) hS (fun u H locs hw hM hS => ?_)
          obtain ⟨I21, L22, rfl, hI, hkI21⟩ := hw
          have hM : Mem D A ad ns I21 L22 G H := hM
          have hK := hK.trans hkI21 rfl
          refine lv_goto (tgt := 69) hx hb dX4_takeMirror_45 (by decide) ?_
          exact m_vret hx hb hr hlocks hM hS (Nat.le_of_ble_eq_true rfl) (Nat.le_of_ble_eq_true rfl) ⟨_, _, rfl, hI, hK⟩ dX4_takeMirror_69
    · have hc12 := c12
      have q12 := q_ne hc12
      refine lv_aload_n hx hb dX4_takeMirror_16 rfl (lv_at hl 0 rfl) ?_
      refine lv_iconst (v := (0)) hx hb dX4_takeMirror_17 (by decide) ?_
      refine m_callv (m_runV (70) (As := [.int (0)]) (rest := []) hx hb hml hown hts hE hM hS hA ce_X4_fail tb_673 (V_X4_fail l D A ad ns I L G (0) hG hI) rfl rfl ⟨Nat.le_of_ble_eq_true rfl, Nat.le_of_ble_eq_true rfl⟩ (hG.1 70 (by decide)) rfl rfl (by decide) rfl hl.1 rfl (Nat.le_of_ble_eq_true rfl) dX4_takeMirror_18 ⟨Nat.le_of_ble_eq_true rfl, Nat.le_of_ble_eq_true rfl⟩) hS (fun u H locs hw hM hS => ?_)
      obtain ⟨I23, L24, rfl, hI, hkI23⟩ := hw
      have hM : Mem D A ad ns I23 L24 G H := hM
      have hK := hK.trans hkI23 rfl
      refine lv_goto (tgt := 69) hx hb dX4_takeMirror_21 (by decide) ?_
      exact m_vret hx hb hr hlocks hM hS (Nat.le_of_ble_eq_true rfl) (Nat.le_of_ble_eq_true rfl) ⟨_, _, rfl, hI, hK⟩ dX4_takeMirror_69
theorem dX4_takeValue_0 : decode cX4_takeValue 0 = .ok (.aload_n 0, 1) := by decide +kernel
theorem dX4_takeValue_1 : decode cX4_takeValue 1 = .ok (.getfield 83, 3) := by decide +kernel
theorem dX4_takeValue_4 : decode cX4_takeValue 4 = .ok (.bipush (-46), 2) := by decide +kernel
theorem dX4_takeValue_6 : decode cX4_takeValue 6 = .ok (.if_icmp .ne 11, 3) := by decide +kernel
theorem dX4_takeValue_9 : decode cX4_takeValue 9 = .ok (.aload_n 0, 1) := by decide +kernel
theorem dX4_takeValue_10 : decode cX4_takeValue 10 = .ok (.iconst 1, 1) := by decide +kernel
theorem dX4_takeValue_11 : decode cX4_takeValue 11 = .ok (.invokevirtual 86, 3) := by decide +kernel
theorem dX4_takeValue_14 : decode cX4_takeValue 14 = .ok (.goto 43, 3) := by decide +kernel
theorem dX4_takeValue_17 : decode cX4_takeValue 17 = .ok (.aload_n 0, 1) := by decide +kernel
theorem dX4_takeValue_18 : decode cX4_takeValue 18 = .ok (.getfield 83, 3) := by decide +kernel
theorem dX4_takeValue_21 : decode cX4_takeValue 21 = .ok (.bipush (-14), 2) := by decide +kernel
theorem dX4_takeValue_23 : decode cX4_takeValue 23 = .ok (.if_icmp .gt 11, 3) := by decide +kernel
theorem dX4_takeValue_26 : decode cX4_takeValue 26 = .ok (.aload_n 0, 1) := by decide +kernel
theorem dX4_takeValue_27 : decode cX4_takeValue 27 = .ok (.iconst 0, 1) := by decide +kernel
theorem dX4_takeValue_28 : decode cX4_takeValue 28 = .ok (.invokevirtual 86, 3) := by decide +kernel
theorem dX4_takeValue_31 : decode cX4_takeValue 31 = .ok (.goto 26, 3) := by decide +kernel
theorem dX4_takeValue_34 : decode cX4_takeValue 34 = .ok (.aload_n 0, 1) := by decide +kernel
theorem dX4_takeValue_35 : decode cX4_takeValue 35 = .ok (.invokevirtual 102, 3) := by decide +kernel
theorem dX4_takeValue_38 : decode cX4_takeValue 38 = .ok (.ifCond .eq 19, 3) := by decide +kernel
theorem dX4_takeValue_41 : decode cX4_takeValue 41 = .ok (.aload_n 0, 1) := by decide +kernel
theorem dX4_takeValue_42 : decode cX4_takeValue 42 = .ok (.getfield 50, 3) := by decide +kernel
theorem dX4_takeValue_45 : decode cX4_takeValue 45 = .ok (.aload_n 0, 1) := by decide +kernel
theorem dX4_takeValue_46 : decode cX4_takeValue 46 = .ok (.getfield 83, 3) := by decide +kernel
theorem dX4_takeValue_49 : decode cX4_takeValue 49 = .ok (.invokevirtual 106, 3) := by decide +kernel
theorem dX4_takeValue_52 : decode cX4_takeValue 52 = .ok (.aload_n 0, 1) := by decide +kernel
theorem dX4_takeValue_53 : decode cX4_takeValue 53 = .ok (.iconst 4, 1) := by decide +kernel
theorem dX4_takeValue_54 : decode cX4_takeValue 54 = .ok (.putfield 47, 3) := by decide +kernel
theorem dX4_takeValue_57 : decode cX4_takeValue 57 = .ok (.return_, 1) := by decide +kernel
theorem ce_X4_takeValue : CeV RX4 yX4_takeValue cX4_takeValue 1 none 0 := ⟨tb_691, tp_14, tb_9, tb_692, rfl, by decide, by decide, by decide +kernel⟩
set_option maxHeartbeats 4000000 in
set_option maxRecDepth 20000 in
theorem V_X4_takeValue (l : Launch) (D : va_G) (A : Nat → Prop) (ad : Nat → Nat) (ns : List Nat) (I : MI) (L : ML) (G : MG) (w : Nat) (hG : SGC ns G) (hI : INV I) (hW : LOK ns G w) (hd : G 70 13 = w) : Met l yX4_takeValue (wd yX4_takeValue cX4_takeValue 1 none) ({ frames := 2, cells := 0, slots := 0, locals := 41 }) (va_Pc [.ref (ad (70))] (PM D A ad ns I L G)) (va_Qv (fun u => ∃ I2 L2, u = (ad, ns, I2, L2, G) ∧ INV I2 ∧ Kp [(200, 300)] [(70, 7), (70, 11), (70, 12)] I I2) (BM D A) A) 0 0 A := by
  refine m_ofW (by decide) (Nat.le_of_ble_eq_true rfl) ?_
  intro p e s m below meth c ls args hC hE hM hA hS hl
  obtain ⟨hx, hb, hml, hown, hts, hr, hlocks, hin⟩ := hC
  have km46 : (-46 : Int32).toInt = -46 := by decide
  have km14 : (-14 : Int32).toInt = -14 := by decide
  have k0 : (0 : Int32).toInt = 0 := by decide
  have k1 : (1 : Int32).toInt = 1 := by decide
  have k4 : (4 : Int32).toInt = 4 := by decide
  have hK : Kp [(200, 300)] [(70, 7), (70, 11), (70, 12)] I I := Kp.rf
  have hl : lv_has ls 1 [(0, .ref (ad (70)))] := hl
  refine lv_aload_n hx hb dX4_takeValue_0 rfl (lv_at hl 0 rfl) ?_
  refine m_geti (70) 5 hx hb hts hown hE oc4 hM (hG.1 70 (by decide)) rfl (by decide) rfl tb_323 dX4_takeValue_1 ?_
  refine lv_bipush (v := (-46)) hx hb dX4_takeValue_4 (by decide) ?_
  refine lv_icmp_ne (tgt := 17) hx hb dX4_takeValue_6 (by decide) (fun c1 => ?_) (fun c1 => ?_)
  · have hc1 := c1
    have q1 := q_ne hc1
    refine lv_aload_n hx hb dX4_takeValue_17 rfl (lv_at hl 0 rfl) ?_
    refine m_geti (70) 5 hx hb hts hown hE oc4 hM (hG.1 70 (by decide)) rfl (by decide) rfl tb_323 dX4_takeValue_18 ?_
    refine lv_bipush (v := (-14)) hx hb dX4_takeValue_21 (by decide) ?_
    refine lv_icmp_gt (tgt := 34) hx hb dX4_takeValue_23 (by decide) (fun c2 => ?_) (fun c2 => ?_)
    · have hc2 := c2
      have q2 := q_lt hc2
      refine lv_aload_n hx hb dX4_takeValue_34 rfl (lv_at hl 0 rfl) ?_
      refine m_calli (m_runV (70) (As := []) (rest := []) hx hb hml hown hts hE hM hS hA ce_X4_countsOneMore tb_693 (V_X4_countsOneMore l D A ad ns I L G hG hI) rfl rfl ⟨Nat.le_of_ble_eq_true rfl, Nat.le_of_ble_eq_true rfl⟩ (hG.1 70 (by decide)) rfl rfl (by decide) rfl hl.1 rfl (Nat.le_of_ble_eq_true rfl) dX4_takeValue_35 ⟨Nat.le_of_ble_eq_true rfl, Nat.le_of_ble_eq_true rfl⟩) hS (fun r3 u H locs hw hM hS => ?_)
      obtain ⟨I4, L5, rfl, hI, hkI4, xr3⟩ := hw
      have hM : Mem D A ad ns I4 L5 G H := hM
      have hK := hK.trans hkI4 rfl
      refine lv_if_eq (tgt := 57) hx hb dX4_takeValue_38 (by decide) (fun c6 => ?_) (fun c6 => ?_)
      · have hc6 := c6
        have q6 := q_eq hc6
        exact m_vret hx hb hr hlocks hM hS (Nat.le_of_ble_eq_true rfl) (Nat.le_of_ble_eq_true rfl) ⟨_, _, rfl, hI, hK⟩ dX4_takeValue_57
      · have hc6 := c6
        have q6 := q_ne hc6
        refine lv_aload_n hx hb dX4_takeValue_41 rfl (lv_at hl 0 rfl) ?_
        refine m_getr (70) 13 (w) hx hb hts hown hE oc4 hM (hG.1 70 (by decide)) rfl (by decide) rfl hd (by have := lbw hW.1; omega) tb_331 dX4_takeValue_42 ?_
        refine lv_aload_n hx hb dX4_takeValue_45 rfl (lv_at hl 0 rfl) ?_
        refine m_geti (70) 5 hx hb hts hown hE oc4 hM (hG.1 70 (by decide)) rfl (by decide) rfl tb_323 dX4_takeValue_46 ?_
        have z7 : I4 (70) 5 = I (70) 5 := (hkI4.get (70) 5 rfl)
        rw [z7]
        refine m_callv (m_runV (w) (As := [.int (I (70) 5)]) (rest := []) hx hb hml hown hts hE hM hS hA ce_X3_add tb_697 (V_X3_add l D A ad ns I4 L5 G (w) (I (70) 5) hG hI hW) rfl rfl ⟨Nat.le_of_ble_eq_true rfl, Nat.le_of_ble_eq_true rfl⟩ hW.l (kW _ hW.1).1 rfl (by decide) rfl hl.1 rfl (Nat.le_of_ble_eq_true rfl) dX4_takeValue_49 ⟨Nat.le_of_ble_eq_true rfl, Nat.le_of_ble_eq_true rfl⟩) hS (fun u H locs hw hM hS => ?_)
        obtain ⟨I8, L9, rfl, hI, hkI8⟩ := hw
        have hM : Mem D A ad ns I8 L9 G H := hM
        have hK := hK.trans hkI8 rfl
        refine lv_aload_n hx hb dX4_takeValue_52 rfl (lv_at hl 0 rfl) ?_
        refine lv_iconst (v := (4)) hx hb dX4_takeValue_53 (by decide) ?_
        refine m_puti (70) 7 hx hb hts hown hE oc4 hM hS (hG.1 70 (by decide)) rfl (by decide) rfl rfl rfl rfl tb_325 dX4_takeValue_54 (fun H locs I10 eI10 hM hS => ?_)
        subst eI10
        have hI := hI.put (n := 70) (k := 7) (v := 4) (lo := 0) (hi := 5) rfl (by first | omega | decide)
        have hK := hK.put (n := 70) (k := 7) (v := 4) (by first | rfl | simp [inR])
        exact m_vret hx hb hr hlocks hM hS (Nat.le_of_ble_eq_true rfl) (Nat.le_of_ble_eq_true rfl) ⟨_, _, rfl, hI, hK⟩ dX4_takeValue_57
    · have hc2 := c2
      have q2 := q_nlt hc2
      refine lv_aload_n hx hb dX4_takeValue_26 rfl (lv_at hl 0 rfl) ?_
      refine lv_iconst (v := (0)) hx hb dX4_takeValue_27 (by decide) ?_
      refine m_callv (m_runV (70) (As := [.int (0)]) (rest := []) hx hb hml hown hts hE hM hS hA ce_X4_fail tb_673 (V_X4_fail l D A ad ns I L G (0) hG hI) rfl rfl ⟨Nat.le_of_ble_eq_true rfl, Nat.le_of_ble_eq_true rfl⟩ (hG.1 70 (by decide)) rfl rfl (by decide) rfl hl.1 rfl (Nat.le_of_ble_eq_true rfl) dX4_takeValue_28 ⟨Nat.le_of_ble_eq_true rfl, Nat.le_of_ble_eq_true rfl⟩) hS (fun u H locs hw hM hS => ?_)
      obtain ⟨I11, L12, rfl, hI, hkI11⟩ := hw
      have hM : Mem D A ad ns I11 L12 G H := hM
      have hK := hK.trans hkI11 rfl
      refine lv_goto (tgt := 57) hx hb dX4_takeValue_31 (by decide) ?_
      exact m_vret hx hb hr hlocks hM hS (Nat.le_of_ble_eq_true rfl) (Nat.le_of_ble_eq_true rfl) ⟨_, _, rfl, hI, hK⟩ dX4_takeValue_57
  · have hc1 := c1
    have q1 := q_eq hc1
    refine lv_aload_n hx hb dX4_takeValue_9 rfl (lv_at hl 0 rfl) ?_
    refine lv_iconst (v := (1)) hx hb dX4_takeValue_10 (by decide) ?_
    refine m_callv (m_runV (70) (As := [.int (1)]) (rest := []) hx hb hml hown hts hE hM hS hA ce_X4_fail tb_673 (V_X4_fail l D A ad ns I L G (1) hG hI) rfl rfl ⟨Nat.le_of_ble_eq_true rfl, Nat.le_of_ble_eq_true rfl⟩ (hG.1 70 (by decide)) rfl rfl (by decide) rfl hl.1 rfl (Nat.le_of_ble_eq_true rfl) dX4_takeValue_11 ⟨Nat.le_of_ble_eq_true rfl, Nat.le_of_ble_eq_true rfl⟩) hS (fun u H locs hw hM hS => ?_)
    obtain ⟨I13, L14, rfl, hI, hkI13⟩ := hw
    have hM : Mem D A ad ns I13 L14 G H := hM
    have hK := hK.trans hkI13 rfl
    refine lv_goto (tgt := 57) hx hb dX4_takeValue_14 (by decide) ?_
    exact m_vret hx hb hr hlocks hM hS (Nat.le_of_ble_eq_true rfl) (Nat.le_of_ble_eq_true rfl) ⟨_, _, rfl, hI, hK⟩ dX4_takeValue_57
theorem dX4_takeFact_0 : decode cX4_takeFact 0 = .ok (.aload_n 0, 1) := by decide +kernel
theorem dX4_takeFact_1 : decode cX4_takeFact 1 = .ok (.getfield 83, 3) := by decide +kernel
theorem dX4_takeFact_4 : decode cX4_takeFact 4 = .ok (.bipush (-14), 2) := by decide +kernel
theorem dX4_takeFact_6 : decode cX4_takeFact 6 = .ok (.if_icmp .eq 24, 3) := by decide +kernel
theorem dX4_takeFact_9 : decode cX4_takeFact 9 = .ok (.aload_n 0, 1) := by decide +kernel
theorem dX4_takeFact_10 : decode cX4_takeFact 10 = .ok (.getfield 83, 3) := by decide +kernel
theorem dX4_takeFact_13 : decode cX4_takeFact 13 = .ok (.bipush (-42), 2) := by decide +kernel
theorem dX4_takeFact_15 : decode cX4_takeFact 15 = .ok (.if_icmp .eq 15, 3) := by decide +kernel
theorem dX4_takeFact_18 : decode cX4_takeFact 18 = .ok (.aload_n 0, 1) := by decide +kernel
theorem dX4_takeFact_19 : decode cX4_takeFact 19 = .ok (.iconst 1, 1) := by decide +kernel
theorem dX4_takeFact_20 : decode cX4_takeFact 20 = .ok (.putfield 96, 3) := by decide +kernel
theorem dX4_takeFact_23 : decode cX4_takeFact 23 = .ok (.aload_n 0, 1) := by decide +kernel
theorem dX4_takeFact_24 : decode cX4_takeFact 24 = .ok (.invokevirtual 77, 3) := by decide +kernel
theorem dX4_takeFact_27 : decode cX4_takeFact 27 = .ok (.goto 61, 3) := by decide +kernel
theorem dX4_takeFact_30 : decode cX4_takeFact 30 = .ok (.aload_n 0, 1) := by decide +kernel
theorem dX4_takeFact_31 : decode cX4_takeFact 31 = .ok (.getfield 35, 3) := by decide +kernel
theorem dX4_takeFact_34 : decode cX4_takeFact 34 = .ok (.bipush 10, 2) := by decide +kernel
theorem dX4_takeFact_36 : decode cX4_takeFact 36 = .ok (.if_icmp .lt 11, 3) := by decide +kernel
theorem dX4_takeFact_39 : decode cX4_takeFact 39 = .ok (.aload_n 0, 1) := by decide +kernel
theorem dX4_takeFact_40 : decode cX4_takeFact 40 = .ok (.iconst 2, 1) := by decide +kernel
theorem dX4_takeFact_41 : decode cX4_takeFact 41 = .ok (.invokevirtual 86, 3) := by decide +kernel
theorem dX4_takeFact_44 : decode cX4_takeFact 44 = .ok (.goto 44, 3) := by decide +kernel
theorem dX4_takeFact_47 : decode cX4_takeFact 47 = .ok (.aload_n 0, 1) := by decide +kernel
theorem dX4_takeFact_48 : decode cX4_takeFact 48 = .ok (.dup, 1) := by decide +kernel
theorem dX4_takeFact_49 : decode cX4_takeFact 49 = .ok (.getfield 35, 3) := by decide +kernel
theorem dX4_takeFact_52 : decode cX4_takeFact 52 = .ok (.iconst 1, 1) := by decide +kernel
theorem dX4_takeFact_53 : decode cX4_takeFact 53 = .ok (.iadd, 1) := by decide +kernel
theorem dX4_takeFact_54 : decode cX4_takeFact 54 = .ok (.putfield 35, 3) := by decide +kernel
theorem dX4_takeFact_57 : decode cX4_takeFact 57 = .ok (.aload_n 0, 1) := by decide +kernel
theorem dX4_takeFact_58 : decode cX4_takeFact 58 = .ok (.dup, 1) := by decide +kernel
theorem dX4_takeFact_59 : decode cX4_takeFact 59 = .ok (.getfield 38, 3) := by decide +kernel
theorem dX4_takeFact_62 : decode cX4_takeFact 62 = .ok (.aload_n 0, 1) := by decide +kernel
theorem dX4_takeFact_63 : decode cX4_takeFact 63 = .ok (.getfield 83, 3) := by decide +kernel
theorem dX4_takeFact_66 : decode cX4_takeFact 66 = .ok (.bipush (-42), 2) := by decide +kernel
theorem dX4_takeFact_68 : decode cX4_takeFact 68 = .ok (.if_icmp .ne 7, 3) := by decide +kernel
theorem dX4_takeFact_71 : decode cX4_takeFact 71 = .ok (.iconst 1, 1) := by decide +kernel
theorem dX4_takeFact_72 : decode cX4_takeFact 72 = .ok (.goto 4, 3) := by decide +kernel
theorem dX4_takeFact_75 : decode cX4_takeFact 75 = .ok (.iconst 0, 1) := by decide +kernel
theorem dX4_takeFact_76 : decode cX4_takeFact 76 = .ok (.iadd, 1) := by decide +kernel
theorem dX4_takeFact_77 : decode cX4_takeFact 77 = .ok (.putfield 38, 3) := by decide +kernel
theorem dX4_takeFact_80 : decode cX4_takeFact 80 = .ok (.aload_n 0, 1) := by decide +kernel
theorem dX4_takeFact_81 : decode cX4_takeFact 81 = .ok (.aload_n 0, 1) := by decide +kernel
theorem dX4_takeFact_82 : decode cX4_takeFact 82 = .ok (.getfield 83, 3) := by decide +kernel
theorem dX4_takeFact_85 : decode cX4_takeFact 85 = .ok (.invokevirtual 99, 3) := by decide +kernel
theorem dX4_takeFact_88 : decode cX4_takeFact 88 = .ok (.return_, 1) := by decide +kernel
theorem ce_X4_takeFact : CeV RX4 yX4_takeFact cX4_takeFact 1 none 0 := ⟨tb_687, tp_13, tb_9, tb_688, rfl, by decide, by decide, by decide +kernel⟩
set_option maxHeartbeats 4000000 in
set_option maxRecDepth 20000 in
theorem V_X4_takeFact (l : Launch) (D : va_G) (A : Nat → Prop) (ad : Nat → Nat) (ns : List Nat) (I : MI) (L : ML) (G : MG) (w : Nat) (hG : SGC ns G) (hI : INV I) (hW : LOK ns G w) (hd : G 70 13 = w) : Met l yX4_takeFact (wd yX4_takeFact cX4_takeFact 1 none) ({ frames := 3, cells := 0, slots := 0, locals := 61 }) (va_Pc [.ref (ad (70))] (PM D A ad ns I L G)) (va_Qv (fun u => ∃ I2 L2, u = (ad, ns, I2, L2, G) ∧ INV I2 ∧ Kp [(72, 73), (200, 300)] [(70, 2), (70, 7), (70, 8), (70, 9), (70, 10), (70, 11), (70, 12)] I I2) (BM D A) A) 0 0 A := by
  refine m_ofW (by decide) (Nat.le_of_ble_eq_true rfl) ?_
  intro p e s m below meth c ls args hC hE hM hA hS hl
  obtain ⟨hx, hb, hml, hown, hts, hr, hlocks, hin⟩ := hC
  have km42 : (-42 : Int32).toInt = -42 := by decide
  have km14 : (-14 : Int32).toInt = -14 := by decide
  have k0 : (0 : Int32).toInt = 0 := by decide
  have k1 : (1 : Int32).toInt = 1 := by decide
  have k2 : (2 : Int32).toInt = 2 := by decide
  have k10 : (10 : Int32).toInt = 10 := by decide
  have hK : Kp [(72, 73), (200, 300)] [(70, 2), (70, 7), (70, 8), (70, 9), (70, 10), (70, 11), (70, 12)] I I := Kp.rf
  have hl : lv_has ls 1 [(0, .ref (ad (70)))] := hl
  refine lv_aload_n hx hb dX4_takeFact_0 rfl (lv_at hl 0 rfl) ?_
  refine m_geti (70) 5 hx hb hts hown hE oc4 hM (hG.1 70 (by decide)) rfl (by decide) rfl tb_323 dX4_takeFact_1 ?_
  refine lv_bipush (v := (-14)) hx hb dX4_takeFact_4 (by decide) ?_
  refine lv_icmp_eq (tgt := 30) hx hb dX4_takeFact_6 (by decide) (fun c1 => ?_) (fun c1 => ?_)
  · have hc1 := c1
    have q1 := q_eq hc1
    refine lv_aload_n hx hb dX4_takeFact_30 rfl (lv_at hl 0 rfl) ?_
    refine m_geti (70) 9 hx hb hts hown hE oc4 hM (hG.1 70 (by decide)) rfl (by decide) rfl tb_327 dX4_takeFact_31 ?_
    refine lv_bipush (v := (10)) hx hb dX4_takeFact_34 (by decide) ?_
    refine lv_icmp_lt (tgt := 47) hx hb dX4_takeFact_36 (by decide) (fun c2 => ?_) (fun c2 => ?_)
    · have hc2 := c2
      have q2 := q_lt hc2
      refine lv_aload_n hx hb dX4_takeFact_47 rfl (lv_at hl 0 rfl) ?_
      refine lv_dup hx hb dX4_takeFact_48 rfl ?_
      refine m_geti (70) 9 hx hb hts hown hE oc4 hM (hG.1 70 (by decide)) rfl (by decide) rfl tb_327 dX4_takeFact_49 ?_
      refine lv_iconst (v := (1)) hx hb dX4_takeFact_52 (by decide) ?_
      refine lv_iadd hx hb dX4_takeFact_53 ?_
      refine lv_topi (fun v3 ev3 => ?_)
      refine m_puti (70) 9 hx hb hts hown hE oc4 hM hS (hG.1 70 (by decide)) rfl (by decide) rfl rfl rfl rfl tb_327 dX4_takeFact_54 (fun H locs I4 eI4 hM hS => ?_)
      subst eI4
      have hI := hI.putF (n := 70) (k := 9) (v := v3) rfl
      have hK := hK.put (n := 70) (k := 9) (v := v3) (by first | rfl | simp [inR])
      refine lv_aload_n hx hb dX4_takeFact_57 rfl (lv_at hl 0 rfl) ?_
      refine lv_dup hx hb dX4_takeFact_58 rfl ?_
      refine m_geti (70) 10 hx hb hts hown hE oc4 hM (hG.1 70 (by decide)) rfl (by decide) rfl tb_328 dX4_takeFact_59 ?_
      have z5 : (u2 I (70) 9 (v3)) (70) 10 = I (70) 10 := (show (u2 I (70) 9 (v3)) (70) 10 = I (70) 10 from by simp [u2_v])
      rw [z5]
      refine lv_aload_n hx hb dX4_takeFact_62 rfl (lv_at hl 0 rfl) ?_
      refine m_geti (70) 5 hx hb hts hown hE oc4 hM (hG.1 70 (by decide)) rfl (by decide) rfl tb_323 dX4_takeFact_63 ?_
      have z6 : (u2 I (70) 9 (v3)) (70) 5 = I (70) 5 := (show (u2 I (70) 9 (v3)) (70) 5 = I (70) 5 from by simp [u2_v])
      rw [z6]
      refine lv_bipush (v := (-42)) hx hb dX4_takeFact_66 (by decide) ?_
      refine lv_icmp_ne (tgt := 75) hx hb dX4_takeFact_68 (by decide) (fun c7 => ?_) (fun c7 => ?_)
      · have hc7 := c7
        have q7 := q_ne hc7
        refine lv_iconst (v := (0)) hx hb dX4_takeFact_75 (by decide) ?_
        refine lv_iadd hx hb dX4_takeFact_76 ?_
        refine lv_topi (fun v8 ev8 => ?_)
        refine m_puti (70) 10 hx hb hts hown hE oc4 hM hS (hG.1 70 (by decide)) rfl (by decide) rfl rfl rfl rfl tb_328 dX4_takeFact_77 (fun H locs I9 eI9 hM hS => ?_)
        subst eI9
        have hI := hI.putF (n := 70) (k := 10) (v := v8) rfl
        have hK := hK.put (n := 70) (k := 10) (v := v8) (by first | rfl | simp [inR])
        refine lv_aload_n hx hb dX4_takeFact_80 rfl (lv_at hl 0 rfl) ?_
        refine lv_aload_n hx hb dX4_takeFact_81 rfl (lv_at hl 0 rfl) ?_
        refine m_geti (70) 5 hx hb hts hown hE oc4 hM (hG.1 70 (by decide)) rfl (by decide) rfl tb_323 dX4_takeFact_82 ?_
        have z10 : (u2 (u2 I (70) 9 (v3)) (70) 10 (v8)) (70) 5 = I (70) 5 := (show (u2 (u2 I (70) 9 (v3)) (70) 10 (v8)) (70) 5 = I (70) 5 from by simp [u2_v])
        rw [z10]
        refine m_callv (m_runV (70) (As := [.int (I (70) 5)]) (rest := []) hx hb hml hown hts hE hM hS hA ce_X4_push tb_701 (V_X4_push l D A ad ns (u2 (u2 I (70) 9 (v3)) (70) 10 (v8)) L G (I (70) 5) hG hI) rfl rfl ⟨Nat.le_of_ble_eq_true rfl, Nat.le_of_ble_eq_true rfl⟩ (hG.1 70 (by decide)) rfl rfl (by decide) rfl hl.1 rfl (Nat.le_of_ble_eq_true rfl) dX4_takeFact_85 ⟨Nat.le_of_ble_eq_true rfl, Nat.le_of_ble_eq_true rfl⟩) hS (fun u H locs hw hM hS => ?_)
        obtain ⟨I11, L12, rfl, hI, hkI11⟩ := hw
        have hM : Mem D A ad ns I11 L12 G H := hM
        have hK := hK.trans hkI11 rfl
        exact m_vret hx hb hr hlocks hM hS (Nat.le_of_ble_eq_true rfl) (Nat.le_of_ble_eq_true rfl) ⟨_, _, rfl, hI, hK⟩ dX4_takeFact_88
      · have hc7 := c7
        have q7 := q_eq hc7
        refine lv_iconst (v := (1)) hx hb dX4_takeFact_71 (by decide) ?_
        refine lv_goto (tgt := 76) hx hb dX4_takeFact_72 (by decide) ?_
        refine lv_iadd hx hb dX4_takeFact_76 ?_
        refine lv_topi (fun v13 ev13 => ?_)
        refine m_puti (70) 10 hx hb hts hown hE oc4 hM hS (hG.1 70 (by decide)) rfl (by decide) rfl rfl rfl rfl tb_328 dX4_takeFact_77 (fun H locs I14 eI14 hM hS => ?_)
        subst eI14
        have hI := hI.putF (n := 70) (k := 10) (v := v13) rfl
        have hK := hK.put (n := 70) (k := 10) (v := v13) (by first | rfl | simp [inR])
        refine lv_aload_n hx hb dX4_takeFact_80 rfl (lv_at hl 0 rfl) ?_
        refine lv_aload_n hx hb dX4_takeFact_81 rfl (lv_at hl 0 rfl) ?_
        refine m_geti (70) 5 hx hb hts hown hE oc4 hM (hG.1 70 (by decide)) rfl (by decide) rfl tb_323 dX4_takeFact_82 ?_
        have z15 : (u2 (u2 I (70) 9 (v3)) (70) 10 (v13)) (70) 5 = I (70) 5 := (show (u2 (u2 I (70) 9 (v3)) (70) 10 (v13)) (70) 5 = I (70) 5 from by simp [u2_v])
        rw [z15]
        refine m_callv (m_runV (70) (As := [.int (I (70) 5)]) (rest := []) hx hb hml hown hts hE hM hS hA ce_X4_push tb_701 (V_X4_push l D A ad ns (u2 (u2 I (70) 9 (v3)) (70) 10 (v13)) L G (I (70) 5) hG hI) rfl rfl ⟨Nat.le_of_ble_eq_true rfl, Nat.le_of_ble_eq_true rfl⟩ (hG.1 70 (by decide)) rfl rfl (by decide) rfl hl.1 rfl (Nat.le_of_ble_eq_true rfl) dX4_takeFact_85 ⟨Nat.le_of_ble_eq_true rfl, Nat.le_of_ble_eq_true rfl⟩) hS (fun u H locs hw hM hS => ?_)
        obtain ⟨I16, L17, rfl, hI, hkI16⟩ := hw
        have hM : Mem D A ad ns I16 L17 G H := hM
        have hK := hK.trans hkI16 rfl
        exact m_vret hx hb hr hlocks hM hS (Nat.le_of_ble_eq_true rfl) (Nat.le_of_ble_eq_true rfl) ⟨_, _, rfl, hI, hK⟩ dX4_takeFact_88
    · have hc2 := c2
      have q2 := q_nlt hc2
      refine lv_aload_n hx hb dX4_takeFact_39 rfl (lv_at hl 0 rfl) ?_
      refine lv_iconst (v := (2)) hx hb dX4_takeFact_40 (by decide) ?_
      refine m_callv (m_runV (70) (As := [.int (2)]) (rest := []) hx hb hml hown hts hE hM hS hA ce_X4_fail tb_673 (V_X4_fail l D A ad ns I L G (2) hG hI) rfl rfl ⟨Nat.le_of_ble_eq_true rfl, Nat.le_of_ble_eq_true rfl⟩ (hG.1 70 (by decide)) rfl rfl (by decide) rfl hl.1 rfl (Nat.le_of_ble_eq_true rfl) dX4_takeFact_41 ⟨Nat.le_of_ble_eq_true rfl, Nat.le_of_ble_eq_true rfl⟩) hS (fun u H locs hw hM hS => ?_)
      obtain ⟨I18, L19, rfl, hI, hkI18⟩ := hw
      have hM : Mem D A ad ns I18 L19 G H := hM
      have hK := hK.trans hkI18 rfl
      refine lv_goto (tgt := 88) hx hb dX4_takeFact_44 (by decide) ?_
      exact m_vret hx hb hr hlocks hM hS (Nat.le_of_ble_eq_true rfl) (Nat.le_of_ble_eq_true rfl) ⟨_, _, rfl, hI, hK⟩ dX4_takeFact_88
  · have hc1 := c1
    have q1 := q_ne hc1
    refine lv_aload_n hx hb dX4_takeFact_9 rfl (lv_at hl 0 rfl) ?_
    refine m_geti (70) 5 hx hb hts hown hE oc4 hM (hG.1 70 (by decide)) rfl (by decide) rfl tb_323 dX4_takeFact_10 ?_
    refine lv_bipush (v := (-42)) hx hb dX4_takeFact_13 (by decide) ?_
    refine lv_icmp_eq (tgt := 30) hx hb dX4_takeFact_15 (by decide) (fun c20 => ?_) (fun c20 => ?_)
    · have hc20 := c20
      have q20 := q_eq hc20
      refine lv_aload_n hx hb dX4_takeFact_30 rfl (lv_at hl 0 rfl) ?_
      refine m_geti (70) 9 hx hb hts hown hE oc4 hM (hG.1 70 (by decide)) rfl (by decide) rfl tb_327 dX4_takeFact_31 ?_
      refine lv_bipush (v := (10)) hx hb dX4_takeFact_34 (by decide) ?_
      refine lv_icmp_lt (tgt := 47) hx hb dX4_takeFact_36 (by decide) (fun c21 => ?_) (fun c21 => ?_)
      · have hc21 := c21
        have q21 := q_lt hc21
        refine lv_aload_n hx hb dX4_takeFact_47 rfl (lv_at hl 0 rfl) ?_
        refine lv_dup hx hb dX4_takeFact_48 rfl ?_
        refine m_geti (70) 9 hx hb hts hown hE oc4 hM (hG.1 70 (by decide)) rfl (by decide) rfl tb_327 dX4_takeFact_49 ?_
        refine lv_iconst (v := (1)) hx hb dX4_takeFact_52 (by decide) ?_
        refine lv_iadd hx hb dX4_takeFact_53 ?_
        refine lv_topi (fun v22 ev22 => ?_)
        refine m_puti (70) 9 hx hb hts hown hE oc4 hM hS (hG.1 70 (by decide)) rfl (by decide) rfl rfl rfl rfl tb_327 dX4_takeFact_54 (fun H locs I23 eI23 hM hS => ?_)
        subst eI23
        have hI := hI.putF (n := 70) (k := 9) (v := v22) rfl
        have hK := hK.put (n := 70) (k := 9) (v := v22) (by first | rfl | simp [inR])
        refine lv_aload_n hx hb dX4_takeFact_57 rfl (lv_at hl 0 rfl) ?_
        refine lv_dup hx hb dX4_takeFact_58 rfl ?_
        refine m_geti (70) 10 hx hb hts hown hE oc4 hM (hG.1 70 (by decide)) rfl (by decide) rfl tb_328 dX4_takeFact_59 ?_
        have z24 : (u2 I (70) 9 (v22)) (70) 10 = I (70) 10 := (show (u2 I (70) 9 (v22)) (70) 10 = I (70) 10 from by simp [u2_v])
        rw [z24]
        refine lv_aload_n hx hb dX4_takeFact_62 rfl (lv_at hl 0 rfl) ?_
        refine m_geti (70) 5 hx hb hts hown hE oc4 hM (hG.1 70 (by decide)) rfl (by decide) rfl tb_323 dX4_takeFact_63 ?_
        have z25 : (u2 I (70) 9 (v22)) (70) 5 = I (70) 5 := (show (u2 I (70) 9 (v22)) (70) 5 = I (70) 5 from by simp [u2_v])
        rw [z25]
        refine lv_bipush (v := (-42)) hx hb dX4_takeFact_66 (by decide) ?_
        refine lv_icmp_ne (tgt := 75) hx hb dX4_takeFact_68 (by decide) (fun c26 => ?_) (fun c26 => ?_)
        · have hc26 := c26
          have q26 := q_ne hc26
          refine lv_iconst (v := (0)) hx hb dX4_takeFact_75 (by decide) ?_
          refine lv_iadd hx hb dX4_takeFact_76 ?_
          refine lv_topi (fun v27 ev27 => ?_)
          refine m_puti (70) 10 hx hb hts hown hE oc4 hM hS (hG.1 70 (by decide)) rfl (by decide) rfl rfl rfl rfl tb_328 dX4_takeFact_77 (fun H locs I28 eI28 hM hS => ?_)
          subst eI28
          have hI := hI.putF (n := 70) (k := 10) (v := v27) rfl
          have hK := hK.put (n := 70) (k := 10) (v := v27) (by first | rfl | simp [inR])
          refine lv_aload_n hx hb dX4_takeFact_80 rfl (lv_at hl 0 rfl) ?_
          refine lv_aload_n hx hb dX4_takeFact_81 rfl (lv_at hl 0 rfl) ?_
          refine m_geti (70) 5 hx hb hts hown hE oc4 hM (hG.1 70 (by decide)) rfl (by decide) rfl tb_323 dX4_takeFact_82 ?_
          have z29 : (u2 (u2 I (70) 9 (v22)) (70) 10 (v27)) (70) 5 = I (70) 5 := (show (u2 (u2 I (70) 9 (v22)) (70) 10 (v27)) (70) 5 = I (70) 5 from by simp [u2_v])
          rw [z29]
          refine m_callv (m_runV (70) (As := [.int (I (70) 5)]) (rest := []) hx hb hml hown hts hE hM hS hA ce_X4_push tb_701 (V_X4_push l D A ad ns (u2 (u2 I (70) 9 (v22)) (70) 10 (v27)) L G (I (70) 5) hG hI) rfl rfl ⟨Nat.le_of_ble_eq_true rfl, Nat.le_of_ble_eq_true rfl⟩ (hG.1 70 (by decide)) rfl rfl (by decide) rfl hl.1 rfl (Nat.le_of_ble_eq_true rfl) dX4_takeFact_85 ⟨Nat.le_of_ble_eq_true rfl, Nat.le_of_ble_eq_true rfl⟩) hS (fun u H locs hw hM hS => ?_)
          obtain ⟨I30, L31, rfl, hI, hkI30⟩ := hw
          have hM : Mem D A ad ns I30 L31 G H := hM
          have hK := hK.trans hkI30 rfl
          exact m_vret hx hb hr hlocks hM hS (Nat.le_of_ble_eq_true rfl) (Nat.le_of_ble_eq_true rfl) ⟨_, _, rfl, hI, hK⟩ dX4_takeFact_88
        · have hc26 := c26
          have q26 := q_eq hc26
          refine lv_iconst (v := (1)) hx hb dX4_takeFact_71 (by decide) ?_
          refine lv_goto (tgt := 76) hx hb dX4_takeFact_72 (by decide) ?_
          refine lv_iadd hx hb dX4_takeFact_76 ?_
          refine lv_topi (fun v32 ev32 => ?_)
          refine m_puti (70) 10 hx hb hts hown hE oc4 hM hS (hG.1 70 (by decide)) rfl (by decide) rfl rfl rfl rfl tb_328 dX4_takeFact_77 (fun H locs I33 eI33 hM hS => ?_)
          subst eI33
          have hI := hI.putF (n := 70) (k := 10) (v := v32) rfl
          have hK := hK.put (n := 70) (k := 10) (v := v32) (by first | rfl | simp [inR])
          refine lv_aload_n hx hb dX4_takeFact_80 rfl (lv_at hl 0 rfl) ?_
          refine lv_aload_n hx hb dX4_takeFact_81 rfl (lv_at hl 0 rfl) ?_
          refine m_geti (70) 5 hx hb hts hown hE oc4 hM (hG.1 70 (by decide)) rfl (by decide) rfl tb_323 dX4_takeFact_82 ?_
          have z34 : (u2 (u2 I (70) 9 (v22)) (70) 10 (v32)) (70) 5 = I (70) 5 := (show (u2 (u2 I (70) 9 (v22)) (70) 10 (v32)) (70) 5 = I (70) 5 from by simp [u2_v])
          rw [z34]
          refine m_callv (m_runV (70) (As := [.int (I (70) 5)]) (rest := []) hx hb hml hown hts hE hM hS hA ce_X4_push tb_701 (V_X4_push l D A ad ns (u2 (u2 I (70) 9 (v22)) (70) 10 (v32)) L G (I (70) 5) hG hI) rfl rfl ⟨Nat.le_of_ble_eq_true rfl, Nat.le_of_ble_eq_true rfl⟩ (hG.1 70 (by decide)) rfl rfl (by decide) rfl hl.1 rfl (Nat.le_of_ble_eq_true rfl) dX4_takeFact_85 ⟨Nat.le_of_ble_eq_true rfl, Nat.le_of_ble_eq_true rfl⟩) hS (fun u H locs hw hM hS => ?_)
          obtain ⟨I35, L36, rfl, hI, hkI35⟩ := hw
          have hM : Mem D A ad ns I35 L36 G H := hM
          have hK := hK.trans hkI35 rfl
          exact m_vret hx hb hr hlocks hM hS (Nat.le_of_ble_eq_true rfl) (Nat.le_of_ble_eq_true rfl) ⟨_, _, rfl, hI, hK⟩ dX4_takeFact_88
      · have hc21 := c21
        have q21 := q_nlt hc21
        refine lv_aload_n hx hb dX4_takeFact_39 rfl (lv_at hl 0 rfl) ?_
        refine lv_iconst (v := (2)) hx hb dX4_takeFact_40 (by decide) ?_
        refine m_callv (m_runV (70) (As := [.int (2)]) (rest := []) hx hb hml hown hts hE hM hS hA ce_X4_fail tb_673 (V_X4_fail l D A ad ns I L G (2) hG hI) rfl rfl ⟨Nat.le_of_ble_eq_true rfl, Nat.le_of_ble_eq_true rfl⟩ (hG.1 70 (by decide)) rfl rfl (by decide) rfl hl.1 rfl (Nat.le_of_ble_eq_true rfl) dX4_takeFact_41 ⟨Nat.le_of_ble_eq_true rfl, Nat.le_of_ble_eq_true rfl⟩) hS (fun u H locs hw hM hS => ?_)
        obtain ⟨I37, L38, rfl, hI, hkI37⟩ := hw
        have hM : Mem D A ad ns I37 L38 G H := hM
        have hK := hK.trans hkI37 rfl
        refine lv_goto (tgt := 88) hx hb dX4_takeFact_44 (by decide) ?_
        exact m_vret hx hb hr hlocks hM hS (Nat.le_of_ble_eq_true rfl) (Nat.le_of_ble_eq_true rfl) ⟨_, _, rfl, hI, hK⟩ dX4_takeFact_88
    · have hc20 := c20
      have q20 := q_ne hc20
      refine lv_aload_n hx hb dX4_takeFact_18 rfl (lv_at hl 0 rfl) ?_
      refine lv_iconst (v := (1)) hx hb dX4_takeFact_19 (by decide) ?_
      refine m_puti (70) 8 hx hb hts hown hE oc4 hM hS (hG.1 70 (by decide)) rfl (by decide) rfl rfl rfl rfl tb_326 dX4_takeFact_20 (fun H locs I39 eI39 hM hS => ?_)
      subst eI39
      have hI := hI.putF (n := 70) (k := 8) (v := 1) rfl
      have hK := hK.put (n := 70) (k := 8) (v := 1) (by first | rfl | simp [inR])
      refine lv_aload_n hx hb dX4_takeFact_23 rfl (lv_at hl 0 rfl) ?_
      refine m_callv (m_runV (70) (As := []) (rest := []) hx hb hml hown hts hE hM hS hA ce_X4_takeValue tb_689 (V_X4_takeValue l D A ad ns (u2 I (70) 8 (1)) L G (w) hG hI hW hd) rfl rfl ⟨Nat.le_of_ble_eq_true rfl, Nat.le_of_ble_eq_true rfl⟩ (hG.1 70 (by decide)) rfl rfl (by decide) rfl hl.1 rfl (Nat.le_of_ble_eq_true rfl) dX4_takeFact_24 ⟨Nat.le_of_ble_eq_true rfl, Nat.le_of_ble_eq_true rfl⟩) hS (fun u H locs hw hM hS => ?_)
      obtain ⟨I40, L41, rfl, hI, hkI40⟩ := hw
      have hM : Mem D A ad ns I40 L41 G H := hM
      have hK := hK.trans hkI40 rfl
      refine lv_goto (tgt := 88) hx hb dX4_takeFact_27 (by decide) ?_
      exact m_vret hx hb hr hlocks hM hS (Nat.le_of_ble_eq_true rfl) (Nat.le_of_ble_eq_true rfl) ⟨_, _, rfl, hI, hK⟩ dX4_takeFact_88
theorem dX4_takeBehind_0 : decode cX4_takeBehind 0 = .ok (.aload_n 0, 1) := by decide +kernel
theorem dX4_takeBehind_1 : decode cX4_takeBehind 1 = .ok (.getfield 96, 3) := by decide +kernel
theorem dX4_takeBehind_4 : decode cX4_takeBehind 4 = .ok (.iconst 2, 1) := by decide +kernel
theorem dX4_takeBehind_5 : decode cX4_takeBehind 5 = .ok (.if_icmp .eq 11, 3) := by decide +kernel
theorem dX4_takeBehind_8 : decode cX4_takeBehind 8 = .ok (.aload_n 0, 1) := by decide +kernel
theorem dX4_takeBehind_9 : decode cX4_takeBehind 9 = .ok (.getfield 96, 3) := by decide +kernel
theorem dX4_takeBehind_12 : decode cX4_takeBehind 12 = .ok (.iconst 3, 1) := by decide +kernel
theorem dX4_takeBehind_13 : decode cX4_takeBehind 13 = .ok (.if_icmp .ne 7, 3) := by decide +kernel
theorem dX4_takeBehind_16 : decode cX4_takeBehind 16 = .ok (.iconst 1, 1) := by decide +kernel
theorem dX4_takeBehind_17 : decode cX4_takeBehind 17 = .ok (.goto 4, 3) := by decide +kernel
theorem dX4_takeBehind_20 : decode cX4_takeBehind 20 = .ok (.iconst 0, 1) := by decide +kernel
theorem dX4_takeBehind_21 : decode cX4_takeBehind 21 = .ok (.istore_n 1, 1) := by decide +kernel
theorem dX4_takeBehind_22 : decode cX4_takeBehind 22 = .ok (.aload_n 0, 1) := by decide +kernel
theorem dX4_takeBehind_23 : decode cX4_takeBehind 23 = .ok (.getfield 83, 3) := by decide +kernel
theorem dX4_takeBehind_26 : decode cX4_takeBehind 26 = .ok (.bipush (-15), 2) := by decide +kernel
theorem dX4_takeBehind_28 : decode cX4_takeBehind 28 = .ok (.if_icmp .gt 32, 3) := by decide +kernel
theorem dX4_takeBehind_31 : decode cX4_takeBehind 31 = .ok (.aload_n 0, 1) := by decide +kernel
theorem dX4_takeBehind_32 : decode cX4_takeBehind 32 = .ok (.getfield 83, 3) := by decide +kernel
theorem dX4_takeBehind_35 : decode cX4_takeBehind 35 = .ok (.bipush (-18), 2) := by decide +kernel
theorem dX4_takeBehind_37 : decode cX4_takeBehind 37 = .ok (.if_icmp .lt 23, 3) := by decide +kernel
theorem dX4_takeBehind_40 : decode cX4_takeBehind 40 = .ok (.aload_n 0, 1) := by decide +kernel
theorem dX4_takeBehind_41 : decode cX4_takeBehind 41 = .ok (.getfield 96, 3) := by decide +kernel
theorem dX4_takeBehind_44 : decode cX4_takeBehind 44 = .ok (.iconst 3, 1) := by decide +kernel
theorem dX4_takeBehind_45 : decode cX4_takeBehind 45 = .ok (.if_icmp .eq 15, 3) := by decide +kernel
theorem dX4_takeBehind_48 : decode cX4_takeBehind 48 = .ok (.aload_n 0, 1) := by decide +kernel
theorem dX4_takeBehind_49 : decode cX4_takeBehind 49 = .ok (.aload_n 0, 1) := by decide +kernel
theorem dX4_takeBehind_50 : decode cX4_takeBehind 50 = .ok (.getfield 96, 3) := by decide +kernel
theorem dX4_takeBehind_53 : decode cX4_takeBehind 53 = .ok (.iconst 3, 1) := by decide +kernel
theorem dX4_takeBehind_54 : decode cX4_takeBehind 54 = .ok (.invokevirtual 109, 3) := by decide +kernel
theorem dX4_takeBehind_57 : decode cX4_takeBehind 57 = .ok (.goto 184, 3) := by decide +kernel
theorem dX4_takeBehind_60 : decode cX4_takeBehind 60 = .ok (.aload_n 0, 1) := by decide +kernel
theorem dX4_takeBehind_61 : decode cX4_takeBehind 61 = .ok (.getfield 83, 3) := by decide +kernel
theorem dX4_takeBehind_64 : decode cX4_takeBehind 64 = .ok (.bipush (-19), 2) := by decide +kernel
theorem dX4_takeBehind_66 : decode cX4_takeBehind 66 = .ok (.if_icmp .gt 36, 3) := by decide +kernel
theorem dX4_takeBehind_69 : decode cX4_takeBehind 69 = .ok (.aload_n 0, 1) := by decide +kernel
theorem dX4_takeBehind_70 : decode cX4_takeBehind 70 = .ok (.getfield 83, 3) := by decide +kernel
theorem dX4_takeBehind_73 : decode cX4_takeBehind 73 = .ok (.bipush (-23), 2) := by decide +kernel
theorem dX4_takeBehind_75 : decode cX4_takeBehind 75 = .ok (.if_icmp .lt 27, 3) := by decide +kernel
theorem dX4_takeBehind_78 : decode cX4_takeBehind 78 = .ok (.aload_n 0, 1) := by decide +kernel
theorem dX4_takeBehind_79 : decode cX4_takeBehind 79 = .ok (.getfield 96, 3) := by decide +kernel
theorem dX4_takeBehind_82 : decode cX4_takeBehind 82 = .ok (.iconst 1, 1) := by decide +kernel
theorem dX4_takeBehind_83 : decode cX4_takeBehind 83 = .ok (.if_icmp .ne 19, 3) := by decide +kernel
theorem dX4_takeBehind_86 : decode cX4_takeBehind 86 = .ok (.aload_n 0, 1) := by decide +kernel
theorem dX4_takeBehind_87 : decode cX4_takeBehind 87 = .ok (.invokevirtual 102, 3) := by decide +kernel
theorem dX4_takeBehind_90 : decode cX4_takeBehind 90 = .ok (.ifCond .eq 151, 3) := by decide +kernel
theorem dX4_takeBehind_93 : decode cX4_takeBehind 93 = .ok (.aload_n 0, 1) := by decide +kernel
theorem dX4_takeBehind_94 : decode cX4_takeBehind 94 = .ok (.iconst 2, 1) := by decide +kernel
theorem dX4_takeBehind_95 : decode cX4_takeBehind 95 = .ok (.iconst 3, 1) := by decide +kernel
theorem dX4_takeBehind_96 : decode cX4_takeBehind 96 = .ok (.invokevirtual 109, 3) := by decide +kernel
theorem dX4_takeBehind_99 : decode cX4_takeBehind 99 = .ok (.goto 142, 3) := by decide +kernel
theorem dX4_takeBehind_102 : decode cX4_takeBehind 102 = .ok (.aload_n 0, 1) := by decide +kernel
theorem dX4_takeBehind_103 : decode cX4_takeBehind 103 = .ok (.getfield 83, 3) := by decide +kernel
theorem dX4_takeBehind_106 : decode cX4_takeBehind 106 = .ok (.bipush (-24), 2) := by decide +kernel
theorem dX4_takeBehind_108 : decode cX4_takeBehind 108 = .ok (.if_icmp .eq 12, 3) := by decide +kernel
theorem dX4_takeBehind_111 : decode cX4_takeBehind 111 = .ok (.aload_n 0, 1) := by decide +kernel
theorem dX4_takeBehind_112 : decode cX4_takeBehind 112 = .ok (.getfield 83, 3) := by decide +kernel
theorem dX4_takeBehind_115 : decode cX4_takeBehind 115 = .ok (.bipush (-25), 2) := by decide +kernel
theorem dX4_takeBehind_117 : decode cX4_takeBehind 117 = .ok (.if_icmp .ne 16, 3) := by decide +kernel
theorem dX4_takeBehind_120 : decode cX4_takeBehind 120 = .ok (.iload_n 1, 1) := by decide +kernel
theorem dX4_takeBehind_121 : decode cX4_takeBehind 121 = .ok (.ifCond .eq 12, 3) := by decide +kernel
theorem dX4_takeBehind_124 : decode cX4_takeBehind 124 = .ok (.aload_n 0, 1) := by decide +kernel
theorem dX4_takeBehind_125 : decode cX4_takeBehind 125 = .ok (.iconst 1, 1) := by decide +kernel
theorem dX4_takeBehind_126 : decode cX4_takeBehind 126 = .ok (.iconst 2, 1) := by decide +kernel
theorem dX4_takeBehind_127 : decode cX4_takeBehind 127 = .ok (.invokevirtual 109, 3) := by decide +kernel
theorem dX4_takeBehind_130 : decode cX4_takeBehind 130 = .ok (.goto 111, 3) := by decide +kernel
theorem dX4_takeBehind_133 : decode cX4_takeBehind 133 = .ok (.aload_n 0, 1) := by decide +kernel
theorem dX4_takeBehind_134 : decode cX4_takeBehind 134 = .ok (.getfield 83, 3) := by decide +kernel
theorem dX4_takeBehind_137 : decode cX4_takeBehind 137 = .ok (.bipush (-43), 2) := by decide +kernel
theorem dX4_takeBehind_139 : decode cX4_takeBehind 139 = .ok (.if_icmp .ne 21, 3) := by decide +kernel
theorem dX4_takeBehind_142 : decode cX4_takeBehind 142 = .ok (.iload_n 1, 1) := by decide +kernel
theorem dX4_takeBehind_143 : decode cX4_takeBehind 143 = .ok (.ifCond .eq 17, 3) := by decide +kernel
theorem dX4_takeBehind_146 : decode cX4_takeBehind 146 = .ok (.aload_n 0, 1) := by decide +kernel
theorem dX4_takeBehind_147 : decode cX4_takeBehind 147 = .ok (.getfield 38, 3) := by decide +kernel
theorem dX4_takeBehind_150 : decode cX4_takeBehind 150 = .ok (.ifCond .le 10, 3) := by decide +kernel
theorem dX4_takeBehind_153 : decode cX4_takeBehind 153 = .ok (.aload_n 0, 1) := by decide +kernel
theorem dX4_takeBehind_154 : decode cX4_takeBehind 154 = .ok (.invokevirtual 113, 3) := by decide +kernel
theorem dX4_takeBehind_157 : decode cX4_takeBehind 157 = .ok (.goto 84, 3) := by decide +kernel
theorem dX4_takeBehind_160 : decode cX4_takeBehind 160 = .ok (.aload_n 0, 1) := by decide +kernel
theorem dX4_takeBehind_161 : decode cX4_takeBehind 161 = .ok (.getfield 83, 3) := by decide +kernel
theorem dX4_takeBehind_164 : decode cX4_takeBehind 164 = .ok (.bipush (-41), 2) := by decide +kernel
theorem dX4_takeBehind_166 : decode cX4_takeBehind 166 = .ok (.if_icmp .ne 30, 3) := by decide +kernel
theorem dX4_takeBehind_169 : decode cX4_takeBehind 169 = .ok (.aload_n 0, 1) := by decide +kernel
theorem dX4_takeBehind_170 : decode cX4_takeBehind 170 = .ok (.getfield 96, 3) := by decide +kernel
theorem dX4_takeBehind_173 : decode cX4_takeBehind 173 = .ok (.ifCond .ne 23, 3) := by decide +kernel
theorem dX4_takeBehind_176 : decode cX4_takeBehind 176 = .ok (.aload_n 0, 1) := by decide +kernel
theorem dX4_takeBehind_177 : decode cX4_takeBehind 177 = .ok (.iconst 0, 1) := by decide +kernel
theorem dX4_takeBehind_178 : decode cX4_takeBehind 178 = .ok (.invokevirtual 116, 3) := by decide +kernel
theorem dX4_takeBehind_181 : decode cX4_takeBehind 181 = .ok (.aload_n 0, 1) := by decide +kernel
theorem dX4_takeBehind_182 : decode cX4_takeBehind 182 = .ok (.getfield 50, 3) := by decide +kernel
theorem dX4_takeBehind_185 : decode cX4_takeBehind 185 = .ok (.invokevirtual 119, 3) := by decide +kernel
theorem dX4_takeBehind_188 : decode cX4_takeBehind 188 = .ok (.aload_n 0, 1) := by decide +kernel
theorem dX4_takeBehind_189 : decode cX4_takeBehind 189 = .ok (.iconst 2, 1) := by decide +kernel
theorem dX4_takeBehind_190 : decode cX4_takeBehind 190 = .ok (.putfield 47, 3) := by decide +kernel
theorem dX4_takeBehind_193 : decode cX4_takeBehind 193 = .ok (.goto 48, 3) := by decide +kernel
theorem dX4_takeBehind_196 : decode cX4_takeBehind 196 = .ok (.aload_n 0, 1) := by decide +kernel
theorem dX4_takeBehind_197 : decode cX4_takeBehind 197 = .ok (.getfield 83, 3) := by decide +kernel
theorem dX4_takeBehind_200 : decode cX4_takeBehind 200 = .ok (.bipush (-44), 2) := by decide +kernel
theorem dX4_takeBehind_202 : decode cX4_takeBehind 202 = .ok (.if_icmp .eq 12, 3) := by decide +kernel
theorem dX4_takeBehind_205 : decode cX4_takeBehind 205 = .ok (.aload_n 0, 1) := by decide +kernel
theorem dX4_takeBehind_206 : decode cX4_takeBehind 206 = .ok (.getfield 83, 3) := by decide +kernel
theorem dX4_takeBehind_209 : decode cX4_takeBehind 209 = .ok (.bipush (-45), 2) := by decide +kernel
theorem dX4_takeBehind_211 : decode cX4_takeBehind 211 = .ok (.if_icmp .ne 25, 3) := by decide +kernel
theorem dX4_takeBehind_214 : decode cX4_takeBehind 214 = .ok (.aload_n 0, 1) := by decide +kernel
theorem dX4_takeBehind_215 : decode cX4_takeBehind 215 = .ok (.getfield 96, 3) := by decide +kernel
theorem dX4_takeBehind_218 : decode cX4_takeBehind 218 = .ok (.iconst 1, 1) := by decide +kernel
theorem dX4_takeBehind_219 : decode cX4_takeBehind 219 = .ok (.if_icmp .eq 17, 3) := by decide +kernel
theorem dX4_takeBehind_222 : decode cX4_takeBehind 222 = .ok (.aload_n 0, 1) := by decide +kernel
theorem dX4_takeBehind_223 : decode cX4_takeBehind 223 = .ok (.getfield 38, 3) := by decide +kernel
theorem dX4_takeBehind_226 : decode cX4_takeBehind 226 = .ok (.ifCond .ne 10, 3) := by decide +kernel
theorem dX4_takeBehind_229 : decode cX4_takeBehind 229 = .ok (.aload_n 0, 1) := by decide +kernel
theorem dX4_takeBehind_230 : decode cX4_takeBehind 230 = .ok (.invokevirtual 122, 3) := by decide +kernel
theorem dX4_takeBehind_233 : decode cX4_takeBehind 233 = .ok (.goto 8, 3) := by decide +kernel
theorem dX4_takeBehind_236 : decode cX4_takeBehind 236 = .ok (.aload_n 0, 1) := by decide +kernel
theorem dX4_takeBehind_237 : decode cX4_takeBehind 237 = .ok (.iconst 0, 1) := by decide +kernel
theorem dX4_takeBehind_238 : decode cX4_takeBehind 238 = .ok (.invokevirtual 86, 3) := by decide +kernel
theorem dX4_takeBehind_241 : decode cX4_takeBehind 241 = .ok (.return_, 1) := by decide +kernel
theorem ce_X4_takeBehind : CeV RX4 yX4_takeBehind cX4_takeBehind 2 none 0 := ⟨tb_707, tp_17, tb_9, tb_708, rfl, by decide, by decide, by decide +kernel⟩
set_option maxHeartbeats 4000000 in
set_option maxRecDepth 20000 in
theorem V_X4_takeBehind (l : Launch) (D : va_G) (A : Nat → Prop) (ad : Nat → Nat) (ns : List Nat) (I : MI) (L : ML) (G : MG) (w : Nat) (hG : SGC ns G) (hI : INV I) (hW : LOK ns G w) (hd : G 70 13 = w) : Met l yX4_takeBehind (wd yX4_takeBehind cX4_takeBehind 2 none) ({ frames := 3, cells := 0, slots := 0, locals := 64 }) (va_Pc [.ref (ad (70))] (PM D A ad ns I L G)) (va_Qv (fun u => ∃ I2 L2, u = (ad, ns, I2, L2, G) ∧ INV I2 ∧ Kp [(72, 73), (200, 300)] [(70, 2), (70, 7), (70, 8), (70, 9), (70, 10), (70, 11), (70, 12)] I I2) (BM D A) A) 0 0 A := by
  refine m_ofW (by decide) (Nat.le_of_ble_eq_true rfl) ?_
  intro p e s m below meth c ls args hC hE hM hA hS hl
  obtain ⟨hx, hb, hml, hown, hts, hr, hlocks, hin⟩ := hC
  have km45 : (-45 : Int32).toInt = -45 := by decide
  have km44 : (-44 : Int32).toInt = -44 := by decide
  have km43 : (-43 : Int32).toInt = -43 := by decide
  have km41 : (-41 : Int32).toInt = -41 := by decide
  have km25 : (-25 : Int32).toInt = -25 := by decide
  have km24 : (-24 : Int32).toInt = -24 := by decide
  have km23 : (-23 : Int32).toInt = -23 := by decide
  have km19 : (-19 : Int32).toInt = -19 := by decide
  have km18 : (-18 : Int32).toInt = -18 := by decide
  have km15 : (-15 : Int32).toInt = -15 := by decide
  have k0 : (0 : Int32).toInt = 0 := by decide
  have k1 : (1 : Int32).toInt = 1 := by decide
  have k2 : (2 : Int32).toInt = 2 := by decide
  have k3 : (3 : Int32).toInt = 3 := by decide
  have hK : Kp [(72, 73), (200, 300)] [(70, 2), (70, 7), (70, 8), (70, 9), (70, 10), (70, 11), (70, 12)] I I := Kp.rf
  have hl : lv_has ls 2 [(0, .ref (ad (70)))] := hl
  have join236 : ∀ (x1_236 : Int32) (Ia236 : MI) (La236 : ML) (H : Heap) (locs : List Loc) (ls : Array Slot), INV Ia236 → Kp [(72, 73), (200, 300)] [(70, 2), (70, 7), (70, 8), (70, 9), (70, 10), (70, 11), (70, 12)] I Ia236 → (0 ≤ x1_236.toInt ∧ x1_236.toInt ≤ 1) → Mem D A ad ns Ia236 La236 G H → va_S A s.heap H locs → lv_has ls 2 [(1, .int (x1_236)), (0, .ref (ad (70)))] → W p l e ({ frames := 3, cells := 0, slots := 0, locals := 64 } : Room) s m args below meth c H locs 0 0 (MQ below (va_Qv (fun u => ∃ I2 L2, u = (ad, ns, I2, L2, G) ∧ INV I2 ∧ Kp [(72, 73), (200, 300)] [(70, 2), (70, 7), (70, 8), (70, 9), (70, 10), (70, 11), (70, 12)] I I2) (BM D A) A) args s 0 0 A) (F0 m 236 ls []) := by
    intro x1_236 Ia236 La236 H locs ls hI hK hr1_236 hM hS hl
    refine lv_aload_n hx hb dX4_takeBehind_236 rfl (lv_at hl 1 rfl) ?_
    refine lv_iconst (v := (0)) hx hb dX4_takeBehind_237 (by decide) ?_
    refine m_callv (m_runV (70) (As := [.int (0)]) (rest := []) hx hb hml hown hts hE hM hS hA ce_X4_fail tb_673 (V_X4_fail l D A ad ns Ia236 La236 G (0) hG hI) rfl rfl ⟨Nat.le_of_ble_eq_true rfl, Nat.le_of_ble_eq_true rfl⟩ (hG.1 70 (by decide)) rfl rfl (by decide) rfl hl.1 rfl (Nat.le_of_ble_eq_true rfl) dX4_takeBehind_238 ⟨Nat.le_of_ble_eq_true rfl, Nat.le_of_ble_eq_true rfl⟩) hS (fun u H locs hw hM hS => ?_)
    obtain ⟨I1, L2, rfl, hI, hkI1⟩ := hw
    have hM : Mem D A ad ns I1 L2 G H := hM
    have hK := hK.trans hkI1 rfl
    exact m_vret hx hb hr hlocks hM hS (Nat.le_of_ble_eq_true rfl) (Nat.le_of_ble_eq_true rfl) ⟨_, _, rfl, hI, hK⟩ dX4_takeBehind_241
  have join196 : ∀ (x1_196 : Int32) (Ia196 : MI) (La196 : ML) (H : Heap) (locs : List Loc) (ls : Array Slot), INV Ia196 → Kp [(72, 73), (200, 300)] [(70, 2), (70, 7), (70, 8), (70, 9), (70, 10), (70, 11), (70, 12)] I Ia196 → (0 ≤ x1_196.toInt ∧ x1_196.toInt ≤ 1) → Mem D A ad ns Ia196 La196 G H → va_S A s.heap H locs → lv_has ls 2 [(1, .int (x1_196)), (0, .ref (ad (70)))] → W p l e ({ frames := 3, cells := 0, slots := 0, locals := 64 } : Room) s m args below meth c H locs 0 0 (MQ below (va_Qv (fun u => ∃ I2 L2, u = (ad, ns, I2, L2, G) ∧ INV I2 ∧ Kp [(72, 73), (200, 300)] [(70, 2), (70, 7), (70, 8), (70, 9), (70, 10), (70, 11), (70, 12)] I I2) (BM D A) A) args s 0 0 A) (F0 m 196 ls []) := by
    intro x1_196 Ia196 La196 H locs ls hI hK hr1_196 hM hS hl
    refine lv_aload_n hx hb dX4_takeBehind_196 rfl (lv_at hl 1 rfl) ?_
    refine m_geti (70) 5 hx hb hts hown hE oc4 hM (hG.1 70 (by decide)) rfl (by decide) rfl tb_323 dX4_takeBehind_197 ?_
    refine lv_bipush (v := (-44)) hx hb dX4_takeBehind_200 (by decide) ?_
    refine lv_icmp_eq (tgt := 214) hx hb dX4_takeBehind_202 (by decide) (fun c3 => ?_) (fun c3 => ?_)
    · have hc3 := c3
      have q3 := q_eq hc3
      refine lv_aload_n hx hb dX4_takeBehind_214 rfl (lv_at hl 1 rfl) ?_
      refine m_geti (70) 8 hx hb hts hown hE oc4 hM (hG.1 70 (by decide)) rfl (by decide) rfl tb_326 dX4_takeBehind_215 ?_
      refine lv_iconst (v := (1)) hx hb dX4_takeBehind_218 (by decide) ?_
      refine lv_icmp_eq (tgt := 236) hx hb dX4_takeBehind_219 (by decide) (fun c4 => ?_) (fun c4 => ?_)
      · have hc4 := c4
        have q4 := q_eq hc4
        exact join236 (x1_196) Ia196 La196 _ _ ls hI hK (by first | omega | decide) hM hS (lv_sub hl [0, 1] rfl)
      · have hc4 := c4
        have q4 := q_ne hc4
        refine lv_aload_n hx hb dX4_takeBehind_222 rfl (lv_at hl 1 rfl) ?_
        refine m_geti (70) 10 hx hb hts hown hE oc4 hM (hG.1 70 (by decide)) rfl (by decide) rfl tb_328 dX4_takeBehind_223 ?_
        refine lv_if_ne (tgt := 236) hx hb dX4_takeBehind_226 (by decide) (fun c5 => ?_) (fun c5 => ?_)
        · have hc5 := c5
          have q5 := q_ne hc5
          exact join236 (x1_196) Ia196 La196 _ _ ls hI hK (by first | omega | decide) hM hS (lv_sub hl [0, 1] rfl)
        · have hc5 := c5
          have q5 := q_eq hc5
          refine lv_aload_n hx hb dX4_takeBehind_229 rfl (lv_at hl 1 rfl) ?_
          refine m_callv (m_runV (70) (As := []) (rest := []) hx hb hml hown hts hE hM hS hA ce_X4_takeClauseEnd tb_728 (V_X4_takeClauseEnd l D A ad ns Ia196 La196 G (w) hG hI hW hd) rfl rfl ⟨Nat.le_of_ble_eq_true rfl, Nat.le_of_ble_eq_true rfl⟩ (hG.1 70 (by decide)) rfl rfl (by decide) rfl hl.1 rfl (Nat.le_of_ble_eq_true rfl) dX4_takeBehind_230 ⟨Nat.le_of_ble_eq_true rfl, Nat.le_of_ble_eq_true rfl⟩) hS (fun u H locs hw hM hS => ?_)
          obtain ⟨I6, L7, rfl, hI, hkI6⟩ := hw
          have hM : Mem D A ad ns I6 L7 G H := hM
          have hK := hK.trans hkI6 rfl
          refine lv_goto (tgt := 241) hx hb dX4_takeBehind_233 (by decide) ?_
          exact m_vret hx hb hr hlocks hM hS (Nat.le_of_ble_eq_true rfl) (Nat.le_of_ble_eq_true rfl) ⟨_, _, rfl, hI, hK⟩ dX4_takeBehind_241
    · have hc3 := c3
      have q3 := q_ne hc3
      refine lv_aload_n hx hb dX4_takeBehind_205 rfl (lv_at hl 1 rfl) ?_
      refine m_geti (70) 5 hx hb hts hown hE oc4 hM (hG.1 70 (by decide)) rfl (by decide) rfl tb_323 dX4_takeBehind_206 ?_
      refine lv_bipush (v := (-45)) hx hb dX4_takeBehind_209 (by decide) ?_
      refine lv_icmp_ne (tgt := 236) hx hb dX4_takeBehind_211 (by decide) (fun c8 => ?_) (fun c8 => ?_)
      · have hc8 := c8
        have q8 := q_ne hc8
        exact join236 (x1_196) Ia196 La196 _ _ ls hI hK (by first | omega | decide) hM hS (lv_sub hl [0, 1] rfl)
      · have hc8 := c8
        have q8 := q_eq hc8
        refine lv_aload_n hx hb dX4_takeBehind_214 rfl (lv_at hl 1 rfl) ?_
        refine m_geti (70) 8 hx hb hts hown hE oc4 hM (hG.1 70 (by decide)) rfl (by decide) rfl tb_326 dX4_takeBehind_215 ?_
        refine lv_iconst (v := (1)) hx hb dX4_takeBehind_218 (by decide) ?_
        refine lv_icmp_eq (tgt := 236) hx hb dX4_takeBehind_219 (by decide) (fun c9 => ?_) (fun c9 => ?_)
        · have hc9 := c9
          have q9 := q_eq hc9
          exact join236 (x1_196) Ia196 La196 _ _ ls hI hK (by first | omega | decide) hM hS (lv_sub hl [0, 1] rfl)
        · have hc9 := c9
          have q9 := q_ne hc9
          refine lv_aload_n hx hb dX4_takeBehind_222 rfl (lv_at hl 1 rfl) ?_
          refine m_geti (70) 10 hx hb hts hown hE oc4 hM (hG.1 70 (by decide)) rfl (by decide) rfl tb_328 dX4_takeBehind_223 ?_
          refine lv_if_ne (tgt := 236) hx hb dX4_takeBehind_226 (by decide) (fun c10 => ?_) (fun c10 => ?_)
          · have hc10 := c10
            have q10 := q_ne hc10
            exact join236 (x1_196) Ia196 La196 _ _ ls hI hK (by first | omega | decide) hM hS (lv_sub hl [0, 1] rfl)
          · have hc10 := c10
            have q10 := q_eq hc10
            refine lv_aload_n hx hb dX4_takeBehind_229 rfl (lv_at hl 1 rfl) ?_
            refine m_callv (m_runV (70) (As := []) (rest := []) hx hb hml hown hts hE hM hS hA ce_X4_takeClauseEnd tb_728 (V_X4_takeClauseEnd l D A ad ns Ia196 La196 G (w) hG hI hW hd) rfl rfl ⟨Nat.le_of_ble_eq_true rfl, Nat.le_of_ble_eq_true rfl⟩ (hG.1 70 (by decide)) rfl rfl (by decide) rfl hl.1 rfl (Nat.le_of_ble_eq_true rfl) dX4_takeBehind_230 ⟨Nat.le_of_ble_eq_true rfl, Nat.le_of_ble_eq_true rfl⟩) hS (fun u H locs hw hM hS => ?_)
            obtain ⟨I11, L12, rfl, hI, hkI11⟩ := hw
            have hM : Mem D A ad ns I11 L12 G H := hM
            have hK := hK.trans hkI11 rfl
            refine lv_goto (tgt := 241) hx hb dX4_takeBehind_233 (by decide) ?_
            exact m_vret hx hb hr hlocks hM hS (Nat.le_of_ble_eq_true rfl) (Nat.le_of_ble_eq_true rfl) ⟨_, _, rfl, hI, hK⟩ dX4_takeBehind_241
  have join160 : ∀ (x1_160 : Int32) (Ia160 : MI) (La160 : ML) (H : Heap) (locs : List Loc) (ls : Array Slot), INV Ia160 → Kp [(72, 73), (200, 300)] [(70, 2), (70, 7), (70, 8), (70, 9), (70, 10), (70, 11), (70, 12)] I Ia160 → (0 ≤ x1_160.toInt ∧ x1_160.toInt ≤ 1) → Mem D A ad ns Ia160 La160 G H → va_S A s.heap H locs → lv_has ls 2 [(1, .int (x1_160)), (0, .ref (ad (70)))] → W p l e ({ frames := 3, cells := 0, slots := 0, locals := 64 } : Room) s m args below meth c H locs 0 0 (MQ below (va_Qv (fun u => ∃ I2 L2, u = (ad, ns, I2, L2, G) ∧ INV I2 ∧ Kp [(72, 73), (200, 300)] [(70, 2), (70, 7), (70, 8), (70, 9), (70, 10), (70, 11), (70, 12)] I I2) (BM D A) A) args s 0 0 A) (F0 m 160 ls []) := by
    intro x1_160 Ia160 La160 H locs ls hI hK hr1_160 hM hS hl
    refine lv_aload_n hx hb dX4_takeBehind_160 rfl (lv_at hl 1 rfl) ?_
    refine m_geti (70) 5 hx hb hts hown hE oc4 hM (hG.1 70 (by decide)) rfl (by decide) rfl tb_323 dX4_takeBehind_161 ?_
    refine lv_bipush (v := (-41)) hx hb dX4_takeBehind_164 (by decide) ?_
    refine lv_icmp_ne (tgt := 196) hx hb dX4_takeBehind_166 (by decide) (fun c13 => ?_) (fun c13 => ?_)
    · have hc13 := c13
      have q13 := q_ne hc13
      exact join196 (x1_160) Ia160 La160 _ _ ls hI hK (by first | omega | decide) hM hS (lv_sub hl [0, 1] rfl)
    · have hc13 := c13
      have q13 := q_eq hc13
      refine lv_aload_n hx hb dX4_takeBehind_169 rfl (lv_at hl 1 rfl) ?_
      refine m_geti (70) 8 hx hb hts hown hE oc4 hM (hG.1 70 (by decide)) rfl (by decide) rfl tb_326 dX4_takeBehind_170 ?_
      refine lv_if_ne (tgt := 196) hx hb dX4_takeBehind_173 (by decide) (fun c14 => ?_) (fun c14 => ?_)
      · have hc14 := c14
        have q14 := q_ne hc14
        exact join196 (x1_160) Ia160 La160 _ _ ls hI hK (by first | omega | decide) hM hS (lv_sub hl [0, 1] rfl)
      · have hc14 := c14
        have q14 := q_eq hc14
        refine lv_aload_n hx hb dX4_takeBehind_176 rfl (lv_at hl 1 rfl) ?_
        refine lv_iconst (v := (0)) hx hb dX4_takeBehind_177 (by decide) ?_
        refine m_callv (m_runV (70) (As := [.int (0)]) (rest := []) hx hb hml hown hts hE hM hS hA ce_X4_popDownTo tb_716 (V_X4_popDownTo l D A ad ns Ia160 La160 G (w) (0) hG hI hW hd) rfl rfl ⟨Nat.le_of_ble_eq_true rfl, Nat.le_of_ble_eq_true rfl⟩ (hG.1 70 (by decide)) rfl rfl (by decide) rfl hl.1 rfl (Nat.le_of_ble_eq_true rfl) dX4_takeBehind_178 ⟨Nat.le_of_ble_eq_true rfl, Nat.le_of_ble_eq_true rfl⟩) hS (fun u H locs hw hM hS => ?_)
        obtain ⟨I15, L16, rfl, hI, hkI15⟩ := hw
        have hM : Mem D A ad ns I15 L16 G H := hM
        have hK := hK.trans hkI15 rfl
        refine lv_aload_n hx hb dX4_takeBehind_181 rfl (lv_at hl 1 rfl) ?_
        refine m_getr (70) 13 (w) hx hb hts hown hE oc4 hM (hG.1 70 (by decide)) rfl (by decide) rfl hd (by have := lbw hW.1; omega) tb_331 dX4_takeBehind_182 ?_
        refine m_callv (m_runV (w) (As := []) (rest := []) hx hb hml hown hts hE hM hS hA ce_X3_beginTest tb_724 (V_X3_beginTest l D A ad ns I15 L16 G (w) hG hI hW) rfl rfl ⟨Nat.le_of_ble_eq_true rfl, Nat.le_of_ble_eq_true rfl⟩ hW.l (kW _ hW.1).1 rfl (by decide) rfl hl.1 rfl (Nat.le_of_ble_eq_true rfl) dX4_takeBehind_185 ⟨Nat.le_of_ble_eq_true rfl, Nat.le_of_ble_eq_true rfl⟩) hS (fun u H locs hw hM hS => ?_)
        obtain ⟨I17, L18, rfl, hI, hkI17⟩ := hw
        have hM : Mem D A ad ns I17 L18 G H := hM
        have hK := hK.trans hkI17 rfl
        refine lv_aload_n hx hb dX4_takeBehind_188 rfl (lv_at hl 1 rfl) ?_
        refine lv_iconst (v := (2)) hx hb dX4_takeBehind_189 (by decide) ?_
        refine m_puti (70) 7 hx hb hts hown hE oc4 hM hS (hG.1 70 (by decide)) rfl (by decide) rfl rfl rfl rfl tb_325 dX4_takeBehind_190 (fun H locs I19 eI19 hM hS => ?_)
        subst eI19
        have hI := hI.put (n := 70) (k := 7) (v := 2) (lo := 0) (hi := 5) rfl (by first | omega | decide)
        have hK := hK.put (n := 70) (k := 7) (v := 2) (by first | rfl | simp [inR])
        refine lv_goto (tgt := 241) hx hb dX4_takeBehind_193 (by decide) ?_
        exact m_vret hx hb hr hlocks hM hS (Nat.le_of_ble_eq_true rfl) (Nat.le_of_ble_eq_true rfl) ⟨_, _, rfl, hI, hK⟩ dX4_takeBehind_241
  have join133 : ∀ (x1_133 : Int32) (Ia133 : MI) (La133 : ML) (H : Heap) (locs : List Loc) (ls : Array Slot), INV Ia133 → Kp [(72, 73), (200, 300)] [(70, 2), (70, 7), (70, 8), (70, 9), (70, 10), (70, 11), (70, 12)] I Ia133 → (0 ≤ x1_133.toInt ∧ x1_133.toInt ≤ 1) → Mem D A ad ns Ia133 La133 G H → va_S A s.heap H locs → lv_has ls 2 [(1, .int (x1_133)), (0, .ref (ad (70)))] → W p l e ({ frames := 3, cells := 0, slots := 0, locals := 64 } : Room) s m args below meth c H locs 0 0 (MQ below (va_Qv (fun u => ∃ I2 L2, u = (ad, ns, I2, L2, G) ∧ INV I2 ∧ Kp [(72, 73), (200, 300)] [(70, 2), (70, 7), (70, 8), (70, 9), (70, 10), (70, 11), (70, 12)] I I2) (BM D A) A) args s 0 0 A) (F0 m 133 ls []) := by
    intro x1_133 Ia133 La133 H locs ls hI hK hr1_133 hM hS hl
    refine lv_aload_n hx hb dX4_takeBehind_133 rfl (lv_at hl 1 rfl) ?_
    refine m_geti (70) 5 hx hb hts hown hE oc4 hM (hG.1 70 (by decide)) rfl (by decide) rfl tb_323 dX4_takeBehind_134 ?_
    refine lv_bipush (v := (-43)) hx hb dX4_takeBehind_137 (by decide) ?_
    refine lv_icmp_ne (tgt := 160) hx hb dX4_takeBehind_139 (by decide) (fun c20 => ?_) (fun c20 => ?_)
    · have hc20 := c20
      have q20 := q_ne hc20
      exact join160 (x1_133) Ia133 La133 _ _ ls hI hK (by first | omega | decide) hM hS (lv_sub hl [0, 1] rfl)
    · have hc20 := c20
      have q20 := q_eq hc20
      refine lv_iload_n hx hb dX4_takeBehind_142 rfl (lv_at hl 0 rfl) ?_
      refine lv_if_eq (tgt := 160) hx hb dX4_takeBehind_143 (by decide) (fun c21 => ?_) (fun c21 => ?_)
      · have hc21 := c21
        have q21 := q_eq hc21
        exact join160 (x1_133) Ia133 La133 _ _ ls hI hK (by first | omega | decide) hM hS (lv_sub hl [0, 1] rfl)
      · have hc21 := c21
        have q21 := q_ne hc21
        refine lv_aload_n hx hb dX4_takeBehind_146 rfl (lv_at hl 1 rfl) ?_
        refine m_geti (70) 10 hx hb hts hown hE oc4 hM (hG.1 70 (by decide)) rfl (by decide) rfl tb_328 dX4_takeBehind_147 ?_
        refine lv_if_le (tgt := 160) hx hb dX4_takeBehind_150 (by decide) (fun c22 => ?_) (fun c22 => ?_)
        · have hc22 := c22
          have q22 := q_le hc22
          exact join160 (x1_133) Ia133 La133 _ _ ls hI hK (by first | omega | decide) hM hS (lv_sub hl [0, 1] rfl)
        · have hc22 := c22
          have q22 := q_nle hc22
          refine lv_aload_n hx hb dX4_takeBehind_153 rfl (lv_at hl 1 rfl) ?_
          refine m_callv (m_runV (70) (As := []) (rest := []) hx hb hml hown hts hE hM hS hA ce_X4_closeBracket tb_720 (V_X4_closeBracket l D A ad ns Ia133 La133 G (w) hG hI hW hd) rfl rfl ⟨Nat.le_of_ble_eq_true rfl, Nat.le_of_ble_eq_true rfl⟩ (hG.1 70 (by decide)) rfl rfl (by decide) rfl hl.1 rfl (Nat.le_of_ble_eq_true rfl) dX4_takeBehind_154 ⟨Nat.le_of_ble_eq_true rfl, Nat.le_of_ble_eq_true rfl⟩) hS (fun u H locs hw hM hS => ?_)
          obtain ⟨I23, L24, rfl, hI, hkI23⟩ := hw
          have hM : Mem D A ad ns I23 L24 G H := hM
          have hK := hK.trans hkI23 rfl
          refine lv_goto (tgt := 241) hx hb dX4_takeBehind_157 (by decide) ?_
          exact m_vret hx hb hr hlocks hM hS (Nat.le_of_ble_eq_true rfl) (Nat.le_of_ble_eq_true rfl) ⟨_, _, rfl, hI, hK⟩ dX4_takeBehind_241
  have join102 : ∀ (x1_102 : Int32) (Ia102 : MI) (La102 : ML) (H : Heap) (locs : List Loc) (ls : Array Slot), INV Ia102 → Kp [(72, 73), (200, 300)] [(70, 2), (70, 7), (70, 8), (70, 9), (70, 10), (70, 11), (70, 12)] I Ia102 → (0 ≤ x1_102.toInt ∧ x1_102.toInt ≤ 1) → Mem D A ad ns Ia102 La102 G H → va_S A s.heap H locs → lv_has ls 2 [(1, .int (x1_102)), (0, .ref (ad (70)))] → W p l e ({ frames := 3, cells := 0, slots := 0, locals := 64 } : Room) s m args below meth c H locs 0 0 (MQ below (va_Qv (fun u => ∃ I2 L2, u = (ad, ns, I2, L2, G) ∧ INV I2 ∧ Kp [(72, 73), (200, 300)] [(70, 2), (70, 7), (70, 8), (70, 9), (70, 10), (70, 11), (70, 12)] I I2) (BM D A) A) args s 0 0 A) (F0 m 102 ls []) := by
    intro x1_102 Ia102 La102 H locs ls hI hK hr1_102 hM hS hl
    refine lv_aload_n hx hb dX4_takeBehind_102 rfl (lv_at hl 1 rfl) ?_
    refine m_geti (70) 5 hx hb hts hown hE oc4 hM (hG.1 70 (by decide)) rfl (by decide) rfl tb_323 dX4_takeBehind_103 ?_
    refine lv_bipush (v := (-24)) hx hb dX4_takeBehind_106 (by decide) ?_
    refine lv_icmp_eq (tgt := 120) hx hb dX4_takeBehind_108 (by decide) (fun c25 => ?_) (fun c25 => ?_)
    · have hc25 := c25
      have q25 := q_eq hc25
      refine lv_iload_n hx hb dX4_takeBehind_120 rfl (lv_at hl 0 rfl) ?_
      refine lv_if_eq (tgt := 133) hx hb dX4_takeBehind_121 (by decide) (fun c26 => ?_) (fun c26 => ?_)
      · have hc26 := c26
        have q26 := q_eq hc26
        exact join133 (x1_102) Ia102 La102 _ _ ls hI hK (by first | omega | decide) hM hS (lv_sub hl [0, 1] rfl)
      · have hc26 := c26
        have q26 := q_ne hc26
        refine lv_aload_n hx hb dX4_takeBehind_124 rfl (lv_at hl 1 rfl) ?_
        refine lv_iconst (v := (1)) hx hb dX4_takeBehind_125 (by decide) ?_
        refine lv_iconst (v := (2)) hx hb dX4_takeBehind_126 (by decide) ?_
        refine m_callv (m_runV (70) (As := [.int (1), .int (2)]) (rest := []) hx hb hml hown hts hE hM hS hA ce_X4_takeSign tb_709 (V_X4_takeSign l D A ad ns Ia102 La102 G (w) (1) (2) hG hI hW hd (by first | omega | decide)) rfl rfl ⟨Nat.le_of_ble_eq_true rfl, Nat.le_of_ble_eq_true rfl⟩ (hG.1 70 (by decide)) rfl rfl (by decide) rfl hl.1 rfl (Nat.le_of_ble_eq_true rfl) dX4_takeBehind_127 ⟨Nat.le_of_ble_eq_true rfl, Nat.le_of_ble_eq_true rfl⟩) hS (fun u H locs hw hM hS => ?_)
        obtain ⟨I27, L28, rfl, hI, hkI27⟩ := hw
        have hM : Mem D A ad ns I27 L28 G H := hM
        have hK := hK.trans hkI27 rfl
        refine lv_goto (tgt := 241) hx hb dX4_takeBehind_130 (by decide) ?_
        exact m_vret hx hb hr hlocks hM hS (Nat.le_of_ble_eq_true rfl) (Nat.le_of_ble_eq_true rfl) ⟨_, _, rfl, hI, hK⟩ dX4_takeBehind_241
    · have hc25 := c25
      have q25 := q_ne hc25
      refine lv_aload_n hx hb dX4_takeBehind_111 rfl (lv_at hl 1 rfl) ?_
      refine m_geti (70) 5 hx hb hts hown hE oc4 hM (hG.1 70 (by decide)) rfl (by decide) rfl tb_323 dX4_takeBehind_112 ?_
      refine lv_bipush (v := (-25)) hx hb dX4_takeBehind_115 (by decide) ?_
      refine lv_icmp_ne (tgt := 133) hx hb dX4_takeBehind_117 (by decide) (fun c29 => ?_) (fun c29 => ?_)
      · have hc29 := c29
        have q29 := q_ne hc29
        exact join133 (x1_102) Ia102 La102 _ _ ls hI hK (by first | omega | decide) hM hS (lv_sub hl [0, 1] rfl)
      · have hc29 := c29
        have q29 := q_eq hc29
        refine lv_iload_n hx hb dX4_takeBehind_120 rfl (lv_at hl 0 rfl) ?_
        refine lv_if_eq (tgt := 133) hx hb dX4_takeBehind_121 (by decide) (fun c30 => ?_) (fun c30 => ?_)
        · have hc30 := c30
          have q30 := q_eq hc30
          exact join133 (x1_102) Ia102 La102 _ _ ls hI hK (by first | omega | decide) hM hS (lv_sub hl [0, 1] rfl)
        · have hc30 := c30
          have q30 := q_ne hc30
          refine lv_aload_n hx hb dX4_takeBehind_124 rfl (lv_at hl 1 rfl) ?_
          refine lv_iconst (v := (1)) hx hb dX4_takeBehind_125 (by decide) ?_
          refine lv_iconst (v := (2)) hx hb dX4_takeBehind_126 (by decide) ?_
          refine m_callv (m_runV (70) (As := [.int (1), .int (2)]) (rest := []) hx hb hml hown hts hE hM hS hA ce_X4_takeSign tb_709 (V_X4_takeSign l D A ad ns Ia102 La102 G (w) (1) (2) hG hI hW hd (by first | omega | decide)) rfl rfl ⟨Nat.le_of_ble_eq_true rfl, Nat.le_of_ble_eq_true rfl⟩ (hG.1 70 (by decide)) rfl rfl (by decide) rfl hl.1 rfl (Nat.le_of_ble_eq_true rfl) dX4_takeBehind_127 ⟨Nat.le_of_ble_eq_true rfl, Nat.le_of_ble_eq_true rfl⟩) hS (fun u H locs hw hM hS => ?_)
          obtain ⟨I31, L32, rfl, hI, hkI31⟩ := hw
          have hM : Mem D A ad ns I31 L32 G H := hM
          have hK := hK.trans hkI31 rfl
          refine lv_goto (tgt := 241) hx hb dX4_takeBehind_130 (by decide) ?_
          exact m_vret hx hb hr hlocks hM hS (Nat.le_of_ble_eq_true rfl) (Nat.le_of_ble_eq_true rfl) ⟨_, _, rfl, hI, hK⟩ dX4_takeBehind_241
  have join60 : ∀ (x1_60 : Int32) (Ia60 : MI) (La60 : ML) (H : Heap) (locs : List Loc) (ls : Array Slot), INV Ia60 → Kp [(72, 73), (200, 300)] [(70, 2), (70, 7), (70, 8), (70, 9), (70, 10), (70, 11), (70, 12)] I Ia60 → (0 ≤ x1_60.toInt ∧ x1_60.toInt ≤ 1) → Mem D A ad ns Ia60 La60 G H → va_S A s.heap H locs → lv_has ls 2 [(1, .int (x1_60)), (0, .ref (ad (70)))] → W p l e ({ frames := 3, cells := 0, slots := 0, locals := 64 } : Room) s m args below meth c H locs 0 0 (MQ below (va_Qv (fun u => ∃ I2 L2, u = (ad, ns, I2, L2, G) ∧ INV I2 ∧ Kp [(72, 73), (200, 300)] [(70, 2), (70, 7), (70, 8), (70, 9), (70, 10), (70, 11), (70, 12)] I I2) (BM D A) A) args s 0 0 A) (F0 m 60 ls []) := by
    intro x1_60 Ia60 La60 H locs ls hI hK hr1_60 hM hS hl
    refine lv_aload_n hx hb dX4_takeBehind_60 rfl (lv_at hl 1 rfl) ?_
    refine m_geti (70) 5 hx hb hts hown hE oc4 hM (hG.1 70 (by decide)) rfl (by decide) rfl tb_323 dX4_takeBehind_61 ?_
    refine lv_bipush (v := (-19)) hx hb dX4_takeBehind_64 (by decide) ?_
    refine lv_icmp_gt (tgt := 102) hx hb dX4_takeBehind_66 (by decide) (fun c33 => ?_) (fun c33 => ?_)
    · have hc33 := c33
      have q33 := q_lt hc33
      exact join102 (x1_60) Ia60 La60 _ _ ls hI hK (by first | omega | decide) hM hS (lv_sub hl [0, 1] rfl)
    · have hc33 := c33
      have q33 := q_nlt hc33
      refine lv_aload_n hx hb dX4_takeBehind_69 rfl (lv_at hl 1 rfl) ?_
      refine m_geti (70) 5 hx hb hts hown hE oc4 hM (hG.1 70 (by decide)) rfl (by decide) rfl tb_323 dX4_takeBehind_70 ?_
      refine lv_bipush (v := (-23)) hx hb dX4_takeBehind_73 (by decide) ?_
      refine lv_icmp_lt (tgt := 102) hx hb dX4_takeBehind_75 (by decide) (fun c34 => ?_) (fun c34 => ?_)
      · have hc34 := c34
        have q34 := q_lt hc34
        exact join102 (x1_60) Ia60 La60 _ _ ls hI hK (by first | omega | decide) hM hS (lv_sub hl [0, 1] rfl)
      · have hc34 := c34
        have q34 := q_nlt hc34
        refine lv_aload_n hx hb dX4_takeBehind_78 rfl (lv_at hl 1 rfl) ?_
        refine m_geti (70) 8 hx hb hts hown hE oc4 hM (hG.1 70 (by decide)) rfl (by decide) rfl tb_326 dX4_takeBehind_79 ?_
        refine lv_iconst (v := (1)) hx hb dX4_takeBehind_82 (by decide) ?_
        refine lv_icmp_ne (tgt := 102) hx hb dX4_takeBehind_83 (by decide) (fun c35 => ?_) (fun c35 => ?_)
        · have hc35 := c35
          have q35 := q_ne hc35
          exact join102 (x1_60) Ia60 La60 _ _ ls hI hK (by first | omega | decide) hM hS (lv_sub hl [0, 1] rfl)
        · have hc35 := c35
          have q35 := q_eq hc35
          refine lv_aload_n hx hb dX4_takeBehind_86 rfl (lv_at hl 1 rfl) ?_
          refine m_calli (m_runV (70) (As := []) (rest := []) hx hb hml hown hts hE hM hS hA ce_X4_countsOneMore tb_693 (V_X4_countsOneMore l D A ad ns Ia60 La60 G hG hI) rfl rfl ⟨Nat.le_of_ble_eq_true rfl, Nat.le_of_ble_eq_true rfl⟩ (hG.1 70 (by decide)) rfl rfl (by decide) rfl hl.1 rfl (Nat.le_of_ble_eq_true rfl) dX4_takeBehind_87 ⟨Nat.le_of_ble_eq_true rfl, Nat.le_of_ble_eq_true rfl⟩) hS (fun r36 u H locs hw hM hS => ?_)
          obtain ⟨I37, L38, rfl, hI, hkI37, xr36⟩ := hw
          have hM : Mem D A ad ns I37 L38 G H := hM
          have hK := hK.trans hkI37 rfl
          refine lv_if_eq (tgt := 241) hx hb dX4_takeBehind_90 (by decide) (fun c39 => ?_) (fun c39 => ?_)
          · have hc39 := c39
            have q39 := q_eq hc39
            exact m_vret hx hb hr hlocks hM hS (Nat.le_of_ble_eq_true rfl) (Nat.le_of_ble_eq_true rfl) ⟨_, _, rfl, hI, hK⟩ dX4_takeBehind_241
          · have hc39 := c39
            have q39 := q_ne hc39
            refine lv_aload_n hx hb dX4_takeBehind_93 rfl (lv_at hl 1 rfl) ?_
            refine lv_iconst (v := (2)) hx hb dX4_takeBehind_94 (by decide) ?_
            refine lv_iconst (v := (3)) hx hb dX4_takeBehind_95 (by decide) ?_
            refine m_callv (m_runV (70) (As := [.int (2), .int (3)]) (rest := []) hx hb hml hown hts hE hM hS hA ce_X4_takeSign tb_709 (V_X4_takeSign l D A ad ns I37 L38 G (w) (2) (3) hG hI hW hd (by first | omega | decide)) rfl rfl ⟨Nat.le_of_ble_eq_true rfl, Nat.le_of_ble_eq_true rfl⟩ (hG.1 70 (by decide)) rfl rfl (by decide) rfl hl.1 rfl (Nat.le_of_ble_eq_true rfl) dX4_takeBehind_96 ⟨Nat.le_of_ble_eq_true rfl, Nat.le_of_ble_eq_true rfl⟩) hS (fun u H locs hw hM hS => ?_)
            obtain ⟨I40, L41, rfl, hI, hkI40⟩ := hw
            have hM : Mem D A ad ns I40 L41 G H := hM
            have hK := hK.trans hkI40 rfl
            refine lv_goto (tgt := 241) hx hb dX4_takeBehind_99 (by decide) ?_
            exact m_vret hx hb hr hlocks hM hS (Nat.le_of_ble_eq_true rfl) (Nat.le_of_ble_eq_true rfl) ⟨_, _, rfl, hI, hK⟩ dX4_takeBehind_241
  have join22 : ∀ (x1_22 : Int32) (Ia22 : MI) (La22 : ML) (H : Heap) (locs : List Loc) (ls : Array Slot), INV Ia22 → Kp [(72, 73), (200, 300)] [(70, 2), (70, 7), (70, 8), (70, 9), (70, 10), (70, 11), (70, 12)] I Ia22 → (0 ≤ x1_22.toInt ∧ x1_22.toInt ≤ 1) → Mem D A ad ns Ia22 La22 G H → va_S A s.heap H locs → lv_has ls 2 [(1, .int (x1_22)), (0, .ref (ad (70)))] → W p l e ({ frames := 3, cells := 0, slots := 0, locals := 64 } : Room) s m args below meth c H locs 0 0 (MQ below (va_Qv (fun u => ∃ I2 L2, u = (ad, ns, I2, L2, G) ∧ INV I2 ∧ Kp [(72, 73), (200, 300)] [(70, 2), (70, 7), (70, 8), (70, 9), (70, 10), (70, 11), (70, 12)] I I2) (BM D A) A) args s 0 0 A) (F0 m 22 ls []) := by
    intro x1_22 Ia22 La22 H locs ls hI hK hr1_22 hM hS hl
    refine lv_aload_n hx hb dX4_takeBehind_22 rfl (lv_at hl 1 rfl) ?_
    refine m_geti (70) 5 hx hb hts hown hE oc4 hM (hG.1 70 (by decide)) rfl (by decide) rfl tb_323 dX4_takeBehind_23 ?_
    refine lv_bipush (v := (-15)) hx hb dX4_takeBehind_26 (by decide) ?_
    refine lv_icmp_gt (tgt := 60) hx hb dX4_takeBehind_28 (by decide) (fun c42 => ?_) (fun c42 => ?_)
    · have hc42 := c42
      have q42 := q_lt hc42
      exact join60 (x1_22) Ia22 La22 _ _ ls hI hK (by first | omega | decide) hM hS (lv_sub hl [0, 1] rfl)
    · have hc42 := c42
      have q42 := q_nlt hc42
      refine lv_aload_n hx hb dX4_takeBehind_31 rfl (lv_at hl 1 rfl) ?_
      refine m_geti (70) 5 hx hb hts hown hE oc4 hM (hG.1 70 (by decide)) rfl (by decide) rfl tb_323 dX4_takeBehind_32 ?_
      refine lv_bipush (v := (-18)) hx hb dX4_takeBehind_35 (by decide) ?_
      refine lv_icmp_lt (tgt := 60) hx hb dX4_takeBehind_37 (by decide) (fun c43 => ?_) (fun c43 => ?_)
      · have hc43 := c43
        have q43 := q_lt hc43
        exact join60 (x1_22) Ia22 La22 _ _ ls hI hK (by first | omega | decide) hM hS (lv_sub hl [0, 1] rfl)
      · have hc43 := c43
        have q43 := q_nlt hc43
        refine lv_aload_n hx hb dX4_takeBehind_40 rfl (lv_at hl 1 rfl) ?_
        refine m_geti (70) 8 hx hb hts hown hE oc4 hM (hG.1 70 (by decide)) rfl (by decide) rfl tb_326 dX4_takeBehind_41 ?_
        refine lv_iconst (v := (3)) hx hb dX4_takeBehind_44 (by decide) ?_
        refine lv_icmp_eq (tgt := 60) hx hb dX4_takeBehind_45 (by decide) (fun c44 => ?_) (fun c44 => ?_)
        · have hc44 := c44
          have q44 := q_eq hc44
          exact join60 (x1_22) Ia22 La22 _ _ ls hI hK (by first | omega | decide) hM hS (lv_sub hl [0, 1] rfl)
        · have hc44 := c44
          have q44 := q_ne hc44
          refine lv_aload_n hx hb dX4_takeBehind_48 rfl (lv_at hl 1 rfl) ?_
          refine lv_aload_n hx hb dX4_takeBehind_49 rfl (lv_at hl 1 rfl) ?_
          refine m_geti (70) 8 hx hb hts hown hE oc4 hM (hG.1 70 (by decide)) rfl (by decide) rfl tb_326 dX4_takeBehind_50 ?_
          refine lv_iconst (v := (3)) hx hb dX4_takeBehind_53 (by decide) ?_
          refine m_callv (m_runV (70) (As := [.int (Ia22 (70) 8), .int (3)]) (rest := []) hx hb hml hown hts hE hM hS hA ce_X4_takeSign tb_709 (V_X4_takeSign l D A ad ns Ia22 La22 G (w) (Ia22 (70) 8) (3) hG hI hW hd (by first | omega | decide)) rfl rfl ⟨Nat.le_of_ble_eq_true rfl, Nat.le_of_ble_eq_true rfl⟩ (hG.1 70 (by decide)) rfl rfl (by decide) rfl hl.1 rfl (Nat.le_of_ble_eq_true rfl) dX4_takeBehind_54 ⟨Nat.le_of_ble_eq_true rfl, Nat.le_of_ble_eq_true rfl⟩) hS (fun u H locs hw hM hS => ?_)
          obtain ⟨I45, L46, rfl, hI, hkI45⟩ := hw
          have hM : Mem D A ad ns I45 L46 G H := hM
          have hK := hK.trans hkI45 rfl
          refine lv_goto (tgt := 241) hx hb dX4_takeBehind_57 (by decide) ?_
          exact m_vret hx hb hr hlocks hM hS (Nat.le_of_ble_eq_true rfl) (Nat.le_of_ble_eq_true rfl) ⟨_, _, rfl, hI, hK⟩ dX4_takeBehind_241
  refine lv_aload_n hx hb dX4_takeBehind_0 rfl (lv_at hl 0 rfl) ?_
  refine m_geti (70) 8 hx hb hts hown hE oc4 hM (hG.1 70 (by decide)) rfl (by decide) rfl tb_326 dX4_takeBehind_1 ?_
  refine lv_iconst (v := (2)) hx hb dX4_takeBehind_4 (by decide) ?_
  refine lv_icmp_eq (tgt := 16) hx hb dX4_takeBehind_5 (by decide) (fun c47 => ?_) (fun c47 => ?_)
  · have hc47 := c47
    have q47 := q_eq hc47
    refine lv_iconst (v := (1)) hx hb dX4_takeBehind_16 (by decide) ?_
    refine lv_goto (tgt := 21) hx hb dX4_takeBehind_17 (by decide) ?_
    refine lv_istore_n (lv' := [(1, .int (1)), (0, .ref (ad (70)))]) hx hb dX4_takeBehind_21 rfl hl (by decide) rfl (fun ls hl => ?_)
    exact join22 (1) I L _ _ ls hI hK (by first | omega | decide) hM hS (lv_sub hl [0, 1] rfl)
  · have hc47 := c47
    have q47 := q_ne hc47
    refine lv_aload_n hx hb dX4_takeBehind_8 rfl (lv_at hl 0 rfl) ?_
    refine m_geti (70) 8 hx hb hts hown hE oc4 hM (hG.1 70 (by decide)) rfl (by decide) rfl tb_326 dX4_takeBehind_9 ?_
    refine lv_iconst (v := (3)) hx hb dX4_takeBehind_12 (by decide) ?_
    refine lv_icmp_ne (tgt := 20) hx hb dX4_takeBehind_13 (by decide) (fun c48 => ?_) (fun c48 => ?_)
    · have hc48 := c48
      have q48 := q_ne hc48
      refine lv_iconst (v := (0)) hx hb dX4_takeBehind_20 (by decide) ?_
      refine lv_istore_n (lv' := [(1, .int (0)), (0, .ref (ad (70)))]) hx hb dX4_takeBehind_21 rfl hl (by decide) rfl (fun ls hl => ?_)
      exact join22 (0) I L _ _ ls hI hK (by first | omega | decide) hM hS (lv_sub hl [0, 1] rfl)
    · have hc48 := c48
      have q48 := q_eq hc48
      refine lv_iconst (v := (1)) hx hb dX4_takeBehind_16 (by decide) ?_
      refine lv_goto (tgt := 21) hx hb dX4_takeBehind_17 (by decide) ?_
      refine lv_istore_n (lv' := [(1, .int (1)), (0, .ref (ad (70)))]) hx hb dX4_takeBehind_21 rfl hl (by decide) rfl (fun ls hl => ?_)
      exact join22 (1) I L _ _ ls hI hK (by first | omega | decide) hM hS (lv_sub hl [0, 1] rfl)
theorem dX4_takeToken_0 : decode cX4_takeToken 0 = .ok (.aload_n 0, 1) := by decide +kernel
theorem dX4_takeToken_1 : decode cX4_takeToken 1 = .ok (.getfield 47, 3) := by decide +kernel
theorem dX4_takeToken_4 : decode cX4_takeToken 4 = .ok (.tableswitch 60 0 3 #[32, 39, 46, 53], 32) := by decide +kernel
theorem dX4_takeToken_36 : decode cX4_takeToken 36 = .ok (.aload_n 0, 1) := by decide +kernel
theorem dX4_takeToken_37 : decode cX4_takeToken 37 = .ok (.invokevirtual 68, 3) := by decide +kernel
theorem dX4_takeToken_40 : decode cX4_takeToken 40 = .ok (.goto 28, 3) := by decide +kernel
theorem dX4_takeToken_43 : decode cX4_takeToken 43 = .ok (.aload_n 0, 1) := by decide +kernel
theorem dX4_takeToken_44 : decode cX4_takeToken 44 = .ok (.invokevirtual 71, 3) := by decide +kernel
theorem dX4_takeToken_47 : decode cX4_takeToken 47 = .ok (.goto 21, 3) := by decide +kernel
theorem dX4_takeToken_50 : decode cX4_takeToken 50 = .ok (.aload_n 0, 1) := by decide +kernel
theorem dX4_takeToken_51 : decode cX4_takeToken 51 = .ok (.invokevirtual 74, 3) := by decide +kernel
theorem dX4_takeToken_54 : decode cX4_takeToken 54 = .ok (.goto 14, 3) := by decide +kernel
theorem dX4_takeToken_57 : decode cX4_takeToken 57 = .ok (.aload_n 0, 1) := by decide +kernel
theorem dX4_takeToken_58 : decode cX4_takeToken 58 = .ok (.invokevirtual 77, 3) := by decide +kernel
theorem dX4_takeToken_61 : decode cX4_takeToken 61 = .ok (.goto 7, 3) := by decide +kernel
theorem dX4_takeToken_64 : decode cX4_takeToken 64 = .ok (.aload_n 0, 1) := by decide +kernel
theorem dX4_takeToken_65 : decode cX4_takeToken 65 = .ok (.invokevirtual 80, 3) := by decide +kernel
theorem dX4_takeToken_68 : decode cX4_takeToken 68 = .ok (.return_, 1) := by decide +kernel
theorem ce_X4_takeToken : CeV RX4 yX4_takeToken cX4_takeToken 1 none 0 := ⟨tb_667, tp_9, tb_9, tb_668, rfl, by decide, by decide, by decide +kernel⟩
set_option maxHeartbeats 4000000 in
set_option maxRecDepth 20000 in
theorem V_X4_takeToken (l : Launch) (D : va_G) (A : Nat → Prop) (ad : Nat → Nat) (ns : List Nat) (I : MI) (L : ML) (G : MG) (w : Nat) (hG : SGC ns G) (hI : INV I) (hW : LOK ns G w) (hd : G 70 13 = w) : Met l yX4_takeToken (wd yX4_takeToken cX4_takeToken 1 none) ({ frames := 4, cells := 0, slots := 0, locals := 85 }) (va_Pc [.ref (ad (70))] (PM D A ad ns I L G)) (va_Qv (fun u => ∃ I2 L2, u = (ad, ns, I2, L2, G) ∧ INV I2 ∧ Kp [(72, 73), (200, 300)] [(70, 2), (70, 7), (70, 8), (70, 9), (70, 10), (70, 11), (70, 12)] I I2) (BM D A) A) 0 0 A := by
  refine m_ofW (by decide) (Nat.le_of_ble_eq_true rfl) ?_
  intro p e s m below meth c ls args hC hE hM hA hS hl
  obtain ⟨hx, hb, hml, hown, hts, hr, hlocks, hin⟩ := hC
  have k0 : (0 : Int32).toInt = 0 := by decide
  have hK : Kp [(72, 73), (200, 300)] [(70, 2), (70, 7), (70, 8), (70, 9), (70, 10), (70, 11), (70, 12)] I I := Kp.rf
  have hl : lv_has ls 1 [(0, .ref (ad (70)))] := hl
  refine lv_aload_n hx hb dX4_takeToken_0 rfl (lv_at hl 0 rfl) ?_
  refine m_geti (70) 7 hx hb hts hown hE oc4 hM (hG.1 70 (by decide)) rfl (by decide) rfl tb_325 dX4_takeToken_1 ?_
  have g1 := hI.get (70) 7 (lo := 0) (hi := 5) rfl
  by_cases c2 : (I (70) 7).toInt < 0 ∨ 3 < (I (70) 7).toInt
  · refine lv_tableOut (tgt := 64) hx hb dX4_takeToken_4 c2 (by decide) ?_
    refine lv_aload_n hx hb dX4_takeToken_64 rfl (lv_at hl 0 rfl) ?_
    refine m_callv (m_runV (70) (As := []) (rest := []) hx hb hml hown hts hE hM hS hA ce_X4_takeBehind tb_705 (V_X4_takeBehind l D A ad ns I L G (w) hG hI hW hd) rfl rfl ⟨Nat.le_of_ble_eq_true rfl, Nat.le_of_ble_eq_true rfl⟩ (hG.1 70 (by decide)) rfl rfl (by decide) rfl hl.1 rfl (Nat.le_of_ble_eq_true rfl) dX4_takeToken_65 ⟨Nat.le_of_ble_eq_true rfl, Nat.le_of_ble_eq_true rfl⟩) hS (fun u H locs hw hM hS => ?_)
    obtain ⟨I3, L4, rfl, hI, hkI3⟩ := hw
    have hM : Mem D A ad ns I3 L4 G H := hM
    have hK := hK.trans hkI3 rfl
    exact m_vret hx hb hr hlocks hM hS (Nat.le_of_ble_eq_true rfl) (Nat.le_of_ble_eq_true rfl) ⟨_, _, rfl, hI, hK⟩ dX4_takeToken_68
  · have qc2 : (I (70) 7).toInt = 0 ∨ (I (70) 7).toInt = 1 ∨ (I (70) 7).toInt = 2 ∨ (I (70) 7).toInt = 3 := by omega
    rcases qc2 with qc2 | qc2 | qc2 | qc2
    · refine lv_tableIn (off := 32) (tgt := 36) hx hb dX4_takeToken_4 (by omega) (by omega) (by rw [qc2]; rfl) (by decide) ?_
      refine lv_aload_n hx hb dX4_takeToken_36 rfl (lv_at hl 0 rfl) ?_
      refine m_callv (m_runV (70) (As := []) (rest := []) hx hb hml hown hts hE hM hS hA ce_X4_takeTurn tb_669 (V_X4_takeTurn l D A ad ns I L G (w) hG hI hW hd) rfl rfl ⟨Nat.le_of_ble_eq_true rfl, Nat.le_of_ble_eq_true rfl⟩ (hG.1 70 (by decide)) rfl rfl (by decide) rfl hl.1 rfl (Nat.le_of_ble_eq_true rfl) dX4_takeToken_37 ⟨Nat.le_of_ble_eq_true rfl, Nat.le_of_ble_eq_true rfl⟩) hS (fun u H locs hw hM hS => ?_)
      obtain ⟨I5, L6, rfl, hI, hkI5⟩ := hw
      have hM : Mem D A ad ns I5 L6 G H := hM
      have hK := hK.trans hkI5 rfl
      refine lv_goto (tgt := 68) hx hb dX4_takeToken_40 (by decide) ?_
      exact m_vret hx hb hr hlocks hM hS (Nat.le_of_ble_eq_true rfl) (Nat.le_of_ble_eq_true rfl) ⟨_, _, rfl, hI, hK⟩ dX4_takeToken_68
    · refine lv_tableIn (off := 39) (tgt := 43) hx hb dX4_takeToken_4 (by omega) (by omega) (by rw [qc2]; rfl) (by decide) ?_
      refine lv_aload_n hx hb dX4_takeToken_43 rfl (lv_at hl 0 rfl) ?_
      refine m_callv (m_runV (70) (As := []) (rest := []) hx hb hml hown hts hE hM hS hA ce_X4_takeMirror tb_677 (V_X4_takeMirror l D A ad ns I L G (w) hG hI hW hd) rfl rfl ⟨Nat.le_of_ble_eq_true rfl, Nat.le_of_ble_eq_true rfl⟩ (hG.1 70 (by decide)) rfl rfl (by decide) rfl hl.1 rfl (Nat.le_of_ble_eq_true rfl) dX4_takeToken_44 ⟨Nat.le_of_ble_eq_true rfl, Nat.le_of_ble_eq_true rfl⟩) hS (fun u H locs hw hM hS => ?_)
      obtain ⟨I7, L8, rfl, hI, hkI7⟩ := hw
      have hM : Mem D A ad ns I7 L8 G H := hM
      have hK := hK.trans hkI7 rfl
      refine lv_goto (tgt := 68) hx hb dX4_takeToken_47 (by decide) ?_
      exact m_vret hx hb hr hlocks hM hS (Nat.le_of_ble_eq_true rfl) (Nat.le_of_ble_eq_true rfl) ⟨_, _, rfl, hI, hK⟩ dX4_takeToken_68
    · refine lv_tableIn (off := 46) (tgt := 50) hx hb dX4_takeToken_4 (by omega) (by omega) (by rw [qc2]; rfl) (by decide) ?_
      refine lv_aload_n hx hb dX4_takeToken_50 rfl (lv_at hl 0 rfl) ?_
      refine m_callv (m_runV (70) (As := []) (rest := []) hx hb hml hown hts hE hM hS hA ce_X4_takeFact tb_685 (V_X4_takeFact l D A ad ns I L G (w) hG hI hW hd) rfl rfl ⟨Nat.le_of_ble_eq_true rfl, Nat.le_of_ble_eq_true rfl⟩ (hG.1 70 (by decide)) rfl rfl (by decide) rfl hl.1 rfl (Nat.le_of_ble_eq_true rfl) dX4_takeToken_51 ⟨Nat.le_of_ble_eq_true rfl, Nat.le_of_ble_eq_true rfl⟩) hS (fun u H locs hw hM hS => ?_)
      obtain ⟨I9, L10, rfl, hI, hkI9⟩ := hw
      have hM : Mem D A ad ns I9 L10 G H := hM
      have hK := hK.trans hkI9 rfl
      refine lv_goto (tgt := 68) hx hb dX4_takeToken_54 (by decide) ?_
      exact m_vret hx hb hr hlocks hM hS (Nat.le_of_ble_eq_true rfl) (Nat.le_of_ble_eq_true rfl) ⟨_, _, rfl, hI, hK⟩ dX4_takeToken_68
    · refine lv_tableIn (off := 53) (tgt := 57) hx hb dX4_takeToken_4 (by omega) (by omega) (by rw [qc2]; rfl) (by decide) ?_
      refine lv_aload_n hx hb dX4_takeToken_57 rfl (lv_at hl 0 rfl) ?_
      refine m_callv (m_runV (70) (As := []) (rest := []) hx hb hml hown hts hE hM hS hA ce_X4_takeValue tb_689 (V_X4_takeValue l D A ad ns I L G (w) hG hI hW hd) rfl rfl ⟨Nat.le_of_ble_eq_true rfl, Nat.le_of_ble_eq_true rfl⟩ (hG.1 70 (by decide)) rfl rfl (by decide) rfl hl.1 rfl (Nat.le_of_ble_eq_true rfl) dX4_takeToken_58 ⟨Nat.le_of_ble_eq_true rfl, Nat.le_of_ble_eq_true rfl⟩) hS (fun u H locs hw hM hS => ?_)
      obtain ⟨I11, L12, rfl, hI, hkI11⟩ := hw
      have hM : Mem D A ad ns I11 L12 G H := hM
      have hK := hK.trans hkI11 rfl
      refine lv_goto (tgt := 68) hx hb dX4_takeToken_61 (by decide) ?_
      exact m_vret hx hb hr hlocks hM hS (Nat.le_of_ble_eq_true rfl) (Nat.le_of_ble_eq_true rfl) ⟨_, _, rfl, hI, hK⟩ dX4_takeToken_68
