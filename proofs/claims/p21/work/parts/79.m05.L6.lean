set_option maxHeartbeats 4000000 in
set_option maxRecDepth 20000 in
theorem V_X8_isOpen_110_l (l : Launch) (D : va_G) (A : Nat → Prop) (ad : Nat → Nat) (ns : List Nat) (I : MI) (L : ML) (G : MG) (a0 : Int32) (a1 : Int32) (hG : SGC ns G) (hI : INV I) : Met l yX8_isOpen (wd yX8_isOpen cX8_isOpen 3 (some .boolean)) ({ frames := 0, cells := 0, slots := 0, locals := 0 }) (va_Pc [.ref (ad (110)), .int a0, .int a1] (PM D A ad ns I L G)) (va_Qi (fun r u => u = (ad, ns, I, L, G) ∧ (Bo r ((0 ≤ a0.toInt ∧ a0.toInt < (I 110 0).toInt ∧ 0 ≤ a1.toInt ∧ a1.toInt < (I 110 1).toInt) ∧ (I 111 (clN a0 a1)).toInt = 0))) (BM D A) A) 0 0 A := by
  refine m_ofW (by decide) (Nat.le_of_ble_eq_true rfl) ?_
  intro p e s m below meth c ls args hC hE hM hA hS hl
  obtain ⟨hx, hb, hml, hown, hts, hr, hlocks, hin⟩ := hC
  have k0 : (0 : Int32).toInt = 0 := by decide
  have k1 : (1 : Int32).toInt = 1 := by decide
  have k24 : (24 : Int32).toInt = 24 := by decide
  have hl : lv_has ls 3 [(0, .ref (ad (110))), (1, .int (a0)), (2, .int (a1))] := hl
  refine lv_iload_n hx hb dX8_isOpen_0 rfl (lv_at hl 1 rfl) ?_
  refine lv_if_lt (tgt := 42) hx hb dX8_isOpen_1 (by decide) (fun c1 => ?_) (fun c1 => ?_)
  · have hc1 := c1
    have q1 := q_lt hc1
    refine lv_iconst (v := (0)) hx hb dX8_isOpen_42 (by decide) ?_
    exact m_zret hx hb hr rfl hlocks hM hS (Nat.le_of_ble_eq_true rfl) (Nat.le_of_ble_eq_true rfl) ⟨rfl, (Bo.n (fun hh => by have h1 := hh.1; omega))⟩ dX8_isOpen_43
  · have hc1 := c1
    have q1 := q_nlt hc1
    refine lv_iload_n hx hb dX8_isOpen_4 rfl (lv_at hl 1 rfl) ?_
    refine lv_aload_n hx hb dX8_isOpen_5 rfl (lv_at hl 0 rfl) ?_
    refine m_geti (110) 0 hx hb hts hown hE oc8 hM (hG.1 110 (by decide)) rfl (by decide) rfl tb_34 dX8_isOpen_6 ?_
    have g2 := hI.get (110) 0 (lo := 0) (hi := 24) rfl
    refine lv_icmp_ge (tgt := 42) hx hb dX8_isOpen_9 (by decide) (fun c3 => ?_) (fun c3 => ?_)
    · have hc3 := c3
      have q3 := q_le hc3
      refine lv_iconst (v := (0)) hx hb dX8_isOpen_42 (by decide) ?_
      exact m_zret hx hb hr rfl hlocks hM hS (Nat.le_of_ble_eq_true rfl) (Nat.le_of_ble_eq_true rfl) ⟨rfl, (Bo.n (fun hh => by have h1 := hh.1; omega))⟩ dX8_isOpen_43
    · have hc3 := c3
      have q3 := q_nle hc3
      refine lv_iload_n hx hb dX8_isOpen_12 rfl (lv_at hl 2 rfl) ?_
      refine lv_if_lt (tgt := 42) hx hb dX8_isOpen_13 (by decide) (fun c4 => ?_) (fun c4 => ?_)
      · have hc4 := c4
        have q4 := q_lt hc4
        refine lv_iconst (v := (0)) hx hb dX8_isOpen_42 (by decide) ?_
        exact m_zret hx hb hr rfl hlocks hM hS (Nat.le_of_ble_eq_true rfl) (Nat.le_of_ble_eq_true rfl) ⟨rfl, (Bo.n (fun hh => by have h1 := hh.1; omega))⟩ dX8_isOpen_43
      · have hc4 := c4
        have q4 := q_nlt hc4
        refine lv_iload_n hx hb dX8_isOpen_16 rfl (lv_at hl 2 rfl) ?_
        refine lv_aload_n hx hb dX8_isOpen_17 rfl (lv_at hl 0 rfl) ?_
        refine m_geti (110) 1 hx hb hts hown hE oc8 hM (hG.1 110 (by decide)) rfl (by decide) rfl tb_37 dX8_isOpen_18 ?_
        have g5 := hI.get (110) 1 (lo := 0) (hi := 24) rfl
        refine lv_icmp_ge (tgt := 42) hx hb dX8_isOpen_21 (by decide) (fun c6 => ?_) (fun c6 => ?_)
        · have hc6 := c6
          have q6 := q_le hc6
          refine lv_iconst (v := (0)) hx hb dX8_isOpen_42 (by decide) ?_
          exact m_zret hx hb hr rfl hlocks hM hS (Nat.le_of_ble_eq_true rfl) (Nat.le_of_ble_eq_true rfl) ⟨rfl, (Bo.n (fun hh => by have h1 := hh.1; omega))⟩ dX8_isOpen_43
        · have hc6 := c6
          have q6 := q_nle hc6
          refine lv_aload_n hx hb dX8_isOpen_24 rfl (lv_at hl 0 rfl) ?_
          refine m_getr (110) 10 (111) hx hb hts hown hE oc8 hM (hG.1 110 (by decide)) rfl (by decide) rfl (hG.2 (110, 10, 111) (by decide)) (by decide) tb_66 dX8_isOpen_25 ?_
          refine lv_bipush (v := (24)) hx hb dX8_isOpen_28 (by decide) ?_
          refine lv_iload_n hx hb dX8_isOpen_30 rfl (lv_at hl 2 rfl) ?_
          refine lv_imul hx hb dX8_isOpen_31 ?_
          refine lv_topi (fun v7 ev7 => ?_)
          have tv7 := a_mulL (c := 24) ev7 (by decide) (by omega) (by omega)
          refine lv_iload_n hx hb dX8_isOpen_32 rfl (lv_at hl 1 rfl) ?_
          refine lv_iadd hx hb dX8_isOpen_33 ?_
          refine lv_topi (fun v8 ev8 => ?_)
          have tv8 := a_add ev8 (by omega) (by omega)
          refine m_iald (111) hx hb hE hM (hG.1 111 (by decide)) rfl (vp_in_iff.mpr (by omega)) dX8_isOpen_34 ?_
          refine lv_if_ne (tgt := 42) hx hb dX8_isOpen_35 (by decide) (fun c9 => ?_) (fun c9 => ?_)
          · have hc9 := c9
            have q9 := q_ne hc9
            refine lv_iconst (v := (0)) hx hb dX8_isOpen_42 (by decide) ?_
            have ecl : (v8).toNatClampNeg = clN a0 a1 := by have z0 := tn (i := v8) (by omega); have z1 := tn (i := a0) (by omega); have z2 := tn (i := a1) (by omega); unfold clN; omega
            exact m_zret hx hb hr rfl hlocks hM hS (Nat.le_of_ble_eq_true rfl) (Nat.le_of_ble_eq_true rfl) ⟨rfl, (Bo.n (fun hh => by have h2 := hh.2; rw [← ecl] at h2; omega))⟩ dX8_isOpen_43
          · have hc9 := c9
            have q9 := q_eq hc9
            refine lv_iconst (v := (1)) hx hb dX8_isOpen_38 (by decide) ?_
            refine lv_goto (tgt := 43) hx hb dX8_isOpen_39 (by decide) ?_
            have ecl : (v8).toNatClampNeg = clN a0 a1 := by have z0 := tn (i := v8) (by omega); have z1 := tn (i := a0) (by omega); have z2 := tn (i := a1) (by omega); unfold clN; omega
            exact m_zret hx hb hr rfl hlocks hM hS (Nat.le_of_ble_eq_true rfl) (Nat.le_of_ble_eq_true rfl) ⟨rfl, (Bo.y ⟨by omega, by rw [← ecl]; omega⟩)⟩ dX8_isOpen_43
set_option maxHeartbeats 4000000 in
set_option maxRecDepth 20000 in
theorem V_X8_isWhole_110_l (l : Launch) (D : va_G) (A : Nat → Prop) (ad : Nat → Nat) (ns : List Nat) (I : MI) (L : ML) (G : MG) (a0 : Int32) (hG : SGC ns G) (hI : INV I) (ha0 : 0 ≤ a0.toInt ∧ a0.toInt ≤ 23) : Met l yX8_isWhole (wd yX8_isWhole cX8_isWhole 2 (some .boolean)) ({ frames := 0, cells := 0, slots := 0, locals := 0 }) (va_Pc [.ref (ad (110)), .int a0] (PM D A ad ns I L G)) (va_Qi (fun r u => u = (ad, ns, I, L, G) ∧ (Bo r ((I 117 (192 + (a0).toNatClampNeg)).toInt = 0))) (BM D A) A) 0 0 A := by
  refine m_ofW (by decide) (Nat.le_of_ble_eq_true rfl) ?_
  intro p e s m below meth c ls args hC hE hM hA hS hl
  obtain ⟨hx, hb, hml, hown, hts, hr, hlocks, hin⟩ := hC
  have k0 : (0 : Int32).toInt = 0 := by decide
  have k1 : (1 : Int32).toInt = 1 := by decide
  have k192 : (192 : Int32).toInt = 192 := by decide
  have hl : lv_has ls 2 [(0, .ref (ad (110))), (1, .int (a0))] := hl
  refine lv_aload_n hx hb dX8_isWhole_0 rfl (lv_at hl 0 rfl) ?_
  refine m_getr (110) 16 (117) hx hb hts hown hE oc8 hM (hG.1 110 (by decide)) rfl (by decide) rfl (hG.2 (110, 16, 117) (by decide)) (by decide) tb_82 dX8_isWhole_1 ?_
  refine lv_sipush (v := (192)) hx hb dX8_isWhole_4 (by decide) ?_
  refine lv_iload_n hx hb dX8_isWhole_7 rfl (lv_at hl 1 rfl) ?_
  refine lv_iadd hx hb dX8_isWhole_8 ?_
  refine lv_topi (fun v1 ev1 => ?_)
  have tv1 := a_add ev1 (by omega) (by omega)
  refine m_iald (117) hx hb hE hM (hG.1 117 (by decide)) rfl (vp_in_iff.mpr (by omega)) dX8_isWhole_9 ?_
  refine lv_if_ne (tgt := 17) hx hb dX8_isWhole_10 (by decide) (fun c2 => ?_) (fun c2 => ?_)
  · have hc2 := c2
    have q2 := q_ne hc2
    refine lv_iconst (v := (0)) hx hb dX8_isWhole_17 (by decide) ?_
    have ec3 : (v1).toNatClampNeg = 192 + (a0).toNatClampNeg := by have z1 := tn (i := a0) (by omega); have z0 := tn (i := v1) (by omega); omega
    exact m_zret hx hb hr rfl hlocks hM hS (Nat.le_of_ble_eq_true rfl) (Nat.le_of_ble_eq_true rfl) ⟨rfl, (by rw [← ec3]; exact Bo.n (by omega))⟩ dX8_isWhole_18
  · have hc2 := c2
    have q2 := q_eq hc2
    refine lv_iconst (v := (1)) hx hb dX8_isWhole_13 (by decide) ?_
    refine lv_goto (tgt := 18) hx hb dX8_isWhole_14 (by decide) ?_
    have ec4 : (v1).toNatClampNeg = 192 + (a0).toNatClampNeg := by have z1 := tn (i := a0) (by omega); have z0 := tn (i := v1) (by omega); omega
    exact m_zret hx hb hr rfl hlocks hM hS (Nat.le_of_ble_eq_true rfl) (Nat.le_of_ble_eq_true rfl) ⟨rfl, (by rw [← ec4]; exact Bo.y (by omega))⟩ dX8_isWhole_18
set_option maxHeartbeats 4000000 in
set_option maxRecDepth 20000 in
theorem V_X8_lossOf_110_l (l : Launch) (D : va_G) (A : Nat → Prop) (ad : Nat → Nat) (ns : List Nat) (I : MI) (L : ML) (G : MG) (a0 : Int32) (hG : SGC ns G) (hI : INV I) (ha0 : 0 ≤ a0.toInt ∧ a0.toInt ≤ 23) : Met l yX8_lossOf (wd yX8_lossOf cX8_lossOf 3 (some .int)) ({ frames := 0, cells := 0, slots := 0, locals := 0 }) (va_Pc [.ref (ad (110)), .int a0] (PM D A ad ns I L G)) (va_Qi (fun r u => u = (ad, ns, I, L, G) ∧ (r = lsT (twC 110 I) (a0).toNatClampNeg)) (BM D A) A) 0 0 A := by
  refine m_ofW (by decide) (Nat.le_of_ble_eq_true rfl) ?_
  intro p e s m below meth c ls args hC hE hM hA hS hl
  obtain ⟨hx, hb, hml, hown, hts, hr, hlocks, hin⟩ := hC
  have k0 : (0 : Int32).toInt = 0 := by decide
  have k72 : (72 : Int32).toInt = 72 := by decide
  have k168 : (168 : Int32).toInt = 168 := by decide
  have k1000 : (1000 : Int32).toInt = 1000 := by decide
  have hl : lv_has ls 3 [(0, .ref (ad (110))), (1, .int (a0))] := hl
  refine lv_aload_n hx hb dX8_lossOf_0 rfl (lv_at hl 0 rfl) ?_
  refine m_getr (110) 16 (117) hx hb hts hown hE oc8 hM (hG.1 110 (by decide)) rfl (by decide) rfl (hG.2 (110, 16, 117) (by decide)) (by decide) tb_82 dX8_lossOf_1 ?_
  refine lv_bipush (v := (72)) hx hb dX8_lossOf_4 (by decide) ?_
  refine lv_iload_n hx hb dX8_lossOf_6 rfl (lv_at hl 1 rfl) ?_
  refine lv_iadd hx hb dX8_lossOf_7 ?_
  refine lv_topi (fun v1 ev1 => ?_)
  have tv1 := a_add ev1 (by omega) (by omega)
  refine m_iald (117) hx hb hE hM (hG.1 117 (by decide)) rfl (vp_in_iff.mpr (by omega)) dX8_lossOf_8 ?_
  refine lv_aload_n hx hb dX8_lossOf_9 rfl (lv_at hl 0 rfl) ?_
  refine m_getr (110) 16 (117) hx hb hts hown hE oc8 hM (hG.1 110 (by decide)) rfl (by decide) rfl (hG.2 (110, 16, 117) (by decide)) (by decide) tb_82 dX8_lossOf_10 ?_
  refine lv_sipush (v := (168)) hx hb dX8_lossOf_13 (by decide) ?_
  refine lv_iload_n hx hb dX8_lossOf_16 rfl (lv_at hl 1 rfl) ?_
  refine lv_iadd hx hb dX8_lossOf_17 ?_
  refine lv_topi (fun v2 ev2 => ?_)
  have tv2 := a_add ev2 (by omega) (by omega)
  refine m_iald (117) hx hb hE hM (hG.1 117 (by decide)) rfl (vp_in_iff.mpr (by omega)) dX8_lossOf_18 ?_
  refine lv_iadd hx hb dX8_lossOf_19 ?_
  refine lv_topi (fun v3 ev3 => ?_)
  refine lv_istore_n (lv' := [(2, .int (v3)), (0, .ref (ad (110))), (1, .int (a0))]) hx hb dX8_lossOf_20 rfl hl (by decide) rfl (fun ls hl => ?_)
  refine lv_iload_n hx hb dX8_lossOf_21 rfl (lv_at hl 0 rfl) ?_
  refine lv_sipush (v := (1000)) hx hb dX8_lossOf_22 (by decide) ?_
  refine lv_icmp_ge (tgt := 32) hx hb dX8_lossOf_25 (by decide) (fun c4 => ?_) (fun c4 => ?_)
  · have hc4 := c4
    have q4 := q_le hc4
    refine lv_sipush (v := (1000)) hx hb dX8_lossOf_32 (by decide) ?_
    have ec5 : (v1).toNatClampNeg = 72 + (a0).toNatClampNeg := by have z1 := tn (i := a0) (by omega); have z0 := tn (i := v1) (by omega); omega
    have ec6 : (v2).toNatClampNeg = 168 + (a0).toNatClampNeg := by have z1 := tn (i := a0) (by omega); have z0 := tn (i := v2) (by omega); omega
    have hsv : v3 = I 117 (72 + (a0).toNatClampNeg) + I 117 (168 + (a0).toNatClampNeg) := by rw [← ec5, ← ec6]; exact ev3
    exact m_iret hx hb hr hlocks hM hS (Nat.le_of_ble_eq_true rfl) (Nat.le_of_ble_eq_true rfl) ⟨rfl, (by show _ = if (I 117 (72 + (a0).toNatClampNeg) + I 117 (168 + (a0).toNatClampNeg)).toInt < 1000 then I 117 (72 + (a0).toNatClampNeg) + I 117 (168 + (a0).toNatClampNeg) else 1000; rw [← hsv]; rw [if_neg (by omega)])⟩ dX8_lossOf_35
  · have hc4 := c4
    have q4 := q_nle hc4
    refine lv_iload_n hx hb dX8_lossOf_28 rfl (lv_at hl 0 rfl) ?_
    refine lv_goto (tgt := 35) hx hb dX8_lossOf_29 (by decide) ?_
    have ec7 : (v1).toNatClampNeg = 72 + (a0).toNatClampNeg := by have z1 := tn (i := a0) (by omega); have z0 := tn (i := v1) (by omega); omega
    have ec8 : (v2).toNatClampNeg = 168 + (a0).toNatClampNeg := by have z1 := tn (i := a0) (by omega); have z0 := tn (i := v2) (by omega); omega
    have hsv : v3 = I 117 (72 + (a0).toNatClampNeg) + I 117 (168 + (a0).toNatClampNeg) := by rw [← ec7, ← ec8]; exact ev3
    exact m_iret hx hb hr hlocks hM hS (Nat.le_of_ble_eq_true rfl) (Nat.le_of_ble_eq_true rfl) ⟨rfl, (by show _ = if (I 117 (72 + (a0).toNatClampNeg) + I 117 (168 + (a0).toNatClampNeg)).toInt < 1000 then I 117 (72 + (a0).toNatClampNeg) + I 117 (168 + (a0).toNatClampNeg) else 1000; rw [← hsv]; rw [if_pos (by omega)])⟩ dX8_lossOf_35
set_option maxHeartbeats 4000000 in
set_option maxRecDepth 20000 in
theorem V_X8_wayFrom_110_l (l : Launch) (D : va_G) (A : Nat → Prop) (ad : Nat → Nat) (ns : List Nat) (I : MI) (L : ML) (G : MG) (a0 : Int32) (a1 : Int32) (hG : SGC ns G) (hI : INV I) (ha0 : 0 ≤ a0.toInt ∧ a0.toInt ≤ 23) : Met l yX8_wayFrom (wd yX8_wayFrom cX8_wayFrom 3 (some .int)) ({ frames := 0, cells := 0, slots := 0, locals := 0 }) (va_Pc [.ref (ad (110)), .int a0, .int a1] (PM D A ad ns I L G)) (va_Qi (fun r u => u = (ad, ns, I, L, G) ∧ (r = mirW (twC 110 I) a0 a1 ∧ 0 ≤ r.toInt ∧ r.toInt ≤ 7)) (BM D A) A) 0 0 A := by
  refine m_ofW (by decide) (Nat.le_of_ble_eq_true rfl) ?_
  intro p e s m below meth c ls args hC hE hM hA hS hl
  obtain ⟨hx, hb, hml, hown, hts, hr, hlocks, hin⟩ := hC
  have k0 : (0 : Int32).toInt = 0 := by decide
  have k7 : (7 : Int32).toInt = 7 := by decide
  have k48 : (48 : Int32).toInt = 48 := by decide
  have hl : lv_has ls 3 [(0, .ref (ad (110))), (1, .int (a0)), (2, .int (a1))] := hl
  refine lv_aload_n hx hb dX8_wayFrom_0 rfl (lv_at hl 0 rfl) ?_
  refine m_getr (110) 16 (117) hx hb hts hown hE oc8 hM (hG.1 110 (by decide)) rfl (by decide) rfl (hG.2 (110, 16, 117) (by decide)) (by decide) tb_82 dX8_wayFrom_1 ?_
  refine lv_bipush (v := (48)) hx hb dX8_wayFrom_4 (by decide) ?_
  refine lv_iload_n hx hb dX8_wayFrom_6 rfl (lv_at hl 1 rfl) ?_
  refine lv_iadd hx hb dX8_wayFrom_7 ?_
  refine lv_topi (fun v1 ev1 => ?_)
  have tv1 := a_add ev1 (by omega) (by omega)
  refine m_iald (117) hx hb hE hM (hG.1 117 (by decide)) rfl (vp_in_iff.mpr (by omega)) dX8_wayFrom_8 ?_
  refine lv_iload_n hx hb dX8_wayFrom_9 rfl (lv_at hl 2 rfl) ?_
  refine lv_isub hx hb dX8_wayFrom_10 ?_
  refine lv_topi (fun v2 ev2 => ?_)
  refine lv_bipush (v := (7)) hx hb dX8_wayFrom_11 (by decide) ?_
  refine lv_iand hx hb dX8_wayFrom_13 ?_
  refine lv_topi (fun v3 ev3 => ?_)
  have tv3 := a_and (c := 7) ev3 (by decide) (by decide)
  have ec4 : (v1).toNatClampNeg = 48 + (a0).toNatClampNeg := by have z1 := tn (i := a0) (by omega); have z0 := tn (i := v1) (by omega); omega
  exact m_iret hx hb hr hlocks hM hS (Nat.le_of_ble_eq_true rfl) (Nat.le_of_ble_eq_true rfl) ⟨rfl, ⟨by show _ = (I 117 (48 + (a0).toNatClampNeg) - a1) &&& 7; rw [← ec4, ← ev2, ← ev3], by omega, by omega⟩⟩ dX8_wayFrom_14
set_option maxHeartbeats 4000000 in
set_option maxRecDepth 20000 in
theorem V_X8_ofMirror_110_l (l : Launch) (D : va_G) (A : Nat → Prop) (ad : Nat → Nat) (ns : List Nat) (I : MI) (L : ML) (G : MG) (a0 : Int32) (a1 : Int32) (hG : SGC ns G) (hI : INV I) (ha0 : 0 ≤ a0.toInt ∧ a0.toInt ≤ 23) (ha1 : 0 ≤ a1.toInt ∧ a1.toInt ≤ 9) : Met l yX8_ofMirror (wd yX8_ofMirror cX8_ofMirror 3 (some .int)) ({ frames := 0, cells := 0, slots := 0, locals := 0 }) (va_Pc [.ref (ad (110)), .int a0, .int a1] (PM D A ad ns I L G)) (va_Qi (fun r u => u = (ad, ns, I, L, G) ∧ (r = I 117 (24 * (a1).toNatClampNeg + (a0).toNatClampNeg))) (BM D A) A) 0 0 A := by
  refine m_ofW (by decide) (Nat.le_of_ble_eq_true rfl) ?_
  intro p e s m below meth c ls args hC hE hM hA hS hl
  obtain ⟨hx, hb, hml, hown, hts, hr, hlocks, hin⟩ := hC
  have k0 : (0 : Int32).toInt = 0 := by decide
  have k24 : (24 : Int32).toInt = 24 := by decide
  have hl : lv_has ls 3 [(0, .ref (ad (110))), (1, .int (a0)), (2, .int (a1))] := hl
  refine lv_aload_n hx hb dX8_ofMirror_0 rfl (lv_at hl 0 rfl) ?_
  refine m_getr (110) 16 (117) hx hb hts hown hE oc8 hM (hG.1 110 (by decide)) rfl (by decide) rfl (hG.2 (110, 16, 117) (by decide)) (by decide) tb_82 dX8_ofMirror_1 ?_
  refine lv_iload_n hx hb dX8_ofMirror_4 rfl (lv_at hl 2 rfl) ?_
  refine lv_bipush (v := (24)) hx hb dX8_ofMirror_5 (by decide) ?_
  refine lv_imul hx hb dX8_ofMirror_7 ?_
  refine lv_topi (fun v1 ev1 => ?_)
  have tv1 := a_mulR (c := 24) ev1 (by decide) (by omega) (by omega)
  refine lv_iload_n hx hb dX8_ofMirror_8 rfl (lv_at hl 1 rfl) ?_
  refine lv_iadd hx hb dX8_ofMirror_9 ?_
  refine lv_topi (fun v2 ev2 => ?_)
  have tv2 := a_add ev2 (by omega) (by omega)
  refine m_iald (117) hx hb hE hM (hG.1 117 (by decide)) rfl (vp_in_iff.mpr (by omega)) dX8_ofMirror_10 ?_
  have ec3 : (v2).toNatClampNeg = 24 * (a1).toNatClampNeg + (a0).toNatClampNeg := by have z1 := tn (i := a0) (by omega); have z2 := tn (i := a1) (by omega); have z0 := tn (i := v2) (by omega); omega
  exact m_iret hx hb hr hlocks hM hS (Nat.le_of_ble_eq_true rfl) (Nat.le_of_ble_eq_true rfl) ⟨rfl, (by rw [← ec3])⟩ dX8_ofMirror_11
set_option maxHeartbeats 4000000 in
set_option maxRecDepth 20000 in
theorem V_X8_ofYard_110_l (l : Launch) (D : va_G) (A : Nat → Prop) (ad : Nat → Nat) (ns : List Nat) (I : MI) (L : ML) (G : MG) (a0 : Int32) (a1 : Int32) (hG : SGC ns G) (hI : INV I) (ha0 : 0 ≤ a0.toInt ∧ a0.toInt ≤ 7) (ha1 : 0 ≤ a1.toInt ∧ a1.toInt ≤ 6) : Met l yX8_ofYard (wd yX8_ofYard cX8_ofYard 3 (some .int)) ({ frames := 0, cells := 0, slots := 0, locals := 0 }) (va_Pc [.ref (ad (110)), .int a0, .int a1] (PM D A ad ns I L G)) (va_Qi (fun r u => u = (ad, ns, I, L, G) ∧ (r = I 118 (8 * (a1).toNatClampNeg + (a0).toNatClampNeg))) (BM D A) A) 0 0 A := by
  refine m_ofW (by decide) (Nat.le_of_ble_eq_true rfl) ?_
  intro p e s m below meth c ls args hC hE hM hA hS hl
  obtain ⟨hx, hb, hml, hown, hts, hr, hlocks, hin⟩ := hC
  have k0 : (0 : Int32).toInt = 0 := by decide
  have k8 : (8 : Int32).toInt = 8 := by decide
  have hl : lv_has ls 3 [(0, .ref (ad (110))), (1, .int (a0)), (2, .int (a1))] := hl
  refine lv_aload_n hx hb dX8_ofYard_0 rfl (lv_at hl 0 rfl) ?_
  refine m_getr (110) 17 (118) hx hb hts hown hE oc8 hM (hG.1 110 (by decide)) rfl (by decide) rfl (hG.2 (110, 17, 118) (by decide)) (by decide) tb_83 dX8_ofYard_1 ?_
  refine lv_iload_n hx hb dX8_ofYard_4 rfl (lv_at hl 2 rfl) ?_
  refine lv_bipush (v := (8)) hx hb dX8_ofYard_5 (by decide) ?_
  refine lv_imul hx hb dX8_ofYard_7 ?_
  refine lv_topi (fun v1 ev1 => ?_)
  have tv1 := a_mulR (c := 8) ev1 (by decide) (by omega) (by omega)
  refine lv_iload_n hx hb dX8_ofYard_8 rfl (lv_at hl 1 rfl) ?_
  refine lv_iadd hx hb dX8_ofYard_9 ?_
  refine lv_topi (fun v2 ev2 => ?_)
  have tv2 := a_add ev2 (by omega) (by omega)
  refine m_iald (118) hx hb hE hM (hG.1 118 (by decide)) rfl (vp_in_iff.mpr (by omega)) dX8_ofYard_10 ?_
  have ec3 : (v2).toNatClampNeg = 8 * (a1).toNatClampNeg + (a0).toNatClampNeg := by have z1 := tn (i := a0) (by omega); have z2 := tn (i := a1) (by omega); have z0 := tn (i := v2) (by omega); omega
  exact m_iret hx hb hr hlocks hM hS (Nat.le_of_ble_eq_true rfl) (Nat.le_of_ble_eq_true rfl) ⟨rfl, (by rw [← ec3])⟩ dX8_ofYard_11
set_option maxHeartbeats 4000000 in
set_option maxRecDepth 20000 in
theorem V_X8_strengthOf_110_l (l : Launch) (D : va_G) (A : Nat → Prop) (ad : Nat → Nat) (ns : List Nat) (I : MI) (L : ML) (G : MG) (a0 : Int32) (hG : SGC ns G) (hI : INV I) (ha0 : 0 ≤ a0.toInt ∧ a0.toInt ≤ 23) : Met l yX8_strengthOf (wd yX8_strengthOf cX8_strengthOf 2 (some .int)) ({ frames := 0, cells := 0, slots := 0, locals := 0 }) (va_Pc [.ref (ad (110)), .int a0] (PM D A ad ns I L G)) (va_Qi (fun r u => u = (ad, ns, I, L, G) ∧ (r = I 116 (I 110 5 * 24 + a0).toNatClampNeg)) (BM D A) A) 0 0 A := by
  refine m_ofW (by decide) (Nat.le_of_ble_eq_true rfl) ?_
  intro p e s m below meth c ls args hC hE hM hA hS hl
  obtain ⟨hx, hb, hml, hown, hts, hr, hlocks, hin⟩ := hC
  have k0 : (0 : Int32).toInt = 0 := by decide
  have k24 : (24 : Int32).toInt = 24 := by decide
  have hl : lv_has ls 2 [(0, .ref (ad (110))), (1, .int (a0))] := hl
  refine lv_aload_n hx hb dX8_strengthOf_0 rfl (lv_at hl 0 rfl) ?_
  refine m_getr (110) 15 (116) hx hb hts hown hE oc8 hM (hG.1 110 (by decide)) rfl (by decide) rfl (hG.2 (110, 15, 116) (by decide)) (by decide) tb_80 dX8_strengthOf_1 ?_
  refine lv_aload_n hx hb dX8_strengthOf_4 rfl (lv_at hl 0 rfl) ?_
  refine m_geti (110) 5 hx hb hts hown hE oc8 hM (hG.1 110 (by decide)) rfl (by decide) rfl tb_51 dX8_strengthOf_5 ?_
  have g1 := hI.get (110) 5 (lo := 0) (hi := 11) rfl
  refine lv_bipush (v := (24)) hx hb dX8_strengthOf_8 (by decide) ?_
  refine lv_imul hx hb dX8_strengthOf_10 ?_
  refine lv_topi (fun v2 ev2 => ?_)
  have tv2 := a_mulR (c := 24) ev2 (by decide) (by omega) (by omega)
  refine lv_iload_n hx hb dX8_strengthOf_11 rfl (lv_at hl 1 rfl) ?_
  refine lv_iadd hx hb dX8_strengthOf_12 ?_
  refine lv_topi (fun v3 ev3 => ?_)
  have tv3 := a_add ev3 (by omega) (by omega)
  refine m_iald (116) hx hb hE hM (hG.1 116 (by decide)) rfl (vp_in_iff.mpr (by omega)) dX8_strengthOf_13 ?_
  exact m_iret hx hb hr hlocks hM hS (Nat.le_of_ble_eq_true rfl) (Nat.le_of_ble_eq_true rfl) ⟨rfl, (by subst ev2; subst ev3; rfl)⟩ dX8_strengthOf_14
set_option maxHeartbeats 4000000 in
set_option maxRecDepth 20000 in
theorem V_X1_passAir_110_l (l : Launch) (D : va_G) (A : Nat → Prop) (ad : Nat → Nat) (ns : List Nat) (I : MI) (L : ML) (G : MG) (a0 : Int32) (a1 : Int32) (hG : SGC ns G) (hI : INV I) (ha0 : 0 ≤ a0.toInt ∧ a0.toInt ≤ 575) : Met l yX1_passAir (wd yX1_passAir cX1_passAir 6 (some .int)) ({ frames := 1, cells := 0, slots := 0, locals := 21 }) (va_Pc [.ref (ad (10)), .ref (ad (110)), .int a0, .int a1] (PM D A ad ns I L G)) (va_Qi (fun r u => ∃ I2 L2, u = (ad, ns, I2, L2, G) ∧ INV I2 ∧ Kp [(12, 13)] [(10, 2)] I I2 ∧ (r = airL (twC 110 I) a1 ∧ AIX (twC 110 I) (a0).toNatClampNeg a1 I I2)) (BM D A) A) 0 0 A := by
  refine m_ofW (by decide) (Nat.le_of_ble_eq_true rfl) ?_
  intro p e s m below meth c ls args hC hE hM hA hS hl
  obtain ⟨hx, hb, hml, hown, hts, hr, hlocks, hin⟩ := hC
  have k0 : (0 : Int32).toInt = 0 := by decide
  have hK : Kp [(12, 13)] [(10, 2)] I I := Kp.rf
  have hl : lv_has ls 6 [(0, .ref (ad (10))), (1, .ref (ad (110))), (2, .int (a0)), (3, .int (a1))] := hl
  refine lv_iload_n hx hb dX1_passAir_0 rfl (lv_at hl 3 rfl) ?_
  refine lv_aload_n hx hb dX1_passAir_1 rfl (lv_at hl 1 rfl) ?_
  refine m_geti (110) 4 hx hb hts hown hE oc8 hM (hG.1 110 (by decide)) rfl (by decide) rfl tb_50 dX1_passAir_2 ?_
  refine m_calli (m_runSN (As := [.int (a1), .int (I (110) 4)]) (rest := []) hx hb hml hown hts hE hM hS hA ce_X9_shareOf (List.mem_of_getElem? (i := 8) rfl) (V_X9_shareOf_l l D A ad ns I L G (a1) (I (110) 4) hI) rfl rfl ⟨Nat.le_of_ble_eq_true rfl, Nat.le_of_ble_eq_true rfl⟩  rfl hl.1 rfl (Nat.le_of_ble_eq_true rfl) dX1_passAir_5 ⟨Nat.le_of_ble_eq_true rfl, Nat.le_of_ble_eq_true rfl⟩) hS (fun r1 u H locs hw hM hS => ?_)
  obtain ⟨rfl, xr1⟩ := hw
  have hM : Mem D A ad ns I L G H := hM
  refine lv_istore (lv' := [(4, .int (r1)), (0, .ref (ad (10))), (1, .ref (ad (110))), (2, .int (a0)), (3, .int (a1))]) hx hb dX1_passAir_8 hl (by decide) rfl (fun ls hl => ?_)
  refine lv_iload_n hx hb dX1_passAir_10 rfl (lv_at hl 4 rfl) ?_
  refine lv_iload hx hb dX1_passAir_11 (lv_at hl 0 rfl) ?_
  refine lv_isub hx hb dX1_passAir_13 ?_
  refine lv_topi (fun v2 ev2 => ?_)
  refine lv_istore (lv' := [(5, .int (v2)), (4, .int (r1)), (0, .ref (ad (10))), (1, .ref (ad (110))), (2, .int (a0)), (3, .int (a1))]) hx hb dX1_passAir_14 hl (by decide) rfl (fun ls hl => ?_)
  refine lv_aload_n hx hb dX1_passAir_16 rfl (lv_at hl 2 rfl) ?_
  refine lv_dup hx hb dX1_passAir_17 rfl ?_
  refine m_geti (10) 2 hx hb hts hown hE oc1 hM (hG.1 10 (by decide)) rfl (by decide) rfl tb_136 dX1_passAir_18 ?_
  refine lv_iload hx hb dX1_passAir_21 (lv_at hl 1 rfl) ?_
  refine lv_iadd hx hb dX1_passAir_23 ?_
  refine lv_topi (fun v3 ev3 => ?_)
  refine m_puti (10) 2 hx hb hts hown hE oc1 hM hS (hG.1 10 (by decide)) rfl (by decide) rfl rfl rfl rfl tb_136 dX1_passAir_24 (fun H locs I4 eI4 hM hS => ?_)
  subst eI4
  have hI := hI.putF (n := 10) (k := 2) (v := v3) rfl
  have hK := hK.put (n := 10) (k := 2) (v := v3) (by first | rfl | simp [inR])
  refine lv_aload_n hx hb dX1_passAir_27 rfl (lv_at hl 2 rfl) ?_
  refine m_geti (10) 8 hx hb hts hown hE oc1 hM (hG.1 10 (by decide)) rfl (by decide) rfl tb_147 dX1_passAir_28 ?_
  have g5 := hI.get (10) 8 (lo := 0) (hi := 1) rfl
  have z6 : (u2 I (10) 2 (v3)) (10) 8 = I (10) 8 := (show (u2 I (10) 2 (v3)) (10) 8 = I (10) 8 from by simp [u2_v])
  rw [z6] at g5 ⊢
  refine lv_if_eq (tgt := 53) hx hb dX1_passAir_31 (by decide) (fun c7 => ?_) (fun c7 => ?_)
  · have hc7 := c7
    have q7 := q_eq hc7
    refine lv_iload hx hb dX1_passAir_53 (lv_at hl 0 rfl) ?_
    exact m_iret hx hb hr hlocks hM hS (Nat.le_of_ble_eq_true rfl) (Nat.le_of_ble_eq_true rfl) ⟨_, _, rfl, hI, hK, (by subst xr1; subst ev2; subst ev3; exact ⟨rfl, AIX.n (by omega)⟩)⟩ dX1_passAir_55
  · have hc7 := c7
    have q7 := q_ne hc7
    refine lv_aload_n hx hb dX1_passAir_34 rfl (lv_at hl 2 rfl) ?_
    refine m_getr (10) 1 (12) hx hb hts hown hE oc1 hM (hG.1 10 (by decide)) rfl (by decide) rfl (hG.2 (10, 1, 12) (by decide)) (by decide) tb_134 dX1_passAir_35 ?_
    refine lv_iload_n hx hb dX1_passAir_38 rfl (lv_at hl 4 rfl) ?_
    refine m_iald (12) hx hb hE hM (hG.1 12 (by decide)) rfl (vp_in_iff.mpr (by omega)) dX1_passAir_39 ?_
    have z8 : (u2 I (10) 2 (v3)) (12) (a0).toNatClampNeg = I (12) ((a0).toNatClampNeg) := (show (u2 I (10) 2 (v3)) (12) ((a0).toNatClampNeg) = I (12) ((a0).toNatClampNeg) from by simp [u2_v])
    rw [z8]
    refine lv_iload hx hb dX1_passAir_40 (lv_at hl 0 rfl) ?_
    refine lv_icmp_ge (tgt := 53) hx hb dX1_passAir_42 (by decide) (fun c9 => ?_) (fun c9 => ?_)
    · have hc9 := c9
      have q9 := q_le hc9
      refine lv_iload hx hb dX1_passAir_53 (lv_at hl 0 rfl) ?_
      exact m_iret hx hb hr hlocks hM hS (Nat.le_of_ble_eq_true rfl) (Nat.le_of_ble_eq_true rfl) ⟨_, _, rfl, hI, hK, (by subst xr1; subst ev2; subst ev3; exact ⟨rfl, AIX.s (by have z := tn (i := a0) (by omega); omega) (by omega) (show ¬ (I 12 (a0).toNatClampNeg).toInt < (a1 - shr a1 (I 110 4)).toInt from by omega)⟩)⟩ dX1_passAir_55
    · have hc9 := c9
      have q9 := q_nle hc9
      refine lv_aload_n hx hb dX1_passAir_45 rfl (lv_at hl 2 rfl) ?_
      refine m_getr (10) 1 (12) hx hb hts hown hE oc1 hM (hG.1 10 (by decide)) rfl (by decide) rfl (hG.2 (10, 1, 12) (by decide)) (by decide) tb_134 dX1_passAir_46 ?_
      refine lv_iload_n hx hb dX1_passAir_49 rfl (lv_at hl 4 rfl) ?_
      refine lv_iload hx hb dX1_passAir_50 (lv_at hl 0 rfl) ?_
      refine m_iast (12) hx hb hE hM hS (hG.1 12 (by decide)) rfl (vp_in_iff.mpr (by omega)) dX1_passAir_52 (fun H locs I10 eI10 hM hS => ?_)
      subst eI10
      have hI := hI.putF (n := 12) (k := ((a0).toNatClampNeg)) (v := v2) rfl
      have hK := hK.put (n := 12) (k := ((a0).toNatClampNeg)) (v := v2) (by first | rfl | simp [inR])
      refine lv_iload hx hb dX1_passAir_53 (lv_at hl 0 rfl) ?_
      exact m_iret hx hb hr hlocks hM hS (Nat.le_of_ble_eq_true rfl) (Nat.le_of_ble_eq_true rfl) ⟨_, _, rfl, hI, hK, (by subst xr1; subst ev2; subst ev3; exact ⟨rfl, AIX.y (by have z := tn (i := a0) (by omega); omega) (by omega) (show (I 12 (a0).toNatClampNeg).toInt < (a1 - shr a1 (I 110 4)).toInt from by omega)⟩)⟩ dX1_passAir_55
set_option maxHeartbeats 4000000 in
set_option maxRecDepth 20000 in
theorem V_X1_passYard_110_l (l : Launch) (D : va_G) (A : Nat → Prop) (ad : Nat → Nat) (ns : List Nat) (I : MI) (L : ML) (G : MG) (a0 : Int32) (a1 : Int32) (hG : SGC ns G) (hI : INV I) (ha0 : 0 ≤ a0.toInt ∧ a0.toInt ≤ 7) : Met l yX1_passYard (wd yX1_passYard cX1_passYard 5 (some .int)) ({ frames := 1, cells := 0, slots := 0, locals := 22 }) (va_Pc [.ref (ad (10)), .ref (ad (110)), .int a0, .int a1] (PM D A ad ns I L G)) (va_Qi (fun r u => ∃ I2 L2, u = (ad, ns, I2, L2, G) ∧ INV I2 ∧ Kp [(11, 12)] [] I I2 ∧ (r = a1 - (shr a1 (I 118 (16 + (a0).toNatClampNeg))) ∧ YDX2 (a0).toNatClampNeg (shr a1 (I 118 (16 + (a0).toNatClampNeg))) I I2)) (BM D A) A) 0 0 A := by
  refine m_ofW (by decide) (Nat.le_of_ble_eq_true rfl) ?_
  intro p e s m below meth c ls args hC hE hM hA hS hl
  obtain ⟨hx, hb, hml, hown, hts, hr, hlocks, hin⟩ := hC
  have k0 : (0 : Int32).toInt = 0 := by decide
  have k2 : (2 : Int32).toInt = 2 := by decide
  have hK : Kp [(11, 12)] [] I I := Kp.rf
  have hl : lv_has ls 5 [(0, .ref (ad (10))), (1, .ref (ad (110))), (2, .int (a0)), (3, .int (a1))] := hl
  refine lv_iload_n hx hb dX1_passYard_0 rfl (lv_at hl 3 rfl) ?_
  refine lv_aload_n hx hb dX1_passYard_1 rfl (lv_at hl 1 rfl) ?_
  refine lv_iload_n hx hb dX1_passYard_2 rfl (lv_at hl 2 rfl) ?_
  refine lv_iconst (v := (2)) hx hb dX1_passYard_3 (by decide) ?_
  refine m_calli (m_runV (110) (As := [.int (a0), .int (2)]) (rest := [.int (a1)]) hx hb hml hown hts hE hM hS hA ce_X8_ofYard tb_834 (V_X8_ofYard_110_l l D A ad ns I L G (a0) (2) hG hI (by first | omega | decide) (by first | omega | decide)) rfl rfl ⟨Nat.le_of_ble_eq_true rfl, Nat.le_of_ble_eq_true rfl⟩ (hG.1 110 (by decide)) rfl rfl (by decide) rfl hl.1 rfl (Nat.le_of_ble_eq_true rfl) dX1_passYard_4 ⟨Nat.le_of_ble_eq_true rfl, Nat.le_of_ble_eq_true rfl⟩) hS (fun r1 u H locs hw hM hS => ?_)
  obtain ⟨rfl, xr1⟩ := hw
  have hM : Mem D A ad ns I L G H := hM
  rw [show (2 : Int32).toNatClampNeg = 2 from rfl, show 8 * 2 = 16 from rfl] at xr1
  refine m_calli (m_runSN (As := [.int (a1), .int (r1)]) (rest := []) hx hb hml hown hts hE hM hS hA ce_X9_shareOf (List.mem_of_getElem? (i := 8) rfl) (V_X9_shareOf_l l D A ad ns I L G (a1) (r1) hI) rfl rfl ⟨Nat.le_of_ble_eq_true rfl, Nat.le_of_ble_eq_true rfl⟩  rfl hl.1 rfl (Nat.le_of_ble_eq_true rfl) dX1_passYard_7 ⟨Nat.le_of_ble_eq_true rfl, Nat.le_of_ble_eq_true rfl⟩) hS (fun r2 u H locs hw hM hS => ?_)
  obtain ⟨rfl, xr2⟩ := hw
  have hM : Mem D A ad ns I L G H := hM
  refine lv_istore (lv' := [(4, .int (r2)), (0, .ref (ad (10))), (1, .ref (ad (110))), (2, .int (a0)), (3, .int (a1))]) hx hb dX1_passYard_10 hl (by decide) rfl (fun ls hl => ?_)
  refine lv_aload_n hx hb dX1_passYard_12 rfl (lv_at hl 1 rfl) ?_
  refine m_getr (10) 0 (11) hx hb hts hown hE oc1 hM (hG.1 10 (by decide)) rfl (by decide) rfl (hG.2 (10, 0, 11) (by decide)) (by decide) tb_129 dX1_passYard_13 ?_
  refine lv_iload_n hx hb dX1_passYard_16 rfl (lv_at hl 3 rfl) ?_
  refine lv_dup2_11 hx hb dX1_passYard_17 rfl rfl ?_
  refine m_iald (11) hx hb hE hM (hG.1 11 (by decide)) rfl (vp_in_iff.mpr (by omega)) dX1_passYard_18 ?_
  refine lv_iload hx hb dX1_passYard_19 (lv_at hl 0 rfl) ?_
  refine lv_iadd hx hb dX1_passYard_21 ?_
  refine lv_topi (fun v3 ev3 => ?_)
  refine m_iast (11) hx hb hE hM hS (hG.1 11 (by decide)) rfl (vp_in_iff.mpr (by omega)) dX1_passYard_22 (fun H locs I4 eI4 hM hS => ?_)
  subst eI4
  have hI := hI.putF (n := 11) (k := ((a0).toNatClampNeg)) (v := v3) rfl
  have hK := hK.put (n := 11) (k := ((a0).toNatClampNeg)) (v := v3) (by first | rfl | simp [inR])
  refine lv_iload_n hx hb dX1_passYard_23 rfl (lv_at hl 4 rfl) ?_
  refine lv_iload hx hb dX1_passYard_24 (lv_at hl 0 rfl) ?_
  refine lv_isub hx hb dX1_passYard_26 ?_
  refine lv_topi (fun v5 ev5 => ?_)
  exact m_iret hx hb hr hlocks hM hS (Nat.le_of_ble_eq_true rfl) (Nat.le_of_ble_eq_true rfl) ⟨_, _, rfl, hI, hK, (by subst xr1; subst xr2; subst ev3; subst ev5; exact ⟨rfl, fun S hS => hS.gets (by have z := tn (i := a0) (by omega); omega) _⟩)⟩ dX1_passYard_27
set_option maxHeartbeats 4000000 in
set_option maxRecDepth 20000 in
theorem V_X1_passMirror_110_l (l : Launch) (D : va_G) (A : Nat → Prop) (ad : Nat → Nat) (ns : List Nat) (I : MI) (L : ML) (G : MG) (a0 : Int32) (a1 : Int32) (a2 : Int32) (hG : SGC ns G) (hI : INV I) (ha0 : 0 ≤ a0.toInt ∧ a0.toInt ≤ 23) (ha1 : 0 ≤ a1.toInt ∧ a1.toInt ≤ 4607) : Met l yX1_passMirror (wd yX1_passMirror cX1_passMirror 7 (some .int)) ({ frames := 1, cells := 0, slots := 0, locals := 23 }) (va_Pc [.ref (ad (10)), .ref (ad (110)), .int a0, .int a1, .int a2] (PM D A ad ns I L G)) (va_Qi (fun r u => ∃ I2 L2, u = (ad, ns, I2, L2, G) ∧ INV I2 ∧ Kp [(13, 15)] [(10, 2), (10, 3), (10, 5), (10, 6), (10, 7), (10, 12)] I I2 ∧ (r = mirL (twC 110 I) a0 a2 ∧ MIX (twC 110 I) a0 a1 a2 I I2)) (BM D A) A) 0 0 A := by
  refine m_ofW (by decide) (Nat.le_of_ble_eq_true rfl) ?_
  intro p e s m below meth c ls args hC hE hM hA hS hl
  obtain ⟨hx, hb, hml, hown, hts, hr, hlocks, hin⟩ := hC
  have k0 : (0 : Int32).toInt = 0 := by decide
  have k1 : (1 : Int32).toInt = 1 := by decide
  have k4 : (4 : Int32).toInt = 4 := by decide
  have hK : Kp [(13, 15)] [(10, 2), (10, 3), (10, 5), (10, 6), (10, 7), (10, 12)] I I := Kp.rf
  have hl : lv_has ls 7 [(0, .ref (ad (10))), (1, .ref (ad (110))), (2, .int (a0)), (3, .int (a1)), (4, .int (a2))] := hl
  refine lv_aload_n hx hb dX1_passMirror_0 rfl (lv_at hl 0 rfl) ?_
  refine lv_dup hx hb dX1_passMirror_1 rfl ?_
  refine m_geti (10) 7 hx hb hts hown hE oc1 hM (hG.1 10 (by decide)) rfl (by decide) rfl tb_146 dX1_passMirror_2 ?_
  refine lv_iconst (v := (1)) hx hb dX1_passMirror_5 (by decide) ?_
  refine lv_iload_n hx hb dX1_passMirror_6 rfl (lv_at hl 2 rfl) ?_
  refine lv_ishl hx hb dX1_passMirror_7 ?_
  refine lv_topi (fun v1 ev1 => ?_)
  refine lv_ior hx hb dX1_passMirror_8 ?_
  refine lv_topi (fun v2 ev2 => ?_)
  refine m_puti (10) 7 hx hb hts hown hE oc1 hM hS (hG.1 10 (by decide)) rfl (by decide) rfl rfl rfl rfl tb_146 dX1_passMirror_9 (fun H locs I3 eI3 hM hS => ?_)
  subst eI3
  have hI := hI.putF (n := 10) (k := 7) (v := v2) rfl
  have hK := hK.put (n := 10) (k := 7) (v := v2) (by first | rfl | simp [inR])
  refine lv_iload hx hb dX1_passMirror_12 (lv_at hl 4 rfl) ?_
  refine lv_aload_n hx hb dX1_passMirror_14 rfl (lv_at hl 1 rfl) ?_
  refine lv_iload_n hx hb dX1_passMirror_15 rfl (lv_at hl 2 rfl) ?_
  refine m_calli (m_runV (110) (As := [.int (a0)]) (rest := [.int (a2)]) hx hb hml hown hts hE hM hS hA ce_X8_lossOf tb_846 (V_X8_lossOf_110_l l D A ad ns (u2 I (10) 7 (v2)) L G (a0) hG hI (by first | omega | decide)) rfl rfl ⟨Nat.le_of_ble_eq_true rfl, Nat.le_of_ble_eq_true rfl⟩ (hG.1 110 (by decide)) rfl rfl (by decide) rfl hl.1 rfl (Nat.le_of_ble_eq_true rfl) dX1_passMirror_16 ⟨Nat.le_of_ble_eq_true rfl, Nat.le_of_ble_eq_true rfl⟩) hS (fun r4 u H locs hw hM hS => ?_)
  obtain ⟨rfl, xr4⟩ := hw
  have hM : Mem D A ad ns (u2 I (10) 7 (v2)) L G H := hM
  rw [show twC 110 (u2 I (10) 7 (v2)) = twC 110 I from twC_kp hK rfl] at xr4
  refine m_calli (m_runSN (As := [.int (a2), .int (r4)]) (rest := []) hx hb hml hown hts hE hM hS hA ce_X9_shareOf (List.mem_of_getElem? (i := 8) rfl) (V_X9_shareOf_l l D A ad ns (u2 I (10) 7 (v2)) L G (a2) (r4) hI) rfl rfl ⟨Nat.le_of_ble_eq_true rfl, Nat.le_of_ble_eq_true rfl⟩  rfl hl.1 rfl (Nat.le_of_ble_eq_true rfl) dX1_passMirror_19 ⟨Nat.le_of_ble_eq_true rfl, Nat.le_of_ble_eq_true rfl⟩) hS (fun r5 u H locs hw hM hS => ?_)
  obtain ⟨rfl, xr5⟩ := hw
  have hM : Mem D A ad ns (u2 I (10) 7 (v2)) L G H := hM
  refine lv_istore (lv' := [(5, .int (r5)), (0, .ref (ad (10))), (1, .ref (ad (110))), (2, .int (a0)), (3, .int (a1)), (4, .int (a2))]) hx hb dX1_passMirror_22 hl (by decide) rfl (fun ls hl => ?_)
  refine lv_aload_n hx hb dX1_passMirror_24 rfl (lv_at hl 1 rfl) ?_
  refine lv_dup hx hb dX1_passMirror_25 rfl ?_
  refine m_geti (10) 2 hx hb hts hown hE oc1 hM (hG.1 10 (by decide)) rfl (by decide) rfl tb_136 dX1_passMirror_26 ?_
  have z6 : (u2 I (10) 7 (v2)) (10) 2 = I (10) 2 := (show (u2 I (10) 7 (v2)) (10) 2 = I (10) 2 from by simp [u2_v])
  rw [z6]
  refine lv_iload hx hb dX1_passMirror_29 (lv_at hl 0 rfl) ?_
  refine lv_iadd hx hb dX1_passMirror_31 ?_
  refine lv_topi (fun v7 ev7 => ?_)
  refine m_puti (10) 2 hx hb hts hown hE oc1 hM hS (hG.1 10 (by decide)) rfl (by decide) rfl rfl rfl rfl tb_136 dX1_passMirror_32 (fun H locs I8 eI8 hM hS => ?_)
  subst eI8
  have hI := hI.putF (n := 10) (k := 2) (v := v7) rfl
  have hK := hK.put (n := 10) (k := 2) (v := v7) (by first | rfl | simp [inR])
  refine lv_iload hx hb dX1_passMirror_35 (lv_at hl 5 rfl) ?_
  refine lv_iload hx hb dX1_passMirror_37 (lv_at hl 0 rfl) ?_
  refine lv_isub hx hb dX1_passMirror_39 ?_
  refine lv_topi (fun v9 ev9 => ?_)
  refine lv_aload_n hx hb dX1_passMirror_40 rfl (lv_at hl 2 rfl) ?_
  refine lv_iload_n hx hb dX1_passMirror_41 rfl (lv_at hl 3 rfl) ?_
  refine lv_iconst (v := (4)) hx hb dX1_passMirror_42 (by decide) ?_
  refine m_calli (m_runV (110) (As := [.int (a0), .int (4)]) (rest := [.int (v9)]) hx hb hml hown hts hE hM hS hA ce_X8_ofMirror tb_850 (V_X8_ofMirror_110_l l D A ad ns (u2 (u2 I (10) 7 (v2)) (10) 2 (v7)) L G (a0) (4) hG hI (by first | omega | decide) (by first | omega | decide)) rfl rfl ⟨Nat.le_of_ble_eq_true rfl, Nat.le_of_ble_eq_true rfl⟩ (hG.1 110 (by decide)) rfl rfl (by decide) rfl hl.1 rfl (Nat.le_of_ble_eq_true rfl) dX1_passMirror_43 ⟨Nat.le_of_ble_eq_true rfl, Nat.le_of_ble_eq_true rfl⟩) hS (fun r10 u H locs hw hM hS => ?_)
  obtain ⟨rfl, xr10⟩ := hw
  have hM : Mem D A ad ns (u2 (u2 I (10) 7 (v2)) (10) 2 (v7)) L G H := hM
  rw [show (4 : Int32).toNatClampNeg = 4 from rfl, show 24 * 4 = 96 from rfl] at xr10
  rw [show (u2 (u2 I (10) 7 (v2)) (10) 2 (v7)) 117 = I 117 from hK.ap (b := 110) rfl 117 (by decide) (by decide)] at xr10
  refine m_calli (m_runSN (As := [.int (v9), .int (r10)]) (rest := []) hx hb hml hown hts hE hM hS hA ce_X9_shareOf (List.mem_of_getElem? (i := 8) rfl) (V_X9_shareOf_l l D A ad ns (u2 (u2 I (10) 7 (v2)) (10) 2 (v7)) L G (v9) (r10) hI) rfl rfl ⟨Nat.le_of_ble_eq_true rfl, Nat.le_of_ble_eq_true rfl⟩  rfl hl.1 rfl (Nat.le_of_ble_eq_true rfl) dX1_passMirror_46 ⟨Nat.le_of_ble_eq_true rfl, Nat.le_of_ble_eq_true rfl⟩) hS (fun r11 u H locs hw hM hS => ?_)
  obtain ⟨rfl, xr11⟩ := hw
  have hM : Mem D A ad ns (u2 (u2 I (10) 7 (v2)) (10) 2 (v7)) L G H := hM
  refine lv_istore (lv' := [(6, .int (r11)), (5, .int (r5)), (0, .ref (ad (10))), (1, .ref (ad (110))), (2, .int (a0)), (3, .int (a1)), (4, .int (a2))]) hx hb dX1_passMirror_49 hl (by decide) rfl (fun ls hl => ?_)
  refine lv_iload hx hb dX1_passMirror_51 (lv_at hl 0 rfl) ?_
  refine lv_if_le (tgt := 63) hx hb dX1_passMirror_53 (by decide) (fun c12 => ?_) (fun c12 => ?_)
  · have hc12 := c12
    have q12 := q_le hc12
    refine lv_iload hx hb dX1_passMirror_63 (lv_at hl 6 rfl) ?_
    refine lv_iload hx hb dX1_passMirror_65 (lv_at hl 1 rfl) ?_
    refine lv_isub hx hb dX1_passMirror_67 ?_
    refine lv_topi (fun v13 ev13 => ?_)
    refine lv_iload hx hb dX1_passMirror_68 (lv_at hl 0 rfl) ?_
    refine lv_isub hx hb dX1_passMirror_70 ?_
    refine lv_topi (fun v14 ev14 => ?_)
    exact m_iret hx hb hr hlocks hM hS (Nat.le_of_ble_eq_true rfl) (Nat.le_of_ble_eq_true rfl) ⟨_, _, rfl, hI, hK, (by subst ev1; subst ev2; subst xr4; subst xr5; subst ev7; subst ev9; subst xr10; subst xr11; subst ev13; subst ev14; exact ⟨rfl, MIX.n (show (shr (a2 - shr a2 (lsT (twC 110 I) (a0).toNatClampNeg)) (I 117 (96 + (a0).toNatClampNeg))).toInt ≤ 0 from by omega)⟩)⟩ dX1_passMirror_71
  · have hc12 := c12
    have q12 := q_nle hc12
    refine lv_aload_n hx hb dX1_passMirror_56 rfl (lv_at hl 2 rfl) ?_
    refine lv_iload_n hx hb dX1_passMirror_57 rfl (lv_at hl 5 rfl) ?_
    refine lv_iload hx hb dX1_passMirror_58 (lv_at hl 0 rfl) ?_
    refine m_callv (m_runV (10) (As := [.int (a1), .int (r11)]) (rest := []) hx hb hml hown hts hE hM hS hA ce_X1_letWait tb_851 (V_X1_letWait_l l D A ad ns (u2 (u2 I (10) 7 (v2)) (10) 2 (v7)) L G (a1) (r11) hG hI (by first | omega | decide)) rfl rfl ⟨Nat.le_of_ble_eq_true rfl, Nat.le_of_ble_eq_true rfl⟩ (hG.1 10 (by decide)) rfl rfl (by decide) rfl hl.1 rfl (Nat.le_of_ble_eq_true rfl) dX1_passMirror_60 ⟨Nat.le_of_ble_eq_true rfl, Nat.le_of_ble_eq_true rfl⟩) hS (fun u H locs hw hM hS => ?_)
    obtain ⟨I15, L16, rfl, hI, hkI15, xI15⟩ := hw
    have hM : Mem D A ad ns I15 L16 G H := hM
    have hK := hK.trans hkI15 rfl
    refine lv_iload hx hb dX1_passMirror_63 (lv_at hl 6 rfl) ?_
    refine lv_iload hx hb dX1_passMirror_65 (lv_at hl 1 rfl) ?_
    refine lv_isub hx hb dX1_passMirror_67 ?_
    refine lv_topi (fun v17 ev17 => ?_)
    refine lv_iload hx hb dX1_passMirror_68 (lv_at hl 0 rfl) ?_
    refine lv_isub hx hb dX1_passMirror_70 ?_
    refine lv_topi (fun v18 ev18 => ?_)
    exact m_iret hx hb hr hlocks hM hS (Nat.le_of_ble_eq_true rfl) (Nat.le_of_ble_eq_true rfl) ⟨_, _, rfl, hI, hK, (by subst ev1; subst ev2; subst xr4; subst xr5; subst ev7; subst ev9; subst xr10; subst xr11; subst ev17; subst ev18; exact ⟨rfl, MIX.y (show 0 < (shr (a2 - shr a2 (lsT (twC 110 I) (a0).toNatClampNeg)) (I 117 (96 + (a0).toNatClampNeg))).toInt from by omega) xI15⟩)⟩ dX1_passMirror_71
set_option maxHeartbeats 4000000 in
set_option maxRecDepth 20000 in
theorem V_X1_isBlind_110_l (l : Launch) (D : va_G) (A : Nat → Prop) (ad : Nat → Nat) (ns : List Nat) (I : MI) (L : ML) (G : MG) (a0 : Int32) (hG : SGC ns G) (hI : INV I) (ha0 : 0 ≤ a0.toInt ∧ a0.toInt ≤ 575) : Met l yX1_isBlind (wd yX1_isBlind cX1_isBlind 3 (some .boolean)) ({ frames := 0, cells := 0, slots := 0, locals := 0 }) (va_Pc [.ref (ad (10)), .ref (ad (110)), .int a0] (PM D A ad ns I L G)) (va_Qi (fun r u => u = (ad, ns, I, L, G) ∧ (Bo r (bln (I 112) (I 12) (a0).toNatClampNeg))) (BM D A) A) 0 0 A := by
  refine m_ofW (by decide) (Nat.le_of_ble_eq_true rfl) ?_
  intro p e s m below meth c ls args hC hE hM hA hS hl
  obtain ⟨hx, hb, hml, hown, hts, hr, hlocks, hin⟩ := hC
  have km1 : (-1 : Int32).toInt = -1 := by decide
  have k0 : (0 : Int32).toInt = 0 := by decide
  have k1 : (1 : Int32).toInt = 1 := by decide
  have hl : lv_has ls 3 [(0, .ref (ad (10))), (1, .ref (ad (110))), (2, .int (a0))] := hl
  refine lv_aload_n hx hb dX1_isBlind_0 rfl (lv_at hl 1 rfl) ?_
  refine m_getr (110) 11 (112) hx hb hts hown hE oc8 hM (hG.1 110 (by decide)) rfl (by decide) rfl (hG.2 (110, 11, 112) (by decide)) (by decide) tb_70 dX1_isBlind_1 ?_
  refine lv_iload_n hx hb dX1_isBlind_4 rfl (lv_at hl 2 rfl) ?_
  refine m_iald (112) hx hb hE hM (hG.1 112 (by decide)) rfl (vp_in_iff.mpr (by omega)) dX1_isBlind_5 ?_
  refine lv_iconst (v := (-1)) hx hb dX1_isBlind_6 (by decide) ?_
  refine lv_icmp_eq (tgt := 29) hx hb dX1_isBlind_7 (by decide) (fun c1 => ?_) (fun c1 => ?_)
  · have hc1 := c1
    have q1 := q_eq hc1
    refine lv_iconst (v := (0)) hx hb dX1_isBlind_29 (by decide) ?_
    exact m_zret hx hb hr rfl hlocks hM hS (Nat.le_of_ble_eq_true rfl) (Nat.le_of_ble_eq_true rfl) ⟨rfl, (Bo.n (fun hh => by have h1 := hh.1; have h2 := hh.2; omega))⟩ dX1_isBlind_30
  · have hc1 := c1
    have q1 := q_ne hc1
    refine lv_aload_n hx hb dX1_isBlind_10 rfl (lv_at hl 0 rfl) ?_
    refine m_getr (10) 1 (12) hx hb hts hown hE oc1 hM (hG.1 10 (by decide)) rfl (by decide) rfl (hG.2 (10, 1, 12) (by decide)) (by decide) tb_134 dX1_isBlind_11 ?_
    refine lv_iload_n hx hb dX1_isBlind_14 rfl (lv_at hl 2 rfl) ?_
    refine m_iald (12) hx hb hE hM (hG.1 12 (by decide)) rfl (vp_in_iff.mpr (by omega)) dX1_isBlind_15 ?_
    refine lv_aload_n hx hb dX1_isBlind_16 rfl (lv_at hl 1 rfl) ?_
    refine m_getr (110) 11 (112) hx hb hts hown hE oc8 hM (hG.1 110 (by decide)) rfl (by decide) rfl (hG.2 (110, 11, 112) (by decide)) (by decide) tb_70 dX1_isBlind_17 ?_
    refine lv_iload_n hx hb dX1_isBlind_20 rfl (lv_at hl 2 rfl) ?_
    refine m_iald (112) hx hb hE hM (hG.1 112 (by decide)) rfl (vp_in_iff.mpr (by omega)) dX1_isBlind_21 ?_
    refine lv_icmp_le (tgt := 29) hx hb dX1_isBlind_22 (by decide) (fun c2 => ?_) (fun c2 => ?_)
    · have hc2 := c2
      have q2 := q_le hc2
      refine lv_iconst (v := (0)) hx hb dX1_isBlind_29 (by decide) ?_
      exact m_zret hx hb hr rfl hlocks hM hS (Nat.le_of_ble_eq_true rfl) (Nat.le_of_ble_eq_true rfl) ⟨rfl, (Bo.n (fun hh => by have h1 := hh.1; have h2 := hh.2; omega))⟩ dX1_isBlind_30
    · have hc2 := c2
      have q2 := q_nle hc2
      refine lv_iconst (v := (1)) hx hb dX1_isBlind_25 (by decide) ?_
      refine lv_goto (tgt := 30) hx hb dX1_isBlind_26 (by decide) ?_
      exact m_zret hx hb hr rfl hlocks hM hS (Nat.le_of_ble_eq_true rfl) (Nat.le_of_ble_eq_true rfl) ⟨rfl, (Bo.y ⟨by omega, by omega⟩)⟩ dX1_isBlind_30
set_option maxHeartbeats 4000000 in
set_option maxRecDepth 20000 in
theorem V_X1_firstBlind_110_l (l : Launch) (D : va_G) (A : Nat → Prop) (ad : Nat → Nat) (ns : List Nat) (I : MI) (L : ML) (G : MG) (hG : SGC ns G) (hI : INV I) : Met l yX1_firstBlind (wd yX1_firstBlind cX1_firstBlind 3 (some .int)) ({ frames := 1, cells := 0, slots := 0, locals := 22 }) (va_Pc [.ref (ad (10)), .ref (ad (110))] (PM D A ad ns I L G)) (va_Qi (fun r u => u = (ad, ns, I, L, G) ∧ (fsB (I 112) (I 12) r)) (BM D A) A) 0 0 A := by
  refine m_ofW (by decide) (Nat.le_of_ble_eq_true rfl) ?_
  intro p e s m below meth c ls args hC hE hM hA hS hl
  obtain ⟨hx, hb, hml, hown, hts, hr, hlocks, hin⟩ := hC
  have km2 : (-2 : Int32).toInt = -2 := by decide
  have k0 : (0 : Int32).toInt = 0 := by decide
  have k576 : (576 : Int32).toInt = 576 := by decide
  have hl : lv_has ls 3 [(0, .ref (ad (10))), (1, .ref (ad (110)))] := hl
  refine lv_iconst (v := (0)) hx hb dX1_firstBlind_0 (by decide) ?_
  refine lv_istore_n (lv' := [(2, .int (0)), (0, .ref (ad (10))), (1, .ref (ad (110)))]) hx hb dX1_firstBlind_1 rfl hl (by decide) rfl (fun ls hl => ?_)
  have loop2 : ∀ (n : Nat) (x2_2 : Int32) (H : Heap) (locs : List Loc) (ls : Array Slot), (0 ≤ x2_2.toInt ∧ x2_2.toInt ≤ 576) → (∀ c : Nat, c < (x2_2).toNatClampNeg → ¬ bln (I 112) (I 12) c) → (576 - x2_2.toInt).toNat < n → Mem D A ad ns I L G H → va_S A s.heap H locs → lv_has ls 3 [(2, .int (x2_2)), (0, .ref (ad (10))), (1, .ref (ad (110)))] → W p l e ({ frames := 1, cells := 0, slots := 0, locals := 22 } : Room) s m args below meth c H locs 0 0 (MQ below (va_Qi (fun r u => u = (ad, ns, I, L, G) ∧ (fsB (I 112) (I 12) r)) (BM D A) A) args s 0 0 A) (F0 m 2 ls []) := by
    intro n
    induction n with
    | zero =>
      intro x2_2 H locs ls hr2_2 hs2 hmu
      exact absurd hmu (Nat.not_lt_zero _)
    | succ n ih2 =>
      intro x2_2 H locs ls hr2_2 hs2 hmu2 hM hS hl
      refine lv_iload_n hx hb dX1_firstBlind_2 rfl (lv_at hl 0 rfl) ?_
      refine lv_sipush (v := (576)) hx hb dX1_firstBlind_3 (by decide) ?_
      refine lv_icmp_ge (tgt := 26) hx hb dX1_firstBlind_6 (by decide) (fun c1 => ?_) (fun c1 => ?_)
      · have hc1 := c1
        have q1 := q_le hc1
        refine lv_bipush (v := (-2)) hx hb dX1_firstBlind_26 (by decide) ?_
        exact m_iret hx hb hr hlocks hM hS (Nat.le_of_ble_eq_true rfl) (Nat.le_of_ble_eq_true rfl) ⟨rfl, (Or.inl ⟨by decide, fun c hc => hs2 c (by have z := tn (i := x2_2) (by omega); omega)⟩)⟩ dX1_firstBlind_28
      · have hc1 := c1
        have q1 := q_nle hc1
        refine lv_aload_n hx hb dX1_firstBlind_9 rfl (lv_at hl 1 rfl) ?_
        refine lv_aload_n hx hb dX1_firstBlind_10 rfl (lv_at hl 2 rfl) ?_
        refine lv_iload_n hx hb dX1_firstBlind_11 rfl (lv_at hl 0 rfl) ?_
        refine m_calli (m_runV (10) (As := [.ref (ad (110)), .int (x2_2)]) (rest := []) hx hb hml hown hts hE hM hS hA ce_X1_isBlind tb_867 (V_X1_isBlind_110_l l D A ad ns I L G (x2_2) hG hI (by first | omega | decide)) rfl rfl ⟨Nat.le_of_ble_eq_true rfl, Nat.le_of_ble_eq_true rfl⟩ (hG.1 10 (by decide)) rfl rfl (by decide) rfl hl.1 rfl (Nat.le_of_ble_eq_true rfl) dX1_firstBlind_12 ⟨Nat.le_of_ble_eq_true rfl, Nat.le_of_ble_eq_true rfl⟩) hS (fun r2 u H locs hw hM hS => ?_)
        obtain ⟨rfl, xr2⟩ := hw
        have hM : Mem D A ad ns I L G H := hM
        have yr2 := bo01 xr2
        refine lv_if_eq (tgt := 20) hx hb dX1_firstBlind_15 (by decide) (fun c3 => ?_) (fun c3 => ?_)
        · have hc3 := c3
          have q3 := xr2.f hc3
          obtain ⟨v4, ev4⟩ : ∃ z : Int32, z = x2_2 + Int32.ofInt (1) := ⟨_, rfl⟩
          have tv4 := a_inc ev4 (by decide) (by omega) (by omega)
          refine lv_iinc (v := v4) (lv' := [(2, .int (v4)), (0, .ref (ad (10))), (1, .ref (ad (110)))]) hx hb dX1_firstBlind_20 hl (k := 0) rfl ev4.symm (by decide) rfl (fun ls hl => ?_)
          refine lv_goto (tgt := 2) hx hb dX1_firstBlind_23 (by decide) ?_
          exact ih2 (v4) _ _ ls (by first | omega | decide) (fun c hc => by have z := tn (i := x2_2) (by omega); have z2 := tn (i := v4) (by omega); by_cases hq : c < (x2_2).toNatClampNeg; exact hs2 c hq; rw [show c = (x2_2).toNatClampNeg from by omega]; exact q3) (by omega) hM hS (lv_sub hl [0, 1, 2] rfl)
        · have hc3 := c3
          have q3 := xr2.t hc3
          refine lv_iload_n hx hb dX1_firstBlind_18 rfl (lv_at hl 0 rfl) ?_
          exact m_iret hx hb hr hlocks hM hS (Nat.le_of_ble_eq_true rfl) (Nat.le_of_ble_eq_true rfl) ⟨rfl, (Or.inr ⟨by omega, by omega, q3, hs2⟩)⟩ dX1_firstBlind_19
  exact loop2 (_ + 1) (0) _ _ ls (by first | omega | decide) (fun c hc => absurd hc (Nat.not_lt_zero c)) (Nat.lt_succ_self _) hM hS (lv_sub hl [0, 1, 2] rfl)
set_option maxHeartbeats 4000000 in
set_option maxRecDepth 20000 in
theorem V_X1_follow_110_l (l : Launch) (D : va_G) (A : Nat → Prop) (ad : Nat → Nat) (ns : List Nat) (I : MI) (L : ML) (G : MG) (a0 : Int32) (a1 : Int32) (a2 : Int32) (a3 : Int32) (hG : SGC ns G) (hI : INV I) (ha2 : 0 ≤ a2.toInt ∧ a2.toInt ≤ 7) : Met l yX1_follow (wd yX1_follow cX1_follow 12 none) ({ frames := 2, cells := 0, slots := 0, locals := 49 }) (va_Pc [.ref (ad (10)), .ref (ad (110)), .int a0, .int a1, .int a2, .int a3] (PM D A ad ns I L G)) (va_Qv (fun u => ∃ I2 L2, u = (ad, ns, I2, L2, G) ∧ INV I2 ∧ Kp [(11, 15)] [(10, 2), (10, 3), (10, 4), (10, 5), (10, 6), (10, 7), (10, 12)] I I2 ∧ (BMX (twC 110 I) I I2 a0 a1 a2 a3)) (BM D A) A) 0 0 A := by
  refine m_ofW (by decide) (Nat.le_of_ble_eq_true rfl) ?_
  intro p e s m below meth c ls args hC hE hM hA hS hl
  obtain ⟨hx, hb, hml, hown, hts, hr, hlocks, hin⟩ := hC
  have km1 : (-1 : Int32).toInt = -1 := by decide
  have k0 : (0 : Int32).toInt = 0 := by decide
  have k1 : (1 : Int32).toInt = 1 := by decide
  have k8 : (8 : Int32).toInt = 8 := by decide
  have k2000 : (2000 : Int32).toInt = 2000 := by decide
  have hK : Kp [(11, 15)] [(10, 2), (10, 3), (10, 4), (10, 5), (10, 6), (10, 7), (10, 12)] I I := Kp.rf
  have hl : lv_has ls 12 [(0, .ref (ad (10))), (1, .ref (ad (110))), (2, .int (a0)), (3, .int (a1)), (4, .int (a2)), (5, .int (a3))] := hl
  refine lv_iload_n hx hb dX1_follow_0 rfl (lv_at hl 2 rfl) ?_
  refine lv_istore (lv' := [(6, .int (a0)), (0, .ref (ad (10))), (1, .ref (ad (110))), (2, .int (a0)), (3, .int (a1)), (4, .int (a2)), (5, .int (a3))]) hx hb dX1_follow_1 hl (by decide) rfl (fun ls hl => ?_)
  refine lv_iload_n hx hb dX1_follow_3 rfl (lv_at hl 4 rfl) ?_
  refine lv_istore (lv' := [(7, .int (a1)), (6, .int (a0)), (0, .ref (ad (10))), (1, .ref (ad (110))), (2, .int (a0)), (3, .int (a1)), (4, .int (a2)), (5, .int (a3))]) hx hb dX1_follow_4 hl (by decide) rfl (fun ls hl => ?_)
  refine lv_iload hx hb dX1_follow_6 (lv_at hl 6 rfl) ?_
  refine lv_istore (lv' := [(8, .int (a2)), (7, .int (a1)), (6, .int (a0)), (0, .ref (ad (10))), (1, .ref (ad (110))), (2, .int (a0)), (3, .int (a1)), (4, .int (a2)), (5, .int (a3))]) hx hb dX1_follow_8 hl (by decide) rfl (fun ls hl => ?_)
  refine lv_iload hx hb dX1_follow_10 (lv_at hl 8 rfl) ?_
  refine lv_istore (lv' := [(9, .int (a3)), (8, .int (a2)), (7, .int (a1)), (6, .int (a0)), (0, .ref (ad (10))), (1, .ref (ad (110))), (2, .int (a0)), (3, .int (a1)), (4, .int (a2)), (5, .int (a3))]) hx hb dX1_follow_12 hl (by decide) rfl (fun ls hl => ?_)
  have loop14 : ∀ (n : Nat) (x9_14 : Int32) (x8_14 : Int32) (x7_14 : Int32) (x6_14 : Int32) (Ia14 : MI) (La14 : ML) (H : Heap) (locs : List Loc) (ls : Array Slot), INV Ia14 → Kp [(11, 15)] [(10, 2), (10, 3), (10, 4), (10, 5), (10, 6), (10, 7), (10, 12)] I Ia14 → (0 ≤ x8_14.toInt ∧ x8_14.toInt ≤ 7) → (FXA (twC 110 I) I Ia14 x6_14 x7_14 x8_14 x9_14 a0 a1 a2 a3) → (2000 - (Ia14 10 4).toInt).toNat < n → Mem D A ad ns Ia14 La14 G H → va_S A s.heap H locs → lv_has ls 12 [(9, .int (x9_14)), (8, .int (x8_14)), (7, .int (x7_14)), (6, .int (x6_14)), (0, .ref (ad (10))), (1, .ref (ad (110))), (2, .int (a0)), (3, .int (a1)), (4, .int (a2)), (5, .int (a3))] → W p l e ({ frames := 2, cells := 0, slots := 0, locals := 49 } : Room) s m args below meth c H locs 0 0 (MQ below (va_Qv (fun u => ∃ I2 L2, u = (ad, ns, I2, L2, G) ∧ INV I2 ∧ Kp [(11, 15)] [(10, 2), (10, 3), (10, 4), (10, 5), (10, 6), (10, 7), (10, 12)] I I2 ∧ (BMX (twC 110 I) I I2 a0 a1 a2 a3)) (BM D A) A) args s 0 0 A) (F0 m 14 ls []) := by
    intro n
    induction n with
    | zero =>
      intro x9_14 x8_14 x7_14 x6_14 Ia14 La14 H locs ls hI hK hr8_14 hF14 hmu
      exact absurd hmu (Nat.not_lt_zero _)
    | succ n ih14 =>
      intro x9_14 x8_14 x7_14 x6_14 Ia14 La14 H locs ls hI hK hr8_14 hF14 hmu14 hM hS hl
      have tw14 : twC 110 Ia14 = twC 110 I := twC_kp hK rfl
      have g14 := hI.get 10 4 (lo := 0) (hi := 2000) rfl
      refine lv_iload hx hb dX1_follow_14 (lv_at hl 0 rfl) ?_
      refine lv_if_le (tgt := 187) hx hb dX1_follow_16 (by decide) (fun c1 => ?_) (fun c1 => ?_)
      · have hc1 := c1
        have q1 := q_le hc1
        refine lv_iload hx hb dX1_follow_187 (lv_at hl 0 rfl) ?_
        refine lv_if_le (tgt := 208) hx hb dX1_follow_189 (by decide) (fun c2 => ?_) (fun c2 => ?_)
        · have hc2 := c2
          have q2 := q_le hc2
          exact m_vret hx hb hr hlocks hM hS (Nat.le_of_ble_eq_true rfl) (Nat.le_of_ble_eq_true rfl) ⟨_, _, rfl, hI, hK, (FXA.fin hF14 (by omega))⟩ dX1_follow_208
        · have hc2 := c2
          have q2 := q_nle hc2
          refine lv_aload_n hx hb dX1_follow_192 rfl (lv_at hl 4 rfl) ?_
          refine lv_dup hx hb dX1_follow_193 rfl ?_
          refine m_geti (10) 3 hx hb hts hown hE oc1 hM (hG.1 10 (by decide)) rfl (by decide) rfl tb_138 dX1_follow_194 ?_
          refine lv_iload hx hb dX1_follow_197 (lv_at hl 0 rfl) ?_
          refine lv_iadd hx hb dX1_follow_199 ?_
          refine lv_topi (fun v3 ev3 => ?_)
          refine m_puti (10) 3 hx hb hts hown hE oc1 hM hS (hG.1 10 (by decide)) rfl (by decide) rfl rfl rfl rfl tb_138 dX1_follow_200 (fun H locs I4 eI4 hM hS => ?_)
          subst eI4
          have hI := hI.putF (n := 10) (k := 3) (v := v3) rfl
          have hK := hK.put (n := 10) (k := 3) (v := v3) (by first | rfl | simp [inR])
          refine lv_aload_n hx hb dX1_follow_203 rfl (lv_at hl 4 rfl) ?_
          refine lv_iconst (v := (1)) hx hb dX1_follow_204 (by decide) ?_
          refine m_puti (10) 6 hx hb hts hown hE oc1 hM hS (hG.1 10 (by decide)) rfl (by decide) rfl rfl rfl rfl tb_144 dX1_follow_205 (fun H locs I5 eI5 hM hS => ?_)
          subst eI5
          have hI := hI.put (n := 10) (k := 6) (v := 1) (lo := 0) (hi := 1) rfl (by first | omega | decide)
          have hK := hK.put (n := 10) (k := 6) (v := 1) (by first | rfl | simp [inR])
          exact m_vret hx hb hr hlocks hM hS (Nat.le_of_ble_eq_true rfl) (Nat.le_of_ble_eq_true rfl) ⟨_, _, rfl, hI, hK, (by subst ev3; exact FXA.full hF14 (by omega) (by omega))⟩ dX1_follow_208
      · have hc1 := c1
        have q1 := q_nle hc1
        refine lv_aload_n hx hb dX1_follow_19 rfl (lv_at hl 4 rfl) ?_
        refine m_geti (10) 4 hx hb hts hown hE oc1 hM (hG.1 10 (by decide)) rfl (by decide) rfl tb_140 dX1_follow_20 ?_
        have g6 := hI.get (10) 4 (lo := 0) (hi := 2000) rfl
        refine lv_sipush (v := (2000)) hx hb dX1_follow_23 (by decide) ?_
        refine lv_icmp_ge (tgt := 187) hx hb dX1_follow_26 (by decide) (fun c7 => ?_) (fun c7 => ?_)
        · have hc7 := c7
          have q7 := q_le hc7
          refine lv_iload hx hb dX1_follow_187 (lv_at hl 0 rfl) ?_
          refine lv_if_le (tgt := 208) hx hb dX1_follow_189 (by decide) (fun c8 => ?_) (fun c8 => ?_)
          · have hc8 := c8
            have q8 := q_le hc8
            exact m_vret hx hb hr hlocks hM hS (Nat.le_of_ble_eq_true rfl) (Nat.le_of_ble_eq_true rfl) ⟨_, _, rfl, hI, hK, (FXA.fin hF14 (by omega))⟩ dX1_follow_208
          · have hc8 := c8
            have q8 := q_nle hc8
            refine lv_aload_n hx hb dX1_follow_192 rfl (lv_at hl 4 rfl) ?_
            refine lv_dup hx hb dX1_follow_193 rfl ?_
            refine m_geti (10) 3 hx hb hts hown hE oc1 hM (hG.1 10 (by decide)) rfl (by decide) rfl tb_138 dX1_follow_194 ?_
            refine lv_iload hx hb dX1_follow_197 (lv_at hl 0 rfl) ?_
            refine lv_iadd hx hb dX1_follow_199 ?_
            refine lv_topi (fun v9 ev9 => ?_)
            refine m_puti (10) 3 hx hb hts hown hE oc1 hM hS (hG.1 10 (by decide)) rfl (by decide) rfl rfl rfl rfl tb_138 dX1_follow_200 (fun H locs I10 eI10 hM hS => ?_)
            subst eI10
            have hI := hI.putF (n := 10) (k := 3) (v := v9) rfl
            have hK := hK.put (n := 10) (k := 3) (v := v9) (by first | rfl | simp [inR])
            refine lv_aload_n hx hb dX1_follow_203 rfl (lv_at hl 4 rfl) ?_
            refine lv_iconst (v := (1)) hx hb dX1_follow_204 (by decide) ?_
            refine m_puti (10) 6 hx hb hts hown hE oc1 hM hS (hG.1 10 (by decide)) rfl (by decide) rfl rfl rfl rfl tb_144 dX1_follow_205 (fun H locs I11 eI11 hM hS => ?_)
            subst eI11
            have hI := hI.put (n := 10) (k := 6) (v := 1) (lo := 0) (hi := 1) rfl (by first | omega | decide)
            have hK := hK.put (n := 10) (k := 6) (v := 1) (by first | rfl | simp [inR])
            exact m_vret hx hb hr hlocks hM hS (Nat.le_of_ble_eq_true rfl) (Nat.le_of_ble_eq_true rfl) ⟨_, _, rfl, hI, hK, (by subst ev9; exact FXA.full hF14 (by omega) (by omega))⟩ dX1_follow_208
        · have hc7 := c7
          have q7 := q_nle hc7
          refine lv_aload_n hx hb dX1_follow_29 rfl (lv_at hl 4 rfl) ?_
          refine lv_dup hx hb dX1_follow_30 rfl ?_
          refine m_geti (10) 4 hx hb hts hown hE oc1 hM (hG.1 10 (by decide)) rfl (by decide) rfl tb_140 dX1_follow_31 ?_
          refine lv_iconst (v := (1)) hx hb dX1_follow_34 (by decide) ?_
          refine lv_iadd hx hb dX1_follow_35 ?_
          refine lv_topi (fun v12 ev12 => ?_)
          have tv12 := a_add ev12 (by omega) (by omega)
          refine m_puti (10) 4 hx hb hts hown hE oc1 hM hS (hG.1 10 (by decide)) rfl (by decide) rfl rfl rfl rfl tb_140 dX1_follow_36 (fun H locs I13 eI13 hM hS => ?_)
          subst eI13
          have hI := hI.put (n := 10) (k := 4) (v := v12) (lo := 0) (hi := 2000) rfl (by first | omega | decide)
          have hK := hK.put (n := 10) (k := 4) (v := v12) (by first | rfl | simp [inR])
          refine lv_aload_n hx hb dX1_follow_39 rfl (lv_at hl 5 rfl) ?_
          refine lv_iload hx hb dX1_follow_40 (lv_at hl 3 rfl) ?_
          refine lv_iload hx hb dX1_follow_42 (lv_at hl 2 rfl) ?_
          have tw14 : twC 110 (u2 Ia14 (10) 4 (v12)) = twC 110 I := twC_kp hK rfl
          refine m_calli (m_runV (110) (As := [.int (x6_14), .int (x7_14)]) (rest := []) hx hb hml hown hts hE hM hS hA ce_X8_isOpen tb_818 (V_X8_isOpen_110_l l D A ad ns (u2 Ia14 (10) 4 (v12)) La14 G (x6_14) (x7_14) hG hI) rfl rfl ⟨Nat.le_of_ble_eq_true rfl, Nat.le_of_ble_eq_true rfl⟩ (hG.1 110 (by decide)) rfl rfl (by decide) rfl hl.1 rfl (Nat.le_of_ble_eq_true rfl) dX1_follow_44 ⟨Nat.le_of_ble_eq_true rfl, Nat.le_of_ble_eq_true rfl⟩) hS (fun r15 u H locs hw hM hS => ?_)
          obtain ⟨rfl, xr15⟩ := hw
          have hM : Mem D A ad ns (u2 Ia14 (10) 4 (v12)) La14 G H := hM
          have yr15 := bo01 xr15
          have g16 := hI.get 110 0 (lo := 0) (hi := 24) rfl
          have g17 := hI.get 110 1 (lo := 0) (hi := 24) rfl
          refine lv_if_ne (tgt := 62) hx hb dX1_follow_47 (by decide) (fun c18 => ?_) (fun c18 => ?_)
          · have hc18 := c18
            have q18 := xr15.t hc18
            refine lv_iload hx hb dX1_follow_62 (lv_at hl 3 rfl) ?_
            refine lv_iload hx hb dX1_follow_64 (lv_at hl 2 rfl) ?_
            refine m_calli (m_runSN (As := [.int (x6_14), .int (x7_14)]) (rest := []) hx hb hml hown hts hE hM hS hA ce_X9_cellOf (List.mem_of_getElem? (i := 7) rfl) (V_X9_cellOf l D A ad ns (u2 Ia14 (10) 4 (v12)) La14 G (x6_14) (x7_14) hI (by first | omega | decide) (by first | omega | decide)) rfl rfl ⟨Nat.le_of_ble_eq_true rfl, Nat.le_of_ble_eq_true rfl⟩  rfl hl.1 rfl (Nat.le_of_ble_eq_true rfl) dX1_follow_66 ⟨Nat.le_of_ble_eq_true rfl, Nat.le_of_ble_eq_true rfl⟩) hS (fun r19 u H locs hw hM hS => ?_)
            obtain ⟨rfl, xr19⟩ := hw
            have hM : Mem D A ad ns (u2 Ia14 (10) 4 (v12)) La14 G H := hM
            have hcl : (r19).toNatClampNeg = clN x6_14 x7_14 := by have z0 := tn (i := r19) (by omega); have z1 := tn (i := x6_14) (by omega); have z2 := tn (i := x7_14) (by omega); unfold clN; omega
            refine lv_istore (lv' := [(10, .int (r19)), (9, .int (x9_14)), (8, .int (x8_14)), (7, .int (x7_14)), (6, .int (x6_14)), (0, .ref (ad (10))), (1, .ref (ad (110))), (2, .int (a0)), (3, .int (a1)), (4, .int (a2)), (5, .int (a3))]) hx hb dX1_follow_69 hl (by decide) rfl (fun ls hl => ?_)
            refine lv_aload_n hx hb dX1_follow_71 rfl (lv_at hl 5 rfl) ?_
            refine lv_aload_n hx hb dX1_follow_72 rfl (lv_at hl 6 rfl) ?_
            refine lv_iload hx hb dX1_follow_73 (lv_at hl 0 rfl) ?_
            refine lv_iload hx hb dX1_follow_75 (lv_at hl 1 rfl) ?_
            refine m_calli (m_runV (10) (As := [.ref (ad (110)), .int (r19), .int (x9_14)]) (rest := []) hx hb hml hown hts hE hM hS hA ce_X1_passAir tb_823 (V_X1_passAir_110_l l D A ad ns (u2 Ia14 (10) 4 (v12)) La14 G (r19) (x9_14) hG hI (by first | omega | decide)) rfl rfl ⟨Nat.le_of_ble_eq_true rfl, Nat.le_of_ble_eq_true rfl⟩ (hG.1 10 (by decide)) rfl rfl (by decide) rfl hl.1 rfl (Nat.le_of_ble_eq_true rfl) dX1_follow_77 ⟨Nat.le_of_ble_eq_true rfl, Nat.le_of_ble_eq_true rfl⟩) hS (fun r20 u H locs hw hM hS => ?_)
            obtain ⟨I21, L22, rfl, hI, hkI21, xr20⟩ := hw
            have hM : Mem D A ad ns I21 L22 G H := hM
            have hK := hK.trans hkI21 rfl
            rw [tw14] at xr20
            have hl1 : r20 = airL (twC 110 I) x9_14 := xr20.1
            have ha1 : AIX (twC 110 I) (clN x6_14 x7_14) x9_14 (u2 Ia14 (10) 4 (v12)) I21 := by rw [← hcl]; exact xr20.2
            have tw23 : twC 110 I21 = twC 110 I := twC_kp hK rfl
            refine lv_istore (lv' := [(9, .int (r20)), (10, .int (r19)), (8, .int (x8_14)), (7, .int (x7_14)), (6, .int (x6_14)), (0, .ref (ad (10))), (1, .ref (ad (110))), (2, .int (a0)), (3, .int (a1)), (4, .int (a2)), (5, .int (a3))]) hx hb dX1_follow_80 hl (by decide) rfl (fun ls hl => ?_)
            have hyv : Ia14 (114) (r19).toNatClampNeg = (twC 110 I).yat (clN x6_14 x7_14) := by rw [hcl]; exact congrFun (congrFun tw14 2) _
            have hmv : Ia14 (113) (r19).toNatClampNeg = (twC 110 I).mat (clN x6_14 x7_14) := by rw [hcl]; exact congrFun (congrFun tw14 3) _
            refine lv_aload_n hx hb dX1_follow_82 rfl (lv_at hl 6 rfl) ?_
            refine m_getr (110) 13 (114) hx hb hts hown hE oc8 hM (hG.1 110 (by decide)) rfl (by decide) rfl (hG.2 (110, 13, 114) (by decide)) (by decide) tb_76 dX1_follow_83 ?_
            refine lv_iload hx hb dX1_follow_86 (lv_at hl 1 rfl) ?_
            refine m_iald (114) hx hb hE hM (hG.1 114 (by decide)) rfl (vp_in_iff.mpr (by omega)) dX1_follow_88 ?_
            have g24 := hI.get (114) ((r19).toNatClampNeg) (lo := -1) (hi := 7) rfl
            have z25 : I21 (114) (r19).toNatClampNeg = Ia14 (114) ((r19).toNatClampNeg) := ((congrFun (hkI21.getA (114) rfl) ((r19).toNatClampNeg))).trans (show (u2 Ia14 (10) 4 (v12)) (114) ((r19).toNatClampNeg) = Ia14 (114) ((r19).toNatClampNeg) from by simp [u2_v])
            rw [z25] at g24 ⊢
            refine lv_iconst (v := (-1)) hx hb dX1_follow_89 (by decide) ?_
            refine lv_icmp_eq (tgt := 109) hx hb dX1_follow_90 (by decide) (fun c26 => ?_) (fun c26 => ?_)
            · have hc26 := c26
              have q26 := q_eq hc26
              have hyn : ((twC 110 I).yat (clN x6_14 x7_14)).toInt = -1 := by rw [← hyv]; omega
              have hcL : r20 = cellL (twC 110 I) x6_14 x7_14 x9_14 := cellL_n hyn hl1
              have hcS : CEl (twC 110 I) x6_14 x7_14 x9_14 Ia14 I21 := CEl.n v12 ha1 hyn
              refine lv_aload_n hx hb dX1_follow_109 rfl (lv_at hl 6 rfl) ?_
              refine m_getr (110) 12 (113) hx hb hts hown hE oc8 hM (hG.1 110 (by decide)) rfl (by decide) rfl (hG.2 (110, 12, 113) (by decide)) (by decide) tb_74 dX1_follow_110 ?_
              refine lv_iload hx hb dX1_follow_113 (lv_at hl 1 rfl) ?_
              refine m_iald (113) hx hb hE hM (hG.1 113 (by decide)) rfl (vp_in_iff.mpr (by omega)) dX1_follow_115 ?_
              have g27 := hI.get (113) ((r19).toNatClampNeg) (lo := -1) (hi := 23) rfl
              have z28 : I21 (113) (r19).toNatClampNeg = Ia14 (113) ((r19).toNatClampNeg) := ((congrFun (hkI21.getA (113) rfl) ((r19).toNatClampNeg))).trans (show (u2 Ia14 (10) 4 (v12)) (113) ((r19).toNatClampNeg) = Ia14 (113) ((r19).toNatClampNeg) from by simp [u2_v])
              rw [z28] at g27 ⊢
              refine lv_istore (lv' := [(11, .int (Ia14 (113) ((r19).toNatClampNeg))), (9, .int (r20)), (10, .int (r19)), (8, .int (x8_14)), (7, .int (x7_14)), (6, .int (x6_14)), (0, .ref (ad (10))), (1, .ref (ad (110))), (2, .int (a0)), (3, .int (a1)), (4, .int (a2)), (5, .int (a3))]) hx hb dX1_follow_116 hl (by decide) rfl (fun ls hl => ?_)
              refine lv_iload hx hb dX1_follow_118 (lv_at hl 0 rfl) ?_
              refine lv_iconst (v := (-1)) hx hb dX1_follow_120 (by decide) ?_
              refine lv_icmp_eq (tgt := 162) hx hb dX1_follow_121 (by decide) (fun c29 => ?_) (fun c29 => ?_)
              · have hc29 := c29
                have q29 := q_eq hc29
                refine lv_iload hx hb dX1_follow_162 (lv_at hl 5 rfl) ?_
                refine va_getsN hx hb hE.2.2.2.2.2.1.1 hS hown (va_Nw.use rfl (hE.2.1 _ (List.mem_of_getElem? (i := 9) rfl))) (fun _ h => h) dX1_follow_164 ?_
                refine lv_iload hx hb dX1_follow_167 (lv_at hl 3 rfl) ?_
                refine va_ti hx hb hE.2.2.2.2.2.1.2 hS (i := x8_14) (vp_in_iff.mpr (by omega)) rfl dX1_follow_169 ?_
                refine lv_topi (fun v30 ev30 => ?_)
                have tv30 := stX_r ev30
                refine lv_iadd hx hb dX1_follow_170 ?_
                refine lv_topi (fun v31 ev31 => ?_)
                refine lv_istore (lv' := [(6, .int (v31)), (11, .int (Ia14 (113) ((r19).toNatClampNeg))), (9, .int (r20)), (10, .int (r19)), (8, .int (x8_14)), (7, .int (x7_14)), (0, .ref (ad (10))), (1, .ref (ad (110))), (2, .int (a0)), (3, .int (a1)), (4, .int (a2)), (5, .int (a3))]) hx hb dX1_follow_171 hl (by decide) rfl (fun ls hl => ?_)
                refine lv_iload hx hb dX1_follow_173 (lv_at hl 5 rfl) ?_
                refine va_getsN hx hb hE.2.2.2.2.2.2.1.1 hS hown (va_Nw.use rfl (hE.2.1 _ (List.mem_of_getElem? (i := 10) rfl))) (fun _ h => h) dX1_follow_175 ?_
                refine lv_iload hx hb dX1_follow_178 (lv_at hl 4 rfl) ?_
                refine va_ti hx hb hE.2.2.2.2.2.2.1.2 hS (i := x8_14) (vp_in_iff.mpr (by omega)) rfl dX1_follow_180 ?_
                refine lv_topi (fun v32 ev32 => ?_)
                have tv32 := stY_r ev32
                refine lv_iadd hx hb dX1_follow_181 ?_
                refine lv_topi (fun v33 ev33 => ?_)
                refine lv_istore (lv' := [(7, .int (v33)), (6, .int (v31)), (11, .int (Ia14 (113) ((r19).toNatClampNeg))), (9, .int (r20)), (10, .int (r19)), (8, .int (x8_14)), (0, .ref (ad (10))), (1, .ref (ad (110))), (2, .int (a0)), (3, .int (a1)), (4, .int (a2)), (5, .int (a3))]) hx hb dX1_follow_182 hl (by decide) rfl (fun ls hl => ?_)
                refine lv_goto (tgt := 14) hx hb dX1_follow_184 (by decide) ?_
                have tr104 : (I21 (10) 4).toInt = (v12 : Int32).toInt := congrArg Int32.toInt (((hkI21.get (10) 4 rfl)).trans (show (u2 Ia14 (10) 4 (v12)) (10) 4 = v12 from by simp [u2_v]))
                have hop : opn (twC 110 I) x6_14 x7_14 := by rw [← tw14]; exact q18
                have hnm : ¬ isM (twC 110 I) (clN x6_14 x7_14) := fun z => z.1 (by rw [← hmv]; omega)
                have h4n : (I21 (10) 4).toInt = (v12 : Int32).toInt := congrArg Int32.toInt (((hkI21.get (10) 4 rfl)).trans (show (u2 Ia14 (10) 4 (v12)) (10) 4 = v12 from by simp [u2_v]))
                exact ih14 (r20) (x8_14) (v33) (v31) I21 L22 _ _ ls hI hK (by first | omega | decide) (FXA.step hF14 (by omega) (by omega) (by omega) (by omega) hop (STX.n hcS hnm) (by unfold stpW; rw [if_neg hnm]) (by unfold stpL; rw [if_neg hnm]; exact hcL) (by rw [ev31, ev30]; rfl) (by rw [ev33, ev32]; rfl)) (by omega) hM hS (lv_sub hl [3, 5, 0, 1, 6, 7, 8, 9, 10, 11] rfl)
              · have hc29 := c29
                have q29 := q_ne hc29
                refine lv_aload_n hx hb dX1_follow_124 rfl (lv_at hl 7 rfl) ?_
                refine lv_iload hx hb dX1_follow_125 (lv_at hl 0 rfl) ?_
                refine m_calli (m_runV (110) (As := [.int (Ia14 (113) ((r19).toNatClampNeg))]) (rest := []) hx hb hml hown hts hE hM hS hA ce_X8_isWhole tb_838 (V_X8_isWhole_110_l l D A ad ns I21 L22 G (Ia14 (113) ((r19).toNatClampNeg)) hG hI (by first | omega | decide)) rfl rfl ⟨Nat.le_of_ble_eq_true rfl, Nat.le_of_ble_eq_true rfl⟩ (hG.1 110 (by decide)) rfl rfl (by decide) rfl hl.1 rfl (Nat.le_of_ble_eq_true rfl) dX1_follow_127 ⟨Nat.le_of_ble_eq_true rfl, Nat.le_of_ble_eq_true rfl⟩) hS (fun r34 u H locs hw hM hS => ?_)
                obtain ⟨rfl, xr34⟩ := hw
                have hM : Mem D A ad ns I21 L22 G H := hM
                have yr34 := bo01 xr34
                refine lv_if_eq (tgt := 162) hx hb dX1_follow_130 (by decide) (fun c35 => ?_) (fun c35 => ?_)
                · have hc35 := c35
                  have q35 := xr34.f hc35
                  refine lv_iload hx hb dX1_follow_162 (lv_at hl 5 rfl) ?_
                  refine va_getsN hx hb hE.2.2.2.2.2.1.1 hS hown (va_Nw.use rfl (hE.2.1 _ (List.mem_of_getElem? (i := 9) rfl))) (fun _ h => h) dX1_follow_164 ?_
                  refine lv_iload hx hb dX1_follow_167 (lv_at hl 3 rfl) ?_
                  refine va_ti hx hb hE.2.2.2.2.2.1.2 hS (i := x8_14) (vp_in_iff.mpr (by omega)) rfl dX1_follow_169 ?_
                  refine lv_topi (fun v36 ev36 => ?_)
                  have tv36 := stX_r ev36
                  refine lv_iadd hx hb dX1_follow_170 ?_
                  refine lv_topi (fun v37 ev37 => ?_)
                  refine lv_istore (lv' := [(6, .int (v37)), (11, .int (Ia14 (113) ((r19).toNatClampNeg))), (9, .int (r20)), (10, .int (r19)), (8, .int (x8_14)), (7, .int (x7_14)), (0, .ref (ad (10))), (1, .ref (ad (110))), (2, .int (a0)), (3, .int (a1)), (4, .int (a2)), (5, .int (a3))]) hx hb dX1_follow_171 hl (by decide) rfl (fun ls hl => ?_)
                  refine lv_iload hx hb dX1_follow_173 (lv_at hl 5 rfl) ?_
                  refine va_getsN hx hb hE.2.2.2.2.2.2.1.1 hS hown (va_Nw.use rfl (hE.2.1 _ (List.mem_of_getElem? (i := 10) rfl))) (fun _ h => h) dX1_follow_175 ?_
                  refine lv_iload hx hb dX1_follow_178 (lv_at hl 4 rfl) ?_
                  refine va_ti hx hb hE.2.2.2.2.2.2.1.2 hS (i := x8_14) (vp_in_iff.mpr (by omega)) rfl dX1_follow_180 ?_
                  refine lv_topi (fun v38 ev38 => ?_)
                  have tv38 := stY_r ev38
                  refine lv_iadd hx hb dX1_follow_181 ?_
                  refine lv_topi (fun v39 ev39 => ?_)
                  refine lv_istore (lv' := [(7, .int (v39)), (6, .int (v37)), (11, .int (Ia14 (113) ((r19).toNatClampNeg))), (9, .int (r20)), (10, .int (r19)), (8, .int (x8_14)), (0, .ref (ad (10))), (1, .ref (ad (110))), (2, .int (a0)), (3, .int (a1)), (4, .int (a2)), (5, .int (a3))]) hx hb dX1_follow_182 hl (by decide) rfl (fun ls hl => ?_)
                  refine lv_goto (tgt := 14) hx hb dX1_follow_184 (by decide) ?_
                  have tr104 : (I21 (10) 4).toInt = (v12 : Int32).toInt := congrArg Int32.toInt (((hkI21.get (10) 4 rfl)).trans (show (u2 Ia14 (10) 4 (v12)) (10) 4 = v12 from by simp [u2_v]))
                  have hop : opn (twC 110 I) x6_14 x7_14 := by rw [← tw14]; exact q18
                  have hnm : ¬ isM (twC 110 I) (clN x6_14 x7_14) := fun z => q35 (by have z2 := z.2; rw [← hmv] at z2; exact (congrArg Int32.toInt (congrFun (congrFun tw23 5) _)).trans z2)
                  have h4n : (I21 (10) 4).toInt = (v12 : Int32).toInt := congrArg Int32.toInt (((hkI21.get (10) 4 rfl)).trans (show (u2 Ia14 (10) 4 (v12)) (10) 4 = v12 from by simp [u2_v]))
                  exact ih14 (r20) (x8_14) (v39) (v37) I21 L22 _ _ ls hI hK (by first | omega | decide) (FXA.step hF14 (by omega) (by omega) (by omega) (by omega) hop (STX.n hcS hnm) (by unfold stpW; rw [if_neg hnm]) (by unfold stpL; rw [if_neg hnm]; exact hcL) (by rw [ev37, ev36]; rfl) (by rw [ev39, ev38]; rfl)) (by omega) hM hS (lv_sub hl [3, 5, 0, 1, 6, 7, 8, 9, 10, 11] rfl)
                · have hc35 := c35
                  have q35 := xr34.t hc35
                  refine lv_aload_n hx hb dX1_follow_133 rfl (lv_at hl 6 rfl) ?_
                  refine lv_aload_n hx hb dX1_follow_134 rfl (lv_at hl 7 rfl) ?_
                  refine lv_iload hx hb dX1_follow_135 (lv_at hl 0 rfl) ?_
                  refine lv_iload hx hb dX1_follow_137 (lv_at hl 2 rfl) ?_
                  refine lv_bipush (v := (8)) hx hb dX1_follow_139 (by decide) ?_
                  refine lv_imul hx hb dX1_follow_141 ?_
                  refine lv_topi (fun v40 ev40 => ?_)
                  have tv40 := a_mulR (c := 8) ev40 (by decide) (by omega) (by omega)
                  refine lv_iload hx hb dX1_follow_142 (lv_at hl 3 rfl) ?_
                  refine lv_iadd hx hb dX1_follow_144 ?_
                  refine lv_topi (fun v41 ev41 => ?_)
                  have tv41 := a_add ev41 (by omega) (by omega)
                  refine lv_iload hx hb dX1_follow_145 (lv_at hl 1 rfl) ?_
                  refine m_calli (m_runV (10) (As := [.ref (ad (110)), .int (Ia14 (113) ((r19).toNatClampNeg)), .int (v41), .int (r20)]) (rest := []) hx hb hml hown hts hE hM hS hA ce_X1_passMirror tb_842 (V_X1_passMirror_110_l l D A ad ns I21 L22 G (Ia14 (113) ((r19).toNatClampNeg)) (v41) (r20) hG hI (by first | omega | decide) (by first | omega | decide)) rfl rfl ⟨Nat.le_of_ble_eq_true rfl, Nat.le_of_ble_eq_true rfl⟩ (hG.1 10 (by decide)) rfl rfl (by decide) rfl hl.1 rfl (Nat.le_of_ble_eq_true rfl) dX1_follow_147 ⟨Nat.le_of_ble_eq_true rfl, Nat.le_of_ble_eq_true rfl⟩) hS (fun r42 u H locs hw hM hS => ?_)
                  obtain ⟨I43, L44, rfl, hI, hkI43, xr42⟩ := hw
                  have hM : Mem D A ad ns I43 L44 G H := hM
                  have hK := hK.trans hkI43 rfl
                  rw [tw23] at xr42
                  refine lv_istore (lv' := [(9, .int (r42)), (11, .int (Ia14 (113) ((r19).toNatClampNeg))), (10, .int (r19)), (8, .int (x8_14)), (7, .int (x7_14)), (6, .int (x6_14)), (0, .ref (ad (10))), (1, .ref (ad (110))), (2, .int (a0)), (3, .int (a1)), (4, .int (a2)), (5, .int (a3))]) hx hb dX1_follow_150 hl (by decide) rfl (fun ls hl => ?_)
                  refine lv_aload_n hx hb dX1_follow_152 rfl (lv_at hl 7 rfl) ?_
                  refine lv_iload hx hb dX1_follow_153 (lv_at hl 1 rfl) ?_
                  refine lv_iload hx hb dX1_follow_155 (lv_at hl 3 rfl) ?_
                  have tw45 : twC 110 I43 = twC 110 I := twC_kp hK rfl
                  refine m_calli (m_runV (110) (As := [.int (Ia14 (113) ((r19).toNatClampNeg)), .int (x8_14)]) (rest := []) hx hb hml hown hts hE hM hS hA ce_X8_wayFrom tb_855 (V_X8_wayFrom_110_l l D A ad ns I43 L44 G (Ia14 (113) ((r19).toNatClampNeg)) (x8_14) hG hI (by first | omega | decide)) rfl rfl ⟨Nat.le_of_ble_eq_true rfl, Nat.le_of_ble_eq_true rfl⟩ (hG.1 110 (by decide)) rfl rfl (by decide) rfl hl.1 rfl (Nat.le_of_ble_eq_true rfl) dX1_follow_157 ⟨Nat.le_of_ble_eq_true rfl, Nat.le_of_ble_eq_true rfl⟩) hS (fun r46 u H locs hw hM hS => ?_)
                  obtain ⟨rfl, xr46⟩ := hw
                  have hM : Mem D A ad ns I43 L44 G H := hM
                  rw [tw45] at xr46
                  refine lv_istore (lv' := [(8, .int (r46)), (9, .int (r42)), (11, .int (Ia14 (113) ((r19).toNatClampNeg))), (10, .int (r19)), (7, .int (x7_14)), (6, .int (x6_14)), (0, .ref (ad (10))), (1, .ref (ad (110))), (2, .int (a0)), (3, .int (a1)), (4, .int (a2)), (5, .int (a3))]) hx hb dX1_follow_160 hl (by decide) rfl (fun ls hl => ?_)
                  refine lv_iload hx hb dX1_follow_162 (lv_at hl 5 rfl) ?_
                  refine va_getsN hx hb hE.2.2.2.2.2.1.1 hS hown (va_Nw.use rfl (hE.2.1 _ (List.mem_of_getElem? (i := 9) rfl))) (fun _ h => h) dX1_follow_164 ?_
                  refine lv_iload hx hb dX1_follow_167 (lv_at hl 0 rfl) ?_
                  refine va_ti hx hb hE.2.2.2.2.2.1.2 hS (i := r46) (vp_in_iff.mpr (by omega)) rfl dX1_follow_169 ?_
                  refine lv_topi (fun v47 ev47 => ?_)
                  have tv47 := stX_r ev47
                  refine lv_iadd hx hb dX1_follow_170 ?_
                  refine lv_topi (fun v48 ev48 => ?_)
                  refine lv_istore (lv' := [(6, .int (v48)), (8, .int (r46)), (9, .int (r42)), (11, .int (Ia14 (113) ((r19).toNatClampNeg))), (10, .int (r19)), (7, .int (x7_14)), (0, .ref (ad (10))), (1, .ref (ad (110))), (2, .int (a0)), (3, .int (a1)), (4, .int (a2)), (5, .int (a3))]) hx hb dX1_follow_171 hl (by decide) rfl (fun ls hl => ?_)
                  refine lv_iload hx hb dX1_follow_173 (lv_at hl 5 rfl) ?_
                  refine va_getsN hx hb hE.2.2.2.2.2.2.1.1 hS hown (va_Nw.use rfl (hE.2.1 _ (List.mem_of_getElem? (i := 10) rfl))) (fun _ h => h) dX1_follow_175 ?_
                  refine lv_iload hx hb dX1_follow_178 (lv_at hl 1 rfl) ?_
                  refine va_ti hx hb hE.2.2.2.2.2.2.1.2 hS (i := r46) (vp_in_iff.mpr (by omega)) rfl dX1_follow_180 ?_
                  refine lv_topi (fun v49 ev49 => ?_)
                  have tv49 := stY_r ev49
                  refine lv_iadd hx hb dX1_follow_181 ?_
                  refine lv_topi (fun v50 ev50 => ?_)
                  refine lv_istore (lv' := [(7, .int (v50)), (6, .int (v48)), (8, .int (r46)), (9, .int (r42)), (11, .int (Ia14 (113) ((r19).toNatClampNeg))), (10, .int (r19)), (0, .ref (ad (10))), (1, .ref (ad (110))), (2, .int (a0)), (3, .int (a1)), (4, .int (a2)), (5, .int (a3))]) hx hb dX1_follow_182 hl (by decide) rfl (fun ls hl => ?_)
                  refine lv_goto (tgt := 14) hx hb dX1_follow_184 (by decide) ?_
                  have tr104 : (I43 (10) 4).toInt = (v12 : Int32).toInt := congrArg Int32.toInt ((((hkI43.get (10) 4 rfl)).trans (hkI21.get (10) 4 rfl)).trans (show (u2 Ia14 (10) 4 (v12)) (10) 4 = v12 from by simp [u2_v]))
                  have hop : opn (twC 110 I) x6_14 x7_14 := by rw [← tw14]; exact q18
                  have hym : isM (twC 110 I) (clN x6_14 x7_14) := ⟨by rw [← hmv]; omega, by rw [← hmv]; exact (congrArg Int32.toInt (congrFun (congrFun tw23 5) _)).symm.trans q35⟩
                  rw [hmv] at xr46
                  rw [hmv, hcL] at xr42
                  have h4n : (I43 (10) 4).toInt = (v12 : Int32).toInt := congrArg Int32.toInt ((((hkI43.get (10) 4 rfl)).trans (hkI21.get (10) 4 rfl)).trans (show (u2 Ia14 (10) 4 (v12)) (10) 4 = v12 from by simp [u2_v]))
                  exact ih14 (r42) (r46) (v50) (v48) I43 L44 _ _ ls hI hK (by first | omega | decide) (FXA.step hF14 (by omega) (by omega) (by omega) (by omega) hop (STX.y hcS hym xr42.2 (by omega) (by omega) (by omega) (by omega)) (by unfold stpW; rw [if_pos hym]; exact xr46.1) (by unfold stpL; rw [if_pos hym]; exact xr42.1) (by rw [ev48, ev47]; rfl) (by rw [ev50, ev49]; rfl)) (by omega) hM hS (lv_sub hl [3, 2, 0, 1, 6, 7, 8, 9, 10, 11] rfl)
            · have hc26 := c26
              have q26 := q_ne hc26
              refine lv_aload_n hx hb dX1_follow_93 rfl (lv_at hl 5 rfl) ?_
              refine lv_aload_n hx hb dX1_follow_94 rfl (lv_at hl 6 rfl) ?_
              refine lv_aload_n hx hb dX1_follow_95 rfl (lv_at hl 6 rfl) ?_
              refine m_getr (110) 13 (114) hx hb hts hown hE oc8 hM (hG.1 110 (by decide)) rfl (by decide) rfl (hG.2 (110, 13, 114) (by decide)) (by decide) tb_76 dX1_follow_96 ?_
              refine lv_iload hx hb dX1_follow_99 (lv_at hl 1 rfl) ?_
              refine m_iald (114) hx hb hE hM (hG.1 114 (by decide)) rfl (vp_in_iff.mpr (by omega)) dX1_follow_101 ?_
              have z51 : I21 (114) (r19).toNatClampNeg = Ia14 (114) ((r19).toNatClampNeg) := ((congrFun (hkI21.getA (114) rfl) ((r19).toNatClampNeg))).trans (show (u2 Ia14 (10) 4 (v12)) (114) ((r19).toNatClampNeg) = Ia14 (114) ((r19).toNatClampNeg) from by simp [u2_v])
              rw [z51]
              refine lv_iload hx hb dX1_follow_102 (lv_at hl 0 rfl) ?_
              refine m_calli (m_runV (10) (As := [.ref (ad (110)), .int (Ia14 (114) ((r19).toNatClampNeg)), .int (r20)]) (rest := []) hx hb hml hown hts hE hM hS hA ce_X1_passYard tb_830 (V_X1_passYard_110_l l D A ad ns I21 L22 G (Ia14 (114) ((r19).toNatClampNeg)) (r20) hG hI (by first | omega | decide)) rfl rfl ⟨Nat.le_of_ble_eq_true rfl, Nat.le_of_ble_eq_true rfl⟩ (hG.1 10 (by decide)) rfl rfl (by decide) rfl hl.1 rfl (Nat.le_of_ble_eq_true rfl) dX1_follow_104 ⟨Nat.le_of_ble_eq_true rfl, Nat.le_of_ble_eq_true rfl⟩) hS (fun r52 u H locs hw hM hS => ?_)
              obtain ⟨I53, L54, rfl, hI, hkI53, xr52⟩ := hw
              have hM : Mem D A ad ns I53 L54 G H := hM
              have hK := hK.trans hkI53 rfl
              have htk : I21 118 (16 + ((twC 110 I).yat (clN x6_14 x7_14)).toNatClampNeg) = (twC 110 I).tk ((twC 110 I).yat (clN x6_14 x7_14)).toNatClampNeg := congrFun (congrFun tw23 4) _
              rw [hyv, htk] at xr52
              refine lv_istore (lv' := [(9, .int (r52)), (10, .int (r19)), (8, .int (x8_14)), (7, .int (x7_14)), (6, .int (x6_14)), (0, .ref (ad (10))), (1, .ref (ad (110))), (2, .int (a0)), (3, .int (a1)), (4, .int (a2)), (5, .int (a3))]) hx hb dX1_follow_107 hl (by decide) rfl (fun ls hl => ?_)
              have hyn : ((twC 110 I).yat (clN x6_14 x7_14)).toInt ≠ -1 := by rw [← hyv]; omega
              rw [hl1] at xr52
              have hcL : r52 = cellL (twC 110 I) x6_14 x7_14 x9_14 := cellL_y hyn xr52.1
              have hcS : CEl (twC 110 I) x6_14 x7_14 x9_14 Ia14 I53 := CEl.y v12 ha1 hyn xr52.2
              refine lv_aload_n hx hb dX1_follow_109 rfl (lv_at hl 6 rfl) ?_
              refine m_getr (110) 12 (113) hx hb hts hown hE oc8 hM (hG.1 110 (by decide)) rfl (by decide) rfl (hG.2 (110, 12, 113) (by decide)) (by decide) tb_74 dX1_follow_110 ?_
              refine lv_iload hx hb dX1_follow_113 (lv_at hl 1 rfl) ?_
              refine m_iald (113) hx hb hE hM (hG.1 113 (by decide)) rfl (vp_in_iff.mpr (by omega)) dX1_follow_115 ?_
              have g55 := hI.get (113) ((r19).toNatClampNeg) (lo := -1) (hi := 23) rfl
              have z56 : I53 (113) (r19).toNatClampNeg = Ia14 (113) ((r19).toNatClampNeg) := (((congrFun (hkI53.getA (113) rfl) ((r19).toNatClampNeg))).trans (congrFun (hkI21.getA (113) rfl) ((r19).toNatClampNeg))).trans (show (u2 Ia14 (10) 4 (v12)) (113) ((r19).toNatClampNeg) = Ia14 (113) ((r19).toNatClampNeg) from by simp [u2_v])
              rw [z56] at g55 ⊢
              refine lv_istore (lv' := [(11, .int (Ia14 (113) ((r19).toNatClampNeg))), (9, .int (r52)), (10, .int (r19)), (8, .int (x8_14)), (7, .int (x7_14)), (6, .int (x6_14)), (0, .ref (ad (10))), (1, .ref (ad (110))), (2, .int (a0)), (3, .int (a1)), (4, .int (a2)), (5, .int (a3))]) hx hb dX1_follow_116 hl (by decide) rfl (fun ls hl => ?_)
              refine lv_iload hx hb dX1_follow_118 (lv_at hl 0 rfl) ?_
              refine lv_iconst (v := (-1)) hx hb dX1_follow_120 (by decide) ?_
              refine lv_icmp_eq (tgt := 162) hx hb dX1_follow_121 (by decide) (fun c57 => ?_) (fun c57 => ?_)
              · have hc57 := c57
                have q57 := q_eq hc57
                refine lv_iload hx hb dX1_follow_162 (lv_at hl 5 rfl) ?_
                refine va_getsN hx hb hE.2.2.2.2.2.1.1 hS hown (va_Nw.use rfl (hE.2.1 _ (List.mem_of_getElem? (i := 9) rfl))) (fun _ h => h) dX1_follow_164 ?_
                refine lv_iload hx hb dX1_follow_167 (lv_at hl 3 rfl) ?_
                refine va_ti hx hb hE.2.2.2.2.2.1.2 hS (i := x8_14) (vp_in_iff.mpr (by omega)) rfl dX1_follow_169 ?_
                refine lv_topi (fun v58 ev58 => ?_)
                have tv58 := stX_r ev58
                refine lv_iadd hx hb dX1_follow_170 ?_
                refine lv_topi (fun v59 ev59 => ?_)
                refine lv_istore (lv' := [(6, .int (v59)), (11, .int (Ia14 (113) ((r19).toNatClampNeg))), (9, .int (r52)), (10, .int (r19)), (8, .int (x8_14)), (7, .int (x7_14)), (0, .ref (ad (10))), (1, .ref (ad (110))), (2, .int (a0)), (3, .int (a1)), (4, .int (a2)), (5, .int (a3))]) hx hb dX1_follow_171 hl (by decide) rfl (fun ls hl => ?_)
                refine lv_iload hx hb dX1_follow_173 (lv_at hl 5 rfl) ?_
                refine va_getsN hx hb hE.2.2.2.2.2.2.1.1 hS hown (va_Nw.use rfl (hE.2.1 _ (List.mem_of_getElem? (i := 10) rfl))) (fun _ h => h) dX1_follow_175 ?_
                refine lv_iload hx hb dX1_follow_178 (lv_at hl 4 rfl) ?_
                refine va_ti hx hb hE.2.2.2.2.2.2.1.2 hS (i := x8_14) (vp_in_iff.mpr (by omega)) rfl dX1_follow_180 ?_
                refine lv_topi (fun v60 ev60 => ?_)
                have tv60 := stY_r ev60
                refine lv_iadd hx hb dX1_follow_181 ?_
                refine lv_topi (fun v61 ev61 => ?_)
                refine lv_istore (lv' := [(7, .int (v61)), (6, .int (v59)), (11, .int (Ia14 (113) ((r19).toNatClampNeg))), (9, .int (r52)), (10, .int (r19)), (8, .int (x8_14)), (0, .ref (ad (10))), (1, .ref (ad (110))), (2, .int (a0)), (3, .int (a1)), (4, .int (a2)), (5, .int (a3))]) hx hb dX1_follow_182 hl (by decide) rfl (fun ls hl => ?_)
                refine lv_goto (tgt := 14) hx hb dX1_follow_184 (by decide) ?_
                have tr104 : (I53 (10) 4).toInt = (v12 : Int32).toInt := congrArg Int32.toInt ((((hkI53.get (10) 4 rfl)).trans (hkI21.get (10) 4 rfl)).trans (show (u2 Ia14 (10) 4 (v12)) (10) 4 = v12 from by simp [u2_v]))
                have hop : opn (twC 110 I) x6_14 x7_14 := by rw [← tw14]; exact q18
                have hnm : ¬ isM (twC 110 I) (clN x6_14 x7_14) := fun z => z.1 (by rw [← hmv]; omega)
                have h4n : (I53 (10) 4).toInt = (v12 : Int32).toInt := congrArg Int32.toInt ((((hkI53.get (10) 4 rfl)).trans (hkI21.get (10) 4 rfl)).trans (show (u2 Ia14 (10) 4 (v12)) (10) 4 = v12 from by simp [u2_v]))
                exact ih14 (r52) (x8_14) (v61) (v59) I53 L54 _ _ ls hI hK (by first | omega | decide) (FXA.step hF14 (by omega) (by omega) (by omega) (by omega) hop (STX.n hcS hnm) (by unfold stpW; rw [if_neg hnm]) (by unfold stpL; rw [if_neg hnm]; exact hcL) (by rw [ev59, ev58]; rfl) (by rw [ev61, ev60]; rfl)) (by omega) hM hS (lv_sub hl [3, 5, 0, 1, 6, 7, 8, 9, 10, 11] rfl)
              · have hc57 := c57
                have q57 := q_ne hc57
                refine lv_aload_n hx hb dX1_follow_124 rfl (lv_at hl 7 rfl) ?_
                refine lv_iload hx hb dX1_follow_125 (lv_at hl 0 rfl) ?_
                have tw62 : twC 110 I53 = twC 110 I := twC_kp hK rfl
                refine m_calli (m_runV (110) (As := [.int (Ia14 (113) ((r19).toNatClampNeg))]) (rest := []) hx hb hml hown hts hE hM hS hA ce_X8_isWhole tb_838 (V_X8_isWhole_110_l l D A ad ns I53 L54 G (Ia14 (113) ((r19).toNatClampNeg)) hG hI (by first | omega | decide)) rfl rfl ⟨Nat.le_of_ble_eq_true rfl, Nat.le_of_ble_eq_true rfl⟩ (hG.1 110 (by decide)) rfl rfl (by decide) rfl hl.1 rfl (Nat.le_of_ble_eq_true rfl) dX1_follow_127 ⟨Nat.le_of_ble_eq_true rfl, Nat.le_of_ble_eq_true rfl⟩) hS (fun r63 u H locs hw hM hS => ?_)
                obtain ⟨rfl, xr63⟩ := hw
                have hM : Mem D A ad ns I53 L54 G H := hM
                have yr63 := bo01 xr63
                refine lv_if_eq (tgt := 162) hx hb dX1_follow_130 (by decide) (fun c64 => ?_) (fun c64 => ?_)
                · have hc64 := c64
                  have q64 := xr63.f hc64
                  refine lv_iload hx hb dX1_follow_162 (lv_at hl 5 rfl) ?_
                  refine va_getsN hx hb hE.2.2.2.2.2.1.1 hS hown (va_Nw.use rfl (hE.2.1 _ (List.mem_of_getElem? (i := 9) rfl))) (fun _ h => h) dX1_follow_164 ?_
                  refine lv_iload hx hb dX1_follow_167 (lv_at hl 3 rfl) ?_
                  refine va_ti hx hb hE.2.2.2.2.2.1.2 hS (i := x8_14) (vp_in_iff.mpr (by omega)) rfl dX1_follow_169 ?_
                  refine lv_topi (fun v65 ev65 => ?_)
                  have tv65 := stX_r ev65
                  refine lv_iadd hx hb dX1_follow_170 ?_
                  refine lv_topi (fun v66 ev66 => ?_)
                  refine lv_istore (lv' := [(6, .int (v66)), (11, .int (Ia14 (113) ((r19).toNatClampNeg))), (9, .int (r52)), (10, .int (r19)), (8, .int (x8_14)), (7, .int (x7_14)), (0, .ref (ad (10))), (1, .ref (ad (110))), (2, .int (a0)), (3, .int (a1)), (4, .int (a2)), (5, .int (a3))]) hx hb dX1_follow_171 hl (by decide) rfl (fun ls hl => ?_)
                  refine lv_iload hx hb dX1_follow_173 (lv_at hl 5 rfl) ?_
                  refine va_getsN hx hb hE.2.2.2.2.2.2.1.1 hS hown (va_Nw.use rfl (hE.2.1 _ (List.mem_of_getElem? (i := 10) rfl))) (fun _ h => h) dX1_follow_175 ?_
                  refine lv_iload hx hb dX1_follow_178 (lv_at hl 4 rfl) ?_
                  refine va_ti hx hb hE.2.2.2.2.2.2.1.2 hS (i := x8_14) (vp_in_iff.mpr (by omega)) rfl dX1_follow_180 ?_
                  refine lv_topi (fun v67 ev67 => ?_)
                  have tv67 := stY_r ev67
                  refine lv_iadd hx hb dX1_follow_181 ?_
                  refine lv_topi (fun v68 ev68 => ?_)
                  refine lv_istore (lv' := [(7, .int (v68)), (6, .int (v66)), (11, .int (Ia14 (113) ((r19).toNatClampNeg))), (9, .int (r52)), (10, .int (r19)), (8, .int (x8_14)), (0, .ref (ad (10))), (1, .ref (ad (110))), (2, .int (a0)), (3, .int (a1)), (4, .int (a2)), (5, .int (a3))]) hx hb dX1_follow_182 hl (by decide) rfl (fun ls hl => ?_)
                  refine lv_goto (tgt := 14) hx hb dX1_follow_184 (by decide) ?_
                  have tr104 : (I53 (10) 4).toInt = (v12 : Int32).toInt := congrArg Int32.toInt ((((hkI53.get (10) 4 rfl)).trans (hkI21.get (10) 4 rfl)).trans (show (u2 Ia14 (10) 4 (v12)) (10) 4 = v12 from by simp [u2_v]))
                  have hop : opn (twC 110 I) x6_14 x7_14 := by rw [← tw14]; exact q18
                  have hnm : ¬ isM (twC 110 I) (clN x6_14 x7_14) := fun z => q64 (by have z2 := z.2; rw [← hmv] at z2; exact (congrArg Int32.toInt (congrFun (congrFun tw62 5) _)).trans z2)
                  have h4n : (I53 (10) 4).toInt = (v12 : Int32).toInt := congrArg Int32.toInt ((((hkI53.get (10) 4 rfl)).trans (hkI21.get (10) 4 rfl)).trans (show (u2 Ia14 (10) 4 (v12)) (10) 4 = v12 from by simp [u2_v]))
                  exact ih14 (r52) (x8_14) (v68) (v66) I53 L54 _ _ ls hI hK (by first | omega | decide) (FXA.step hF14 (by omega) (by omega) (by omega) (by omega) hop (STX.n hcS hnm) (by unfold stpW; rw [if_neg hnm]) (by unfold stpL; rw [if_neg hnm]; exact hcL) (by rw [ev66, ev65]; rfl) (by rw [ev68, ev67]; rfl)) (by omega) hM hS (lv_sub hl [3, 5, 0, 1, 6, 7, 8, 9, 10, 11] rfl)
                · have hc64 := c64
                  have q64 := xr63.t hc64
                  refine lv_aload_n hx hb dX1_follow_133 rfl (lv_at hl 6 rfl) ?_
                  refine lv_aload_n hx hb dX1_follow_134 rfl (lv_at hl 7 rfl) ?_
                  refine lv_iload hx hb dX1_follow_135 (lv_at hl 0 rfl) ?_
                  refine lv_iload hx hb dX1_follow_137 (lv_at hl 2 rfl) ?_
                  refine lv_bipush (v := (8)) hx hb dX1_follow_139 (by decide) ?_
                  refine lv_imul hx hb dX1_follow_141 ?_
                  refine lv_topi (fun v69 ev69 => ?_)
                  have tv69 := a_mulR (c := 8) ev69 (by decide) (by omega) (by omega)
                  refine lv_iload hx hb dX1_follow_142 (lv_at hl 3 rfl) ?_
                  refine lv_iadd hx hb dX1_follow_144 ?_
                  refine lv_topi (fun v70 ev70 => ?_)
                  have tv70 := a_add ev70 (by omega) (by omega)
                  refine lv_iload hx hb dX1_follow_145 (lv_at hl 1 rfl) ?_
                  refine m_calli (m_runV (10) (As := [.ref (ad (110)), .int (Ia14 (113) ((r19).toNatClampNeg)), .int (v70), .int (r52)]) (rest := []) hx hb hml hown hts hE hM hS hA ce_X1_passMirror tb_842 (V_X1_passMirror_110_l l D A ad ns I53 L54 G (Ia14 (113) ((r19).toNatClampNeg)) (v70) (r52) hG hI (by first | omega | decide) (by first | omega | decide)) rfl rfl ⟨Nat.le_of_ble_eq_true rfl, Nat.le_of_ble_eq_true rfl⟩ (hG.1 10 (by decide)) rfl rfl (by decide) rfl hl.1 rfl (Nat.le_of_ble_eq_true rfl) dX1_follow_147 ⟨Nat.le_of_ble_eq_true rfl, Nat.le_of_ble_eq_true rfl⟩) hS (fun r71 u H locs hw hM hS => ?_)
                  obtain ⟨I72, L73, rfl, hI, hkI72, xr71⟩ := hw
                  have hM : Mem D A ad ns I72 L73 G H := hM
                  have hK := hK.trans hkI72 rfl
                  rw [tw62] at xr71
                  refine lv_istore (lv' := [(9, .int (r71)), (11, .int (Ia14 (113) ((r19).toNatClampNeg))), (10, .int (r19)), (8, .int (x8_14)), (7, .int (x7_14)), (6, .int (x6_14)), (0, .ref (ad (10))), (1, .ref (ad (110))), (2, .int (a0)), (3, .int (a1)), (4, .int (a2)), (5, .int (a3))]) hx hb dX1_follow_150 hl (by decide) rfl (fun ls hl => ?_)
                  refine lv_aload_n hx hb dX1_follow_152 rfl (lv_at hl 7 rfl) ?_
                  refine lv_iload hx hb dX1_follow_153 (lv_at hl 1 rfl) ?_
                  refine lv_iload hx hb dX1_follow_155 (lv_at hl 3 rfl) ?_
                  have tw74 : twC 110 I72 = twC 110 I := twC_kp hK rfl
                  refine m_calli (m_runV (110) (As := [.int (Ia14 (113) ((r19).toNatClampNeg)), .int (x8_14)]) (rest := []) hx hb hml hown hts hE hM hS hA ce_X8_wayFrom tb_855 (V_X8_wayFrom_110_l l D A ad ns I72 L73 G (Ia14 (113) ((r19).toNatClampNeg)) (x8_14) hG hI (by first | omega | decide)) rfl rfl ⟨Nat.le_of_ble_eq_true rfl, Nat.le_of_ble_eq_true rfl⟩ (hG.1 110 (by decide)) rfl rfl (by decide) rfl hl.1 rfl (Nat.le_of_ble_eq_true rfl) dX1_follow_157 ⟨Nat.le_of_ble_eq_true rfl, Nat.le_of_ble_eq_true rfl⟩) hS (fun r75 u H locs hw hM hS => ?_)
                  obtain ⟨rfl, xr75⟩ := hw
                  have hM : Mem D A ad ns I72 L73 G H := hM
                  rw [tw74] at xr75
                  refine lv_istore (lv' := [(8, .int (r75)), (9, .int (r71)), (11, .int (Ia14 (113) ((r19).toNatClampNeg))), (10, .int (r19)), (7, .int (x7_14)), (6, .int (x6_14)), (0, .ref (ad (10))), (1, .ref (ad (110))), (2, .int (a0)), (3, .int (a1)), (4, .int (a2)), (5, .int (a3))]) hx hb dX1_follow_160 hl (by decide) rfl (fun ls hl => ?_)
                  refine lv_iload hx hb dX1_follow_162 (lv_at hl 5 rfl) ?_
                  refine va_getsN hx hb hE.2.2.2.2.2.1.1 hS hown (va_Nw.use rfl (hE.2.1 _ (List.mem_of_getElem? (i := 9) rfl))) (fun _ h => h) dX1_follow_164 ?_
                  refine lv_iload hx hb dX1_follow_167 (lv_at hl 0 rfl) ?_
                  refine va_ti hx hb hE.2.2.2.2.2.1.2 hS (i := r75) (vp_in_iff.mpr (by omega)) rfl dX1_follow_169 ?_
                  refine lv_topi (fun v76 ev76 => ?_)
                  have tv76 := stX_r ev76
                  refine lv_iadd hx hb dX1_follow_170 ?_
                  refine lv_topi (fun v77 ev77 => ?_)
                  refine lv_istore (lv' := [(6, .int (v77)), (8, .int (r75)), (9, .int (r71)), (11, .int (Ia14 (113) ((r19).toNatClampNeg))), (10, .int (r19)), (7, .int (x7_14)), (0, .ref (ad (10))), (1, .ref (ad (110))), (2, .int (a0)), (3, .int (a1)), (4, .int (a2)), (5, .int (a3))]) hx hb dX1_follow_171 hl (by decide) rfl (fun ls hl => ?_)
                  refine lv_iload hx hb dX1_follow_173 (lv_at hl 5 rfl) ?_
                  refine va_getsN hx hb hE.2.2.2.2.2.2.1.1 hS hown (va_Nw.use rfl (hE.2.1 _ (List.mem_of_getElem? (i := 10) rfl))) (fun _ h => h) dX1_follow_175 ?_
                  refine lv_iload hx hb dX1_follow_178 (lv_at hl 1 rfl) ?_
                  refine va_ti hx hb hE.2.2.2.2.2.2.1.2 hS (i := r75) (vp_in_iff.mpr (by omega)) rfl dX1_follow_180 ?_
                  refine lv_topi (fun v78 ev78 => ?_)
                  have tv78 := stY_r ev78
                  refine lv_iadd hx hb dX1_follow_181 ?_
                  refine lv_topi (fun v79 ev79 => ?_)
                  refine lv_istore (lv' := [(7, .int (v79)), (6, .int (v77)), (8, .int (r75)), (9, .int (r71)), (11, .int (Ia14 (113) ((r19).toNatClampNeg))), (10, .int (r19)), (0, .ref (ad (10))), (1, .ref (ad (110))), (2, .int (a0)), (3, .int (a1)), (4, .int (a2)), (5, .int (a3))]) hx hb dX1_follow_182 hl (by decide) rfl (fun ls hl => ?_)
                  refine lv_goto (tgt := 14) hx hb dX1_follow_184 (by decide) ?_
                  have tr104 : (I72 (10) 4).toInt = (v12 : Int32).toInt := congrArg Int32.toInt (((((hkI72.get (10) 4 rfl)).trans (hkI53.get (10) 4 rfl)).trans (hkI21.get (10) 4 rfl)).trans (show (u2 Ia14 (10) 4 (v12)) (10) 4 = v12 from by simp [u2_v]))
                  have hop : opn (twC 110 I) x6_14 x7_14 := by rw [← tw14]; exact q18
                  have hym : isM (twC 110 I) (clN x6_14 x7_14) := ⟨by rw [← hmv]; omega, by rw [← hmv]; exact (congrArg Int32.toInt (congrFun (congrFun tw62 5) _)).symm.trans q64⟩
                  rw [hmv] at xr75
                  rw [hmv, hcL] at xr71
                  have h4n : (I72 (10) 4).toInt = (v12 : Int32).toInt := congrArg Int32.toInt (((((hkI72.get (10) 4 rfl)).trans (hkI53.get (10) 4 rfl)).trans (hkI21.get (10) 4 rfl)).trans (show (u2 Ia14 (10) 4 (v12)) (10) 4 = v12 from by simp [u2_v]))
                  exact ih14 (r71) (r75) (v79) (v77) I72 L73 _ _ ls hI hK (by first | omega | decide) (FXA.step hF14 (by omega) (by omega) (by omega) (by omega) hop (STX.y hcS hym xr71.2 (by omega) (by omega) (by omega) (by omega)) (by unfold stpW; rw [if_pos hym]; exact xr75.1) (by unfold stpL; rw [if_pos hym]; exact xr71.1) (by rw [ev77, ev76]; rfl) (by rw [ev79, ev78]; rfl)) (by omega) hM hS (lv_sub hl [3, 2, 0, 1, 6, 7, 8, 9, 10, 11] rfl)
          · have hc18 := c18
            have q18 := xr15.f hc18
            refine lv_aload_n hx hb dX1_follow_50 rfl (lv_at hl 4 rfl) ?_
            refine lv_dup hx hb dX1_follow_51 rfl ?_
            refine m_geti (10) 3 hx hb hts hown hE oc1 hM (hG.1 10 (by decide)) rfl (by decide) rfl tb_138 dX1_follow_52 ?_
            have z80 : (u2 Ia14 (10) 4 (v12)) (10) 3 = Ia14 (10) 3 := (show (u2 Ia14 (10) 4 (v12)) (10) 3 = Ia14 (10) 3 from by simp [u2_v])
            rw [z80]
            refine lv_iload hx hb dX1_follow_55 (lv_at hl 0 rfl) ?_
            refine lv_iadd hx hb dX1_follow_57 ?_
            refine lv_topi (fun v81 ev81 => ?_)
            refine m_puti (10) 3 hx hb hts hown hE oc1 hM hS (hG.1 10 (by decide)) rfl (by decide) rfl rfl rfl rfl tb_138 dX1_follow_58 (fun H locs I82 eI82 hM hS => ?_)
            subst eI82
            have hI := hI.putF (n := 10) (k := 3) (v := v81) rfl
            have hK := hK.put (n := 10) (k := 3) (v := v81) (by first | rfl | simp [inR])
            exact m_vret hx hb hr hlocks hM hS (Nat.le_of_ble_eq_true rfl) (Nat.le_of_ble_eq_true rfl) ⟨_, _, rfl, hI, hK, (by subst ev81; exact FXA.shut hF14 (by omega) (by omega) (by omega) (by omega) (fun z => q18 (by rw [← tw14] at z; exact z)))⟩ dX1_follow_61
  exact loop14 (_ + 1) (a3) (a2) (a1) (a0) I L _ _ ls hI hK (by first | omega | decide) FXA.z (Nat.lt_succ_self _) hM hS (lv_sub hl [0, 1, 2, 3, 4, 5, 6, 7, 8, 9] rfl)
set_option maxHeartbeats 4000000 in
set_option maxRecDepth 20000 in
theorem V_X1_shine_110_l (l : Launch) (D : va_G) (A : Nat → Prop) (ad : Nat → Nat) (ns : List Nat) (I : MI) (L : ML) (G : MG) (a0 : Int32) (hG : SGC ns G) (hI : INV I) (hlit : Lit 110 I a0) (ha0 : 0 ≤ a0.toInt ∧ a0.toInt ≤ 23) : Met l yX1_shine (wd yX1_shine cX1_shine 8 none) ({ frames := 3, cells := 0, slots := 0, locals := 80 }) (va_Pc [.ref (ad (10)), .ref (ad (110)), .int a0] (PM D A ad ns I L G)) (va_Qv (fun u => ∃ I2 L2, u = (ad, ns, I2, L2, G) ∧ INV I2 ∧ Kp [(11, 15)] [(10, 2), (10, 3), (10, 4), (10, 5), (10, 6), (10, 7), (10, 11), (10, 12)] I I2 ∧ (SHE 110 I I2 a0)) (BM D A) A) 0 0 A := by
  refine m_ofW (by decide) (Nat.le_of_ble_eq_true rfl) ?_
  intro p e s m below meth c ls args hC hE hM hA hS hl
  obtain ⟨hx, hb, hml, hown, hts, hr, hlocks, hin⟩ := hC
  have k0 : (0 : Int32).toInt = 0 := by decide
  have k1 : (1 : Int32).toInt = 1 := by decide
  have k8 : (8 : Int32).toInt = 8 := by decide
  have k24 : (24 : Int32).toInt = 24 := by decide
  have k60 : (60 : Int32).toInt = 60 := by decide
  have k2000 : (2000 : Int32).toInt = 2000 := by decide
  have hK : Kp [(11, 15)] [(10, 2), (10, 3), (10, 4), (10, 5), (10, 6), (10, 7), (10, 11), (10, 12)] I I := Kp.rf
  have hl : lv_has ls 8 [(0, .ref (ad (10))), (1, .ref (ad (110))), (2, .int (a0))] := hl
  refine lv_aload_n hx hb dX1_shine_0 rfl (lv_at hl 0 rfl) ?_
  have tw1 : twC 110 I = twC 110 I := twC_kp hK rfl
  refine m_callv (m_runV (10) (As := []) (rest := []) hx hb hml hown hts hE hM hS hA ce_X1_clear tb_805 (V_X1_clear_l l D A ad ns I L G hG hI) rfl rfl ⟨Nat.le_of_ble_eq_true rfl, Nat.le_of_ble_eq_true rfl⟩ (hG.1 10 (by decide)) rfl rfl (by decide) rfl hl.1 rfl (Nat.le_of_ble_eq_true rfl) dX1_shine_1 ⟨Nat.le_of_ble_eq_true rfl, Nat.le_of_ble_eq_true rfl⟩) hS (fun u H locs hw hM hS => ?_)
  obtain ⟨I2, L3, rfl, hI, hkI2, xI2⟩ := hw
  have hM : Mem D A ad ns I2 L3 G H := hM
  have hK := hK.trans hkI2 rfl
  refine lv_aload_n hx hb dX1_shine_4 rfl (lv_at hl 0 rfl) ?_
  refine lv_aload_n hx hb dX1_shine_5 rfl (lv_at hl 1 rfl) ?_
  refine lv_aload_n hx hb dX1_shine_6 rfl (lv_at hl 1 rfl) ?_
  refine m_geti (110) 2 hx hb hts hown hE oc8 hM (hG.1 110 (by decide)) rfl (by decide) rfl tb_40 dX1_shine_7 ?_
  have g4 := hI.get (110) 2 (lo := 0) (hi := 23) rfl
  have z5 : I2 (110) 2 = I (110) 2 := (hkI2.get (110) 2 rfl)
  rw [z5] at g4 ⊢
  refine lv_aload_n hx hb dX1_shine_10 rfl (lv_at hl 1 rfl) ?_
  refine m_geti (110) 3 hx hb hts hown hE oc8 hM (hG.1 110 (by decide)) rfl (by decide) rfl tb_44 dX1_shine_11 ?_
  have g6 := hI.get (110) 3 (lo := 0) (hi := 23) rfl
  have z7 : I2 (110) 3 = I (110) 3 := (hkI2.get (110) 3 rfl)
  rw [z7] at g6 ⊢
  refine lv_aload_n hx hb dX1_shine_14 rfl (lv_at hl 1 rfl) ?_
  refine lv_iload_n hx hb dX1_shine_15 rfl (lv_at hl 2 rfl) ?_
  have tw8 : twC 110 I2 = twC 110 I := twC_kp hK rfl
  refine m_calli (m_runV (110) (As := [.int (a0)]) (rest := [.int (I (110) 3), .int (I (110) 2), .ref (ad (110)), .ref (ad (10))]) hx hb hml hown hts hE hM hS hA ce_X8_wayOf tb_809 (V_X8_wayOf_110 l D A ad ns I2 L3 G (a0) hG hI (by first | omega | decide)) rfl rfl ⟨Nat.le_of_ble_eq_true rfl, Nat.le_of_ble_eq_true rfl⟩ (hG.1 110 (by decide)) rfl rfl (by decide) rfl hl.1 rfl (Nat.le_of_ble_eq_true rfl) dX1_shine_16 ⟨Nat.le_of_ble_eq_true rfl, Nat.le_of_ble_eq_true rfl⟩) hS (fun r9 u H locs hw hM hS => ?_)
  obtain ⟨rfl, xr9⟩ := hw
  have hM : Mem D A ad ns I2 L3 G H := hM
  have lyr9 : (I2 115 (I2 110 5 * 24 + a0).toNatClampNeg).toInt ≠ -1 := (hlit.kp hK rfl).2
  have lzr9 := hI.get 115 ((I2 110 5 * 24 + a0).toNatClampNeg) (lo := -1) (hi := 7) rfl
  rw [← xr9] at lyr9 lzr9
  refine lv_aload_n hx hb dX1_shine_19 rfl (lv_at hl 1 rfl) ?_
  refine lv_iload_n hx hb dX1_shine_20 rfl (lv_at hl 2 rfl) ?_
  refine m_calli (m_runV (110) (As := [.int (a0)]) (rest := [.int (r9), .int (I (110) 3), .int (I (110) 2), .ref (ad (110)), .ref (ad (10))]) hx hb hml hown hts hE hM hS hA ce_X8_strengthOf tb_810 (V_X8_strengthOf_110_l l D A ad ns I2 L3 G (a0) hG hI (by first | omega | decide)) rfl rfl ⟨Nat.le_of_ble_eq_true rfl, Nat.le_of_ble_eq_true rfl⟩ (hG.1 110 (by decide)) rfl rfl (by decide) rfl hl.1 rfl (Nat.le_of_ble_eq_true rfl) dX1_shine_21 ⟨Nat.le_of_ble_eq_true rfl, Nat.le_of_ble_eq_true rfl⟩) hS (fun r10 u H locs hw hM hS => ?_)
  obtain ⟨rfl, xr10⟩ := hw
  have hM : Mem D A ad ns I2 L3 G H := hM
  refine m_callv (m_runV (10) (As := [.ref (ad (110)), .int (I (110) 2), .int (I (110) 3), .int (r9), .int (r10)]) (rest := []) hx hb hml hown hts hE hM hS hA ce_X1_follow tb_814 (V_X1_follow_110_l l D A ad ns I2 L3 G (I (110) 2) (I (110) 3) (r9) (r10) hG hI (by first | omega | decide)) rfl rfl ⟨Nat.le_of_ble_eq_true rfl, Nat.le_of_ble_eq_true rfl⟩ (hG.1 10 (by decide)) rfl rfl (by decide) rfl hl.1 rfl (Nat.le_of_ble_eq_true rfl) dX1_shine_24 ⟨Nat.le_of_ble_eq_true rfl, Nat.le_of_ble_eq_true rfl⟩) hS (fun u H locs hw hM hS => ?_)
  obtain ⟨I11, L12, rfl, hI, hkI11, xI11⟩ := hw
  have hM : Mem D A ad ns I11 L12 G H := hM
  have hK := hK.trans hkI11 rfl
  rw [tw8] at xI11
  refine lv_iconst (v := (0)) hx hb dX1_shine_27 (by decide) ?_
  refine lv_istore_n (lv' := [(3, .int (0)), (0, .ref (ad (10))), (1, .ref (ad (110))), (2, .int (a0))]) hx hb dX1_shine_28 rfl hl (by decide) rfl (fun ls hl => ?_)
  have loop29 : ∀ (n : Nat) (x3_29 : Int32) (Ia29 : MI) (La29 : ML) (H : Heap) (locs : List Loc) (ls : Array Slot), INV Ia29 → Kp [(11, 15)] [(10, 2), (10, 3), (10, 4), (10, 5), (10, 6), (10, 7), (10, 11), (10, 12)] I Ia29 → (0 ≤ x3_29.toInt ∧ x3_29.toInt ≤ 2000) → (SHL 110 I Ia29 (2000 - (x3_29).toInt).toNat a0) → (2000 - x3_29.toInt).toNat < n → Mem D A ad ns Ia29 La29 G H → va_S A s.heap H locs → lv_has ls 8 [(3, .int (x3_29)), (0, .ref (ad (10))), (1, .ref (ad (110))), (2, .int (a0))] → W p l e ({ frames := 3, cells := 0, slots := 0, locals := 80 } : Room) s m args below meth c H locs 0 0 (MQ below (va_Qv (fun u => ∃ I2 L2, u = (ad, ns, I2, L2, G) ∧ INV I2 ∧ Kp [(11, 15)] [(10, 2), (10, 3), (10, 4), (10, 5), (10, 6), (10, 7), (10, 11), (10, 12)] I I2 ∧ (SHE 110 I I2 a0)) (BM D A) A) args s 0 0 A) (F0 m 29 ls []) := by
    intro n
    induction n with
    | zero =>
      intro x3_29 Ia29 La29 H locs ls hI hK hr3_29 hX29 hmu
      exact absurd hmu (Nat.not_lt_zero _)
    | succ n ih29 =>
      intro x3_29 Ia29 La29 H locs ls hI hK hr3_29 hX29 hmu29 hM hS hl
      have g29 := hI.get 10 11 (lo := 0) (hi := 59) rfl
      refine lv_aload_n hx hb dX1_shine_29 rfl (lv_at hl 1 rfl) ?_
      refine m_geti (10) 12 hx hb hts hown hE oc1 hM (hG.1 10 (by decide)) rfl (by decide) rfl tb_151 dX1_shine_30 ?_
      have g13 := hI.get (10) 12 (lo := 0) (hi := 60) rfl
      refine lv_if_le (tgt := 141) hx hb dX1_shine_33 (by decide) (fun c14 => ?_) (fun c14 => ?_)
      · have hc14 := c14
        have q14 := q_le hc14
        exact m_vret hx hb hr hlocks hM hS (Nat.le_of_ble_eq_true rfl) (Nat.le_of_ble_eq_true rfl) ⟨_, _, rfl, hI, hK, (SHL.fin hX29 (Or.inl (by omega)))⟩ dX1_shine_141
      · have hc14 := c14
        have q14 := q_nle hc14
        refine lv_iload_n hx hb dX1_shine_36 rfl (lv_at hl 0 rfl) ?_
        refine lv_sipush (v := (2000)) hx hb dX1_shine_37 (by decide) ?_
        refine lv_icmp_ge (tgt := 141) hx hb dX1_shine_40 (by decide) (fun c15 => ?_) (fun c15 => ?_)
        · have hc15 := c15
          have q15 := q_le hc15
          exact m_vret hx hb hr hlocks hM hS (Nat.le_of_ble_eq_true rfl) (Nat.le_of_ble_eq_true rfl) ⟨_, _, rfl, hI, hK, (SHL.fin hX29 (Or.inr (by omega)))⟩ dX1_shine_141
        · have hc15 := c15
          have q15 := q_nle hc15
          refine lv_aload_n hx hb dX1_shine_43 rfl (lv_at hl 1 rfl) ?_
          refine m_getr (10) 9 (13) hx hb hts hown hE oc1 hM (hG.1 10 (by decide)) rfl (by decide) rfl (hG.2 (10, 9, 13) (by decide)) (by decide) tb_148 dX1_shine_44 ?_
          refine lv_aload_n hx hb dX1_shine_47 rfl (lv_at hl 1 rfl) ?_
          refine m_geti (10) 11 hx hb hts hown hE oc1 hM (hG.1 10 (by decide)) rfl (by decide) rfl tb_150 dX1_shine_48 ?_
          have g16 := hI.get (10) 11 (lo := 0) (hi := 59) rfl
          refine m_iald (13) hx hb hE hM (hG.1 13 (by decide)) rfl (vp_in_iff.mpr (by omega)) dX1_shine_51 ?_
          have g17 := hI.get (13) ((Ia29 (10) 11).toNatClampNeg) (lo := 0) (hi := 4607) rfl
          refine lv_istore (lv' := [(4, .int (Ia29 (13) (Ia29 (10) 11).toNatClampNeg)), (3, .int (x3_29)), (0, .ref (ad (10))), (1, .ref (ad (110))), (2, .int (a0))]) hx hb dX1_shine_52 hl (by decide) rfl (fun ls hl => ?_)
          refine lv_aload_n hx hb dX1_shine_54 rfl (lv_at hl 2 rfl) ?_
          refine m_getr (10) 10 (14) hx hb hts hown hE oc1 hM (hG.1 10 (by decide)) rfl (by decide) rfl (hG.2 (10, 10, 14) (by decide)) (by decide) tb_149 dX1_shine_55 ?_
          refine lv_aload_n hx hb dX1_shine_58 rfl (lv_at hl 2 rfl) ?_
          refine m_geti (10) 11 hx hb hts hown hE oc1 hM (hG.1 10 (by decide)) rfl (by decide) rfl tb_150 dX1_shine_59 ?_
          refine m_iald (14) hx hb hE hM (hG.1 14 (by decide)) rfl (vp_in_iff.mpr (by omega)) dX1_shine_62 ?_
          refine lv_istore (lv' := [(5, .int (Ia29 (14) (Ia29 (10) 11).toNatClampNeg)), (4, .int (Ia29 (13) (Ia29 (10) 11).toNatClampNeg)), (3, .int (x3_29)), (0, .ref (ad (10))), (1, .ref (ad (110))), (2, .int (a0))]) hx hb dX1_shine_63 hl (by decide) rfl (fun ls hl => ?_)
          refine lv_aload_n hx hb dX1_shine_65 rfl (lv_at hl 3 rfl) ?_
          refine lv_aload_n hx hb dX1_shine_66 rfl (lv_at hl 3 rfl) ?_
          refine m_geti (10) 11 hx hb hts hown hE oc1 hM (hG.1 10 (by decide)) rfl (by decide) rfl tb_150 dX1_shine_67 ?_
          refine lv_iconst (v := (1)) hx hb dX1_shine_70 (by decide) ?_
          refine lv_iadd hx hb dX1_shine_71 ?_
          refine lv_topi (fun v18 ev18 => ?_)
          have tv18 := a_add ev18 (by omega) (by omega)
          refine lv_bipush (v := (60)) hx hb dX1_shine_72 (by decide) ?_
          refine lv_irem hx hb dX1_shine_74 (by decide) ?_
          refine lv_topi (fun v19 ev19 => ?_)
          have tv19 := a_rem (c := 60) ev19 (by decide) (by decide) (by omega)
          refine m_puti (10) 11 hx hb hts hown hE oc1 hM hS (hG.1 10 (by decide)) rfl (by decide) rfl rfl rfl rfl tb_150 dX1_shine_75 (fun H locs I20 eI20 hM hS => ?_)
          subst eI20
          have hI := hI.put (n := 10) (k := 11) (v := v19) (lo := 0) (hi := 59) rfl (by first | omega | decide)
          have hK := hK.put (n := 10) (k := 11) (v := v19) (by first | rfl | simp [inR])
          refine lv_aload_n hx hb dX1_shine_78 rfl (lv_at hl 3 rfl) ?_
          refine lv_dup hx hb dX1_shine_79 rfl ?_
          refine m_geti (10) 12 hx hb hts hown hE oc1 hM (hG.1 10 (by decide)) rfl (by decide) rfl tb_151 dX1_shine_80 ?_
          have z21 : (u2 Ia29 (10) 11 (v19)) (10) 12 = Ia29 (10) 12 := (show (u2 Ia29 (10) 11 (v19)) (10) 12 = Ia29 (10) 12 from by simp [u2_v])
          rw [z21]
          refine lv_iconst (v := (1)) hx hb dX1_shine_83 (by decide) ?_
          refine lv_isub hx hb dX1_shine_84 ?_
          refine lv_topi (fun v22 ev22 => ?_)
          have tv22 := a_sub ev22 (by omega) (by omega)
          refine m_puti (10) 12 hx hb hts hown hE oc1 hM hS (hG.1 10 (by decide)) rfl (by decide) rfl rfl rfl rfl tb_151 dX1_shine_85 (fun H locs I23 eI23 hM hS => ?_)
          subst eI23
          have hI := hI.put (n := 10) (k := 12) (v := v22) (lo := 0) (hi := 60) rfl (by first | omega | decide)
          have hK := hK.put (n := 10) (k := 12) (v := v22) (by first | rfl | simp [inR])
          refine lv_iload hx hb dX1_shine_88 (lv_at hl 1 rfl) ?_
          refine lv_bipush (v := (8)) hx hb dX1_shine_90 (by decide) ?_
          refine lv_irem hx hb dX1_shine_92 (by decide) ?_
          refine lv_topi (fun v24 ev24 => ?_)
          have tv24 := a_rem (c := 8) ev24 (by decide) (by decide) (by omega)
          refine lv_istore (lv' := [(6, .int (v24)), (5, .int (Ia29 (14) (Ia29 (10) 11).toNatClampNeg)), (4, .int (Ia29 (13) (Ia29 (10) 11).toNatClampNeg)), (3, .int (x3_29)), (0, .ref (ad (10))), (1, .ref (ad (110))), (2, .int (a0))]) hx hb dX1_shine_93 hl (by decide) rfl (fun ls hl => ?_)
          refine lv_iload hx hb dX1_shine_95 (lv_at hl 2 rfl) ?_
          refine lv_bipush (v := (8)) hx hb dX1_shine_97 (by decide) ?_
          refine lv_idiv hx hb dX1_shine_99 (by decide) ?_
          refine lv_topi (fun v25 ev25 => ?_)
          have tv25 := a_div (c := 8) ev25 (by decide) (by decide) (by omega)
          refine lv_istore (lv' := [(7, .int (v25)), (6, .int (v24)), (5, .int (Ia29 (14) (Ia29 (10) 11).toNatClampNeg)), (4, .int (Ia29 (13) (Ia29 (10) 11).toNatClampNeg)), (3, .int (x3_29)), (0, .ref (ad (10))), (1, .ref (ad (110))), (2, .int (a0))]) hx hb dX1_shine_100 hl (by decide) rfl (fun ls hl => ?_)
          refine lv_aload_n hx hb dX1_shine_102 rfl (lv_at hl 5 rfl) ?_
          refine lv_aload_n hx hb dX1_shine_103 rfl (lv_at hl 6 rfl) ?_
          refine lv_iload hx hb dX1_shine_104 (lv_at hl 0 rfl) ?_
          refine lv_bipush (v := (24)) hx hb dX1_shine_106 (by decide) ?_
          refine lv_irem hx hb dX1_shine_108 (by decide) ?_
          refine lv_topi (fun v26 ev26 => ?_)
          have tv26 := a_rem (c := 24) ev26 (by decide) (by decide) (by omega)
          refine va_getsN hx hb hE.2.2.2.2.2.1.1 hS hown (va_Nw.use rfl (hE.2.1 _ (List.mem_of_getElem? (i := 9) rfl))) (fun _ h => h) dX1_shine_109 ?_
          refine lv_iload hx hb dX1_shine_112 (lv_at hl 1 rfl) ?_
          refine va_ti hx hb hE.2.2.2.2.2.1.2 hS (i := v24) (vp_in_iff.mpr (by omega)) rfl dX1_shine_114 ?_
          refine lv_topi (fun v27 ev27 => ?_)
          have tv27 := stX_r ev27
          refine lv_iadd hx hb dX1_shine_115 ?_
          refine lv_topi (fun v28 ev28 => ?_)
          have tv28 := a_add ev28 (by omega) (by omega)
          refine lv_iload hx hb dX1_shine_116 (lv_at hl 0 rfl) ?_
          refine lv_bipush (v := (24)) hx hb dX1_shine_118 (by decide) ?_
          refine lv_idiv hx hb dX1_shine_120 (by decide) ?_
          refine lv_topi (fun v29 ev29 => ?_)
          have tv29 := a_div (c := 24) ev29 (by decide) (by decide) (by omega)
          refine va_getsN hx hb hE.2.2.2.2.2.2.1.1 hS hown (va_Nw.use rfl (hE.2.1 _ (List.mem_of_getElem? (i := 10) rfl))) (fun _ h => h) dX1_shine_121 ?_
          refine lv_iload hx hb dX1_shine_124 (lv_at hl 1 rfl) ?_
          refine va_ti hx hb hE.2.2.2.2.2.2.1.2 hS (i := v24) (vp_in_iff.mpr (by omega)) rfl dX1_shine_126 ?_
          refine lv_topi (fun v30 ev30 => ?_)
          have tv30 := stY_r ev30
          refine lv_iadd hx hb dX1_shine_127 ?_
          refine lv_topi (fun v31 ev31 => ?_)
          have tv31 := a_add ev31 (by omega) (by omega)
          refine lv_iload hx hb dX1_shine_128 (lv_at hl 1 rfl) ?_
          refine lv_iload hx hb dX1_shine_130 (lv_at hl 2 rfl) ?_
          have tw32 : twC 110 (u2 (u2 Ia29 (10) 11 (v19)) (10) 12 (v22)) = twC 110 I := twC_kp hK rfl
          refine m_callv (m_runV (10) (As := [.ref (ad (110)), .int (v28), .int (v31), .int (v24), .int (Ia29 (14) (Ia29 (10) 11).toNatClampNeg)]) (rest := []) hx hb hml hown hts hE hM hS hA ce_X1_follow tb_814 (V_X1_follow_110_l l D A ad ns (u2 (u2 Ia29 (10) 11 (v19)) (10) 12 (v22)) La29 G (v28) (v31) (v24) (Ia29 (14) (Ia29 (10) 11).toNatClampNeg) hG hI (by first | omega | decide)) rfl rfl ⟨Nat.le_of_ble_eq_true rfl, Nat.le_of_ble_eq_true rfl⟩ (hG.1 10 (by decide)) rfl rfl (by decide) rfl hl.1 rfl (Nat.le_of_ble_eq_true rfl) dX1_shine_132 ⟨Nat.le_of_ble_eq_true rfl, Nat.le_of_ble_eq_true rfl⟩) hS (fun u H locs hw hM hS => ?_)
          obtain ⟨I33, L34, rfl, hI, hkI33, xI33⟩ := hw
          have hM : Mem D A ad ns I33 L34 G H := hM
          have hK := hK.trans hkI33 rfl
          rw [tw32] at xI33
          obtain ⟨v35, ev35⟩ : ∃ z : Int32, z = x3_29 + Int32.ofInt (1) := ⟨_, rfl⟩
          have tv35 := a_inc ev35 (by decide) (by omega) (by omega)
          refine lv_iinc (v := v35) (lv' := [(3, .int (v35)), (7, .int (v25)), (6, .int (v24)), (5, .int (Ia29 (14) (Ia29 (10) 11).toNatClampNeg)), (4, .int (Ia29 (13) (Ia29 (10) 11).toNatClampNeg)), (0, .ref (ad (10))), (1, .ref (ad (110))), (2, .int (a0))]) hx hb dX1_shine_135 hl (k := 4) rfl ev35.symm (by decide) rfl (fun ls hl => ?_)
          refine lv_goto (tgt := 29) hx hb dX1_shine_138 (by decide) ?_
          have hsx : (v27).toInt = (sX v24).toInt := congrArg Int32.toInt (show v27 = sX v24 from ev27)
          have hsy : (v30).toInt = (sY v24).toInt := congrArg Int32.toInt (show v30 = sY v24 from ev30)
          exact ih29 (v35) I33 L34 _ _ ls hI hK (by first | omega | decide) (SHL.next (by rw [show (2000 - (v35).toInt).toNat + 1 = (2000 - (x3_29).toInt).toNat from by omega]; exact hX29) (by omega) (by omega) rfl (by omega) (by omega) rfl (by omega) (by omega) (by omega) xI33) (by omega) hM hS (lv_sub hl [0, 5, 6, 7] rfl)
  exact loop29 (_ + 1) (0) I11 L12 _ _ ls hI hK (by first | omega | decide) (SHL.z xI2 (hkI2.get 10 8 rfl) (hkI2.getA 12 rfl) xI11 (by first | rfl | exact (hkI2.get 110 2 rfl)) (by first | rfl | exact (hkI2.get 110 3 rfl)) (xr9.trans (by rw [(show I2 110 = I 110 from hkI2.ap (b := 110) rfl 110 (by decide) (by decide)), (show I2 115 = I 115 from hkI2.ap (b := 110) rfl 115 (by decide) (by decide))])) (xr10.trans (by rw [(show I2 110 = I 110 from hkI2.ap (b := 110) rfl 110 (by decide) (by decide)), (show I2 116 = I 116 from hkI2.ap (b := 110) rfl 116 (by decide) (by decide))]))) (Nat.lt_succ_self _) hM hS (lv_sub hl [0, 1, 2, 3] rfl)
set_option maxHeartbeats 4000000 in
set_option maxRecDepth 20000 in
theorem V_X1_shineWatched_110_l (l : Launch) (D : va_G) (A : Nat → Prop) (ad : Nat → Nat) (ns : List Nat) (I : MI) (L : ML) (G : MG) (a0 : Int32) (hG : SGC ns G) (hI : INV I) (hlit : Lit 110 I a0) (ha0 : 0 ≤ a0.toInt ∧ a0.toInt ≤ 23) : Met l yX1_shineWatched (wd yX1_shineWatched cX1_shineWatched 3 none) ({ frames := 4, cells := 0, slots := 0, locals := 107 }) (va_Pc [.ref (ad (10)), .ref (ad (110)), .int a0] (PM D A ad ns I L G)) (va_Qv (fun u => ∃ I2 L2, u = (ad, ns, I2, L2, G) ∧ INV I2 ∧ Kp [(11, 15)] [(10, 2), (10, 3), (10, 4), (10, 5), (10, 6), (10, 7), (10, 8), (10, 11), (10, 12)] I I2 ∧ (SHV 110 I I2 a0 ∧ (I2 10 8).toInt = 0)) (BM D A) A) 0 0 A := by
  refine m_ofW (by decide) (Nat.le_of_ble_eq_true rfl) ?_
  intro p e s m below meth c ls args hC hE hM hA hS hl
  obtain ⟨hx, hb, hml, hown, hts, hr, hlocks, hin⟩ := hC
  have k0 : (0 : Int32).toInt = 0 := by decide
  have k1 : (1 : Int32).toInt = 1 := by decide
  have hK : Kp [(11, 15)] [(10, 2), (10, 3), (10, 4), (10, 5), (10, 6), (10, 7), (10, 8), (10, 11), (10, 12)] I I := Kp.rf
  have hl : lv_has ls 3 [(0, .ref (ad (10))), (1, .ref (ad (110))), (2, .int (a0))] := hl
  refine lv_aload_n hx hb dX1_shineWatched_0 rfl (lv_at hl 0 rfl) ?_
  refine lv_iconst (v := (1)) hx hb dX1_shineWatched_1 (by decide) ?_
  refine m_puti (10) 8 hx hb hts hown hE oc1 hM hS (hG.1 10 (by decide)) rfl (by decide) rfl rfl rfl rfl tb_147 dX1_shineWatched_2 (fun H locs I1 eI1 hM hS => ?_)
  subst eI1
  have hI := hI.put (n := 10) (k := 8) (v := 1) (lo := 0) (hi := 1) rfl (by first | omega | decide)
  have hK := hK.put (n := 10) (k := 8) (v := 1) (by first | rfl | simp [inR])
  refine lv_aload_n hx hb dX1_shineWatched_5 rfl (lv_at hl 0 rfl) ?_
  refine m_getr (10) 1 (12) hx hb hts hown hE oc1 hM (hG.1 10 (by decide)) rfl (by decide) rfl (hG.2 (10, 1, 12) (by decide)) (by decide) tb_134 dX1_shineWatched_6 ?_
  refine lv_iconst (v := (0)) hx hb dX1_shineWatched_9 (by decide) ?_
  have tw2 : twC 110 (u2 I (10) 8 (1)) = twC 110 I := twC_kp hK rfl
  refine m_callv (m_runS (As := [.ref (ad (12)), .int (0)]) (rest := []) hx hb hml hown hts hE hM hS hA ce_J7_fill_53178 tb_800 (C_J7_fill_53178 l D A ad ns (u2 I (10) 8 (1)) L G (12) 576 (0) (hG.1 12 (by decide)) rfl (by decide)) rfl rfl ⟨Nat.le_of_ble_eq_true rfl, Nat.le_of_ble_eq_true rfl⟩  rfl hl.1 rfl (Nat.le_of_ble_eq_true rfl) dX1_shineWatched_10 ⟨Nat.le_of_ble_eq_true rfl, Nat.le_of_ble_eq_true rfl⟩) hS (fun u H locs hw hM hS => ?_)
  subst hw
  obtain ⟨I3, eI3⟩ : ∃ z : MI, z = fillI (u2 I (10) 8 (1)) 12 576 (0) := ⟨_, rfl⟩
  have hM : Mem D A ad ns I3 L G H := by rw [eI3]; exact hM
  have hkI3 : Kp [(12, 13)] [] (u2 I (10) 8 (1)) I3 := by rw [eI3]; exact Kp.rf.fill rfl
  have hI : INV I3 := by rw [eI3]; exact hI.fill (fun k _ => (by decide : (-2147483648 : Int) ≤ (0 : Int32).toInt ∧ (0 : Int32).toInt ≤ (2147483647 : Int)))
  have hK := hK.trans hkI3 rfl
  refine lv_aload_n hx hb dX1_shineWatched_13 rfl (lv_at hl 0 rfl) ?_
  refine lv_aload_n hx hb dX1_shineWatched_14 rfl (lv_at hl 1 rfl) ?_
  refine lv_iload_n hx hb dX1_shineWatched_15 rfl (lv_at hl 2 rfl) ?_
  have tw4 : twC 110 I3 = twC 110 I := twC_kp hK rfl
  have hkb := hK
  refine m_callv (m_runV (10) (As := [.ref (ad (110)), .int (a0)]) (rest := []) hx hb hml hown hts hE hM hS hA ce_X1_shine tb_801 (V_X1_shine_110_l l D A ad ns I3 L G (a0) hG hI (hlit.kp hK rfl) (by first | omega | decide)) rfl rfl ⟨Nat.le_of_ble_eq_true rfl, Nat.le_of_ble_eq_true rfl⟩ (hG.1 10 (by decide)) rfl rfl (by decide) rfl hl.1 rfl (Nat.le_of_ble_eq_true rfl) dX1_shineWatched_16 ⟨Nat.le_of_ble_eq_true rfl, Nat.le_of_ble_eq_true rfl⟩) hS (fun u H locs hw hM hS => ?_)
  obtain ⟨I5, L6, rfl, hI, hkI5, xI5⟩ := hw
  have hM : Mem D A ad ns I5 L6 G H := hM
  have hK := hK.trans hkI5 rfl
  refine lv_aload_n hx hb dX1_shineWatched_19 rfl (lv_at hl 0 rfl) ?_
  refine lv_iconst (v := (0)) hx hb dX1_shineWatched_20 (by decide) ?_
  refine m_puti (10) 8 hx hb hts hown hE oc1 hM hS (hG.1 10 (by decide)) rfl (by decide) rfl rfl rfl rfl tb_147 dX1_shineWatched_21 (fun H locs I7 eI7 hM hS => ?_)
  subst eI7
  have hI := hI.put (n := 10) (k := 8) (v := 0) (lo := 0) (hi := 1) rfl (by first | omega | decide)
  have hK := hK.put (n := 10) (k := 8) (v := 0) (by first | rfl | simp [inR])
  exact m_vret hx hb hr hlocks hM hS (Nat.le_of_ble_eq_true rfl) (Nat.le_of_ble_eq_true rfl) ⟨_, _, rfl, hI, hK, ⟨(SHV.of xI5 (fun _ c hc => by rw [eI3]; simp [fillI, hc]) (by rw [hkI5.get 10 8 rfl, eI3]; simp [fillI, u2_v]) tw4 (fun n h1 h2 => hkb.ap (b := 110) rfl n h1 h2)), by rw [(show (u2 I5 (10) 8 (0)) (10) 8 = 0 from by simp [u2_v])]; rfl⟩⟩ dX1_shineWatched_24
