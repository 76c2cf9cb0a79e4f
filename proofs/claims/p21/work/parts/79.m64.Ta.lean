set_option maxHeartbeats 4000000 in
set_option maxRecDepth 20000 in
theorem V_X9_month_f (l : Launch) (D : va_G) (A : Nat → Prop) (ad : Nat → Nat) (ns : List Nat) (I : MI) (L : ML) (G : MG) (a0 : Int32) (hG : SGC ns G) (hI : INV I) : Met l yX9_month (wd yX9_month cX9_month 3 (some .int)) ({ frames := 1, cells := 0, slots := 0, locals := 22 }) (va_Pc [.ref (ad (0)), .int a0] (PM D A ad ns I L G)) (va_Qi (fun r u => ∃ I2 L2, u = (ad, ns, I2, L2, G) ∧ INV I2 ∧ Kp [] [(100, 5)] I I2 ∧ (ASK (0 < (I 100 0).toInt ∧ 0 ≤ a0.toInt ∧ a0.toInt ≤ 11) r (I 100 5) (I2 100 5) a0)) (BM D A) A) 0 0 A := by
  refine m_ofW (by decide) (Nat.le_of_ble_eq_true rfl) ?_
  intro p e s m below meth c ls args hC hE hM hA hS hl
  obtain ⟨hx, hb, hml, hown, hts, hr, hlocks, hin⟩ := hC
  have km1 : (-1 : Int32).toInt = -1 := by decide
  have k0 : (0 : Int32).toInt = 0 := by decide
  have k11 : (11 : Int32).toInt = 11 := by decide
  have hK : Kp [] [(100, 5)] I I := Kp.rf
  have hl : lv_has ls 3 [(0, .ref (ad (0))), (1, .int (a0))] := hl
  refine lv_aload_n hx hb dX9_month_0 rfl (lv_at hl 0 rfl) ?_
  refine m_getr (0) 0 (100) hx hb hts hown hE oc9 hM (hG.1 0 (by decide)) rfl (by decide) rfl (hG.2 (0, 0, 100) (by decide)) (by decide) tb_398 dX9_month_1 ?_
  refine m_calli (m_runV (100) (As := []) (rest := []) hx hb hml hown hts hE hM hS hA ce_X8_isBegun tb_484 (V_X8_isBegun_100 l D A ad ns I L G hG hI) rfl rfl ⟨Nat.le_of_ble_eq_true rfl, Nat.le_of_ble_eq_true rfl⟩ (hG.1 100 (by decide)) rfl rfl (by decide) rfl hl.1 rfl (Nat.le_of_ble_eq_true rfl) dX9_month_4 ⟨Nat.le_of_ble_eq_true rfl, Nat.le_of_ble_eq_true rfl⟩) hS (fun r1 u H locs hw hM hS => ?_)
  obtain ⟨rfl, xr1⟩ := hw
  have hM : Mem D A ad ns I L G H := hM
  have yr1 := bo01 xr1
  refine lv_if_eq (tgt := 20) hx hb dX9_month_7 (by decide) (fun c2 => ?_) (fun c2 => ?_)
  · have hc2 := c2
    have q2 := xr1.f hc2
    refine lv_iconst (v := (-1)) hx hb dX9_month_20 (by decide) ?_
    exact m_iret hx hb hr hlocks hM hS (Nat.le_of_ble_eq_true rfl) (Nat.le_of_ble_eq_true rfl) ⟨_, _, rfl, hI, hK, (Or.inr ⟨by omega, rfl, rfl⟩)⟩ dX9_month_21
  · have hc2 := c2
    have q2 := xr1.t hc2
    refine lv_iload_n hx hb dX9_month_10 rfl (lv_at hl 1 rfl) ?_
    refine lv_iconst (v := (0)) hx hb dX9_month_11 (by decide) ?_
    refine lv_bipush (v := (11)) hx hb dX9_month_12 (by decide) ?_
    refine m_calli (m_runS (As := [.int (a0), .int (0), .int (11)]) (rest := []) hx hb hml hown hts hE hM hS hA ce_X9_isWithin tb_451 (V_X9_isWithin l D A ad ns I L G (a0) (0) (11) hI) rfl rfl ⟨Nat.le_of_ble_eq_true rfl, Nat.le_of_ble_eq_true rfl⟩  rfl hl.1 rfl (Nat.le_of_ble_eq_true rfl) dX9_month_14 ⟨Nat.le_of_ble_eq_true rfl, Nat.le_of_ble_eq_true rfl⟩) hS (fun r3 u H locs hw hM hS => ?_)
    obtain ⟨rfl, xr3⟩ := hw
    have hM : Mem D A ad ns I L G H := hM
    have yr3 := bo01 xr3
    refine lv_if_ne (tgt := 22) hx hb dX9_month_17 (by decide) (fun c4 => ?_) (fun c4 => ?_)
    · have hc4 := c4
      have q4 := xr3.t hc4
      refine lv_aload_n hx hb dX9_month_22 rfl (lv_at hl 0 rfl) ?_
      refine m_getr (0) 0 (100) hx hb hts hown hE oc9 hM (hG.1 0 (by decide)) rfl (by decide) rfl (hG.2 (0, 0, 100) (by decide)) (by decide) tb_398 dX9_month_23 ?_
      refine m_geti (100) 5 hx hb hts hown hE oc8 hM (hG.1 100 (by decide)) rfl (by decide) rfl tb_53 dX9_month_26 ?_
      have g5 := hI.get (100) 5 (lo := 0) (hi := 11) rfl
      refine lv_istore_n (lv' := [(2, .int (I (100) 5)), (0, .ref (ad (0))), (1, .int (a0))]) hx hb dX9_month_29 rfl hl (by decide) rfl (fun ls hl => ?_)
      refine lv_aload_n hx hb dX9_month_30 rfl (lv_at hl 1 rfl) ?_
      refine m_getr (0) 0 (100) hx hb hts hown hE oc9 hM (hG.1 0 (by decide)) rfl (by decide) rfl (hG.2 (0, 0, 100) (by decide)) (by decide) tb_398 dX9_month_31 ?_
      refine lv_iload_n hx hb dX9_month_34 rfl (lv_at hl 2 rfl) ?_
      refine m_puti (100) 5 hx hb hts hown hE oc8 hM hS (hG.1 100 (by decide)) rfl (by decide) rfl rfl rfl rfl tb_53 dX9_month_35 (fun H locs I6 eI6 hM hS => ?_)
      subst eI6
      have hI := hI.put (n := 100) (k := 5) (v := a0) (lo := 0) (hi := 11) rfl (by first | omega | decide)
      have hK := hK.put (n := 100) (k := 5) (v := a0) (by first | rfl | simp [inR])
      refine lv_iload_n hx hb dX9_month_38 rfl (lv_at hl 0 rfl) ?_
      exact m_iret hx hb hr hlocks hM hS (Nat.le_of_ble_eq_true rfl) (Nat.le_of_ble_eq_true rfl) ⟨_, _, rfl, hI, hK, (Or.inl ⟨by omega, rfl, (show (u2 I (100) 5 (a0)) (100) 5 = a0 from by simp [u2_v])⟩)⟩ dX9_month_39
    · have hc4 := c4
      have q4 := xr3.f hc4
      refine lv_iconst (v := (-1)) hx hb dX9_month_20 (by decide) ?_
      exact m_iret hx hb hr hlocks hM hS (Nat.le_of_ble_eq_true rfl) (Nat.le_of_ble_eq_true rfl) ⟨_, _, rfl, hI, hK, (Or.inr ⟨by omega, rfl, rfl⟩)⟩ dX9_month_21
set_option maxHeartbeats 4000000 in
set_option maxRecDepth 20000 in
theorem V_X10_month_f (l : Launch) (D : va_G) (A : Nat → Prop) (ad : Nat → Nat) (ns : List Nat) (I : MI) (L : ML) (G : MG) (a0 : Int32) (hJ : SGM ns G) (hI : INV I) : Met l yX10_month (wd yX10_month cX10_month 3 (some .int)) ({ frames := 1, cells := 0, slots := 0, locals := 25 }) (va_Pc [.ref (ad (1000)), .int a0] (PM D A ad ns I L G)) (va_Qi (fun r u => ∃ I2 L2, u = (ad, ns, I2, L2, G) ∧ INV I2 ∧ Kp [] [(1001, 5)] I I2 ∧ (ASK ((I 1001 0).toInt = 1 ∧ 0 ≤ a0.toInt ∧ a0.toInt ≤ 11) r (I 1001 5) (I2 1001 5) a0)) (BM D A) A) 0 0 A := by
  refine m_ofW (by decide) (Nat.le_of_ble_eq_true rfl) ?_
  intro p e s m below meth c ls args hC hE hM hA hS hl
  obtain ⟨hx, hb, hml, hown, hts, hr, hlocks, hin⟩ := hC
  have km1 : (-1 : Int32).toInt = -1 := by decide
  have k0 : (0 : Int32).toInt = 0 := by decide
  have k5 : (5 : Int32).toInt = 5 := by decide
  have kl0 : (0 : Int64).toInt = 0 := by decide
  have kl11 : (11 : Int64).toInt = 11 := by decide
  have hK : Kp [] [(1001, 5)] I I := Kp.rf
  have hl : lv_has ls 3 [(0, .ref (ad (1000))), (1, .int (a0))] := hl
  refine lv_aload_n hx hb dX10_month_0 rfl (lv_at hl 0 rfl) ?_
  refine m_calli (m_runV (1000) (As := []) (rest := []) hx hb hml hown hts hE hM hS hA ce_X10_isTown tb_1441 (V_X10_isTown l D A ad ns I L G hJ hI) rfl rfl ⟨Nat.le_of_ble_eq_true rfl, Nat.le_of_ble_eq_true rfl⟩ hJ.1 rfl rfl (by decide) rfl hl.1 rfl (Nat.le_of_ble_eq_true rfl) dX10_month_1 ⟨Nat.le_of_ble_eq_true rfl, Nat.le_of_ble_eq_true rfl⟩) hS (fun r1 u H locs hw hM hS => ?_)
  obtain ⟨rfl, xr1⟩ := hw
  have hM : Mem D A ad ns I L G H := hM
  have yr1 := bo01 xr1
  refine lv_if_eq (tgt := 19) hx hb dX10_month_4 (by decide) (fun c2 => ?_) (fun c2 => ?_)
  · have hc2 := c2
    have q2 := xr1.f hc2
    refine lv_iconst (v := (-1)) hx hb dX10_month_19 (by decide) ?_
    exact m_iret hx hb hr hlocks hM hS (Nat.le_of_ble_eq_true rfl) (Nat.le_of_ble_eq_true rfl) ⟨_, _, rfl, hI, hK, (Or.inr ⟨by omega, rfl, rfl⟩)⟩ dX10_month_20
  · have hc2 := c2
    have q2 := xr1.t hc2
    refine lv_iload_n hx hb dX10_month_7 rfl (lv_at hl 1 rfl) ?_
    refine lv_i2l hx hb dX10_month_8 rfl ?_
    refine lv_topl (fun v3 ev3 => ?_)
    have tv3 := q_i2l ev3
    refine lv_lconst (v := 0) hx hb dX10_month_9 (by decide) ?_
    refine lv_ldc2 (v := (11)) hx hb hown (hts _ tb_1449) dX10_month_10 ?_
    refine m_calli (m_runS (As := [.long (v3), .long (0), .long ((11 : Int64))]) (rest := []) hx hb hml hown hts hE hM hS hA ce_X10_in tb_1425 (V_X10_in l D A ad ns I L G (v3) (0) ((11 : Int64)) hI) rfl rfl ⟨Nat.le_of_ble_eq_true rfl, Nat.le_of_ble_eq_true rfl⟩  rfl hl.1 rfl (Nat.le_of_ble_eq_true rfl) dX10_month_13 ⟨Nat.le_of_ble_eq_true rfl, Nat.le_of_ble_eq_true rfl⟩) hS (fun r4 u H locs hw hM hS => ?_)
    obtain ⟨rfl, xr4⟩ := hw
    have hM : Mem D A ad ns I L G H := hM
    have yr4 := bo01 xr4
    refine lv_if_ne (tgt := 21) hx hb dX10_month_16 (by decide) (fun c5 => ?_) (fun c5 => ?_)
    · have hc5 := c5
      have q5 := xr4.t hc5
      refine lv_aload_n hx hb dX10_month_21 rfl (lv_at hl 0 rfl) ?_
      refine m_getr (1000) 1 (1001) hx hb hts hown hE oc10 hM hJ.1 rfl (by decide) rfl (hJ.2 1 (by decide)).2 (by decide) tb_1178 dX10_month_22 ?_
      refine lv_iconst (v := (5)) hx hb dX10_month_25 (by decide) ?_
      refine m_iald (1001) hx hb hE hM (hJ.2 1 (by decide)).1 rfl (vp_in_iff.mpr (by decide)) dX10_month_26 ?_
      rw [show (5 : Int32).toNatClampNeg = 5 from rfl]
      have g6 := hI.get (1001) 5 (lo := 0) (hi := 11) rfl
      refine lv_istore_n (lv' := [(2, .int (I (1001) 5)), (0, .ref (ad (1000))), (1, .int (a0))]) hx hb dX10_month_27 rfl hl (by decide) rfl (fun ls hl => ?_)
      refine lv_aload_n hx hb dX10_month_28 rfl (lv_at hl 1 rfl) ?_
      refine m_getr (1000) 1 (1001) hx hb hts hown hE oc10 hM hJ.1 rfl (by decide) rfl (hJ.2 1 (by decide)).2 (by decide) tb_1178 dX10_month_29 ?_
      refine lv_iconst (v := (5)) hx hb dX10_month_32 (by decide) ?_
      refine lv_iload_n hx hb dX10_month_33 rfl (lv_at hl 2 rfl) ?_
      refine m_iast (1001) hx hb hE hM hS (hJ.2 1 (by decide)).1 rfl (vp_in_iff.mpr (by decide)) dX10_month_34 (fun H locs I7 eI7 hM hS => ?_)
      rw [show (5 : Int32).toNatClampNeg = 5 from rfl] at eI7
      subst eI7
      have hI := hI.put (n := 1001) (k := 5) (v := a0) (lo := 0) (hi := 11) rfl (by first | omega | decide)
      have hK := hK.put (n := 1001) (k := 5) (v := a0) (by first | rfl | simp [inR])
      refine lv_iload_n hx hb dX10_month_35 rfl (lv_at hl 0 rfl) ?_
      exact m_iret hx hb hr hlocks hM hS (Nat.le_of_ble_eq_true rfl) (Nat.le_of_ble_eq_true rfl) ⟨_, _, rfl, hI, hK, (Or.inl ⟨by omega, rfl, (show (u2 I (1001) 5 (a0)) (1001) 5 = a0 from by simp [u2_v])⟩)⟩ dX10_month_36
    · have hc5 := c5
      have q5 := xr4.f hc5
      refine lv_iconst (v := (-1)) hx hb dX10_month_19 (by decide) ?_
      exact m_iret hx hb hr hlocks hM hS (Nat.le_of_ble_eq_true rfl) (Nat.le_of_ble_eq_true rfl) ⟨_, _, rfl, hI, hK, (Or.inr ⟨by omega, rfl, rfl⟩)⟩ dX10_month_20
set_option maxHeartbeats 4000000 in
set_option maxRecDepth 20000 in
theorem V_X9_falls_f (l : Launch) (D : va_G) (A : Nat → Prop) (ad : Nat → Nat) (ns : List Nat) (I : MI) (L : ML) (G : MG) (a0 : Int32) (hG : SGC ns G) (hI : INV I) : Met l yX9_falls (wd yX9_falls cX9_falls 3 (some .int)) ({ frames := 1, cells := 0, slots := 0, locals := 22 }) (va_Pc [.ref (ad (0)), .int a0] (PM D A ad ns I L G)) (va_Qi (fun r u => ∃ I2 L2, u = (ad, ns, I2, L2, G) ∧ INV I2 ∧ Kp [] [(100, 7)] I I2 ∧ (ASK (0 < (I 100 0).toInt ∧ 0 ≤ a0.toInt ∧ a0.toInt ≤ 99) r (I 100 7) (I2 100 7) a0)) (BM D A) A) 0 0 A := by
  refine m_ofW (by decide) (Nat.le_of_ble_eq_true rfl) ?_
  intro p e s m below meth c ls args hC hE hM hA hS hl
  obtain ⟨hx, hb, hml, hown, hts, hr, hlocks, hin⟩ := hC
  have km1 : (-1 : Int32).toInt = -1 := by decide
  have k0 : (0 : Int32).toInt = 0 := by decide
  have k99 : (99 : Int32).toInt = 99 := by decide
  have hK : Kp [] [(100, 7)] I I := Kp.rf
  have hl : lv_has ls 3 [(0, .ref (ad (0))), (1, .int (a0))] := hl
  refine lv_aload_n hx hb dX9_falls_0 rfl (lv_at hl 0 rfl) ?_
  refine m_getr (0) 0 (100) hx hb hts hown hE oc9 hM (hG.1 0 (by decide)) rfl (by decide) rfl (hG.2 (0, 0, 100) (by decide)) (by decide) tb_398 dX9_falls_1 ?_
  refine m_calli (m_runV (100) (As := []) (rest := []) hx hb hml hown hts hE hM hS hA ce_X8_isBegun tb_484 (V_X8_isBegun_100 l D A ad ns I L G hG hI) rfl rfl ⟨Nat.le_of_ble_eq_true rfl, Nat.le_of_ble_eq_true rfl⟩ (hG.1 100 (by decide)) rfl rfl (by decide) rfl hl.1 rfl (Nat.le_of_ble_eq_true rfl) dX9_falls_4 ⟨Nat.le_of_ble_eq_true rfl, Nat.le_of_ble_eq_true rfl⟩) hS (fun r1 u H locs hw hM hS => ?_)
  obtain ⟨rfl, xr1⟩ := hw
  have hM : Mem D A ad ns I L G H := hM
  have yr1 := bo01 xr1
  refine lv_if_eq (tgt := 20) hx hb dX9_falls_7 (by decide) (fun c2 => ?_) (fun c2 => ?_)
  · have hc2 := c2
    have q2 := xr1.f hc2
    refine lv_iconst (v := (-1)) hx hb dX9_falls_20 (by decide) ?_
    exact m_iret hx hb hr hlocks hM hS (Nat.le_of_ble_eq_true rfl) (Nat.le_of_ble_eq_true rfl) ⟨_, _, rfl, hI, hK, (Or.inr ⟨by omega, rfl, rfl⟩)⟩ dX9_falls_21
  · have hc2 := c2
    have q2 := xr1.t hc2
    refine lv_iload_n hx hb dX9_falls_10 rfl (lv_at hl 1 rfl) ?_
    refine lv_iconst (v := (0)) hx hb dX9_falls_11 (by decide) ?_
    refine lv_bipush (v := (99)) hx hb dX9_falls_12 (by decide) ?_
    refine m_calli (m_runS (As := [.int (a0), .int (0), .int (99)]) (rest := []) hx hb hml hown hts hE hM hS hA ce_X9_isWithin tb_451 (V_X9_isWithin l D A ad ns I L G (a0) (0) (99) hI) rfl rfl ⟨Nat.le_of_ble_eq_true rfl, Nat.le_of_ble_eq_true rfl⟩  rfl hl.1 rfl (Nat.le_of_ble_eq_true rfl) dX9_falls_14 ⟨Nat.le_of_ble_eq_true rfl, Nat.le_of_ble_eq_true rfl⟩) hS (fun r3 u H locs hw hM hS => ?_)
    obtain ⟨rfl, xr3⟩ := hw
    have hM : Mem D A ad ns I L G H := hM
    have yr3 := bo01 xr3
    refine lv_if_ne (tgt := 22) hx hb dX9_falls_17 (by decide) (fun c4 => ?_) (fun c4 => ?_)
    · have hc4 := c4
      have q4 := xr3.t hc4
      refine lv_aload_n hx hb dX9_falls_22 rfl (lv_at hl 0 rfl) ?_
      refine m_getr (0) 0 (100) hx hb hts hown hE oc9 hM (hG.1 0 (by decide)) rfl (by decide) rfl (hG.2 (0, 0, 100) (by decide)) (by decide) tb_398 dX9_falls_23 ?_
      refine m_geti (100) 7 hx hb hts hown hE oc8 hM (hG.1 100 (by decide)) rfl (by decide) rfl tb_58 dX9_falls_26 ?_
      refine lv_istore_n (lv' := [(2, .int (I (100) 7)), (0, .ref (ad (0))), (1, .int (a0))]) hx hb dX9_falls_29 rfl hl (by decide) rfl (fun ls hl => ?_)
      refine lv_aload_n hx hb dX9_falls_30 rfl (lv_at hl 1 rfl) ?_
      refine m_getr (0) 0 (100) hx hb hts hown hE oc9 hM (hG.1 0 (by decide)) rfl (by decide) rfl (hG.2 (0, 0, 100) (by decide)) (by decide) tb_398 dX9_falls_31 ?_
      refine lv_iload_n hx hb dX9_falls_34 rfl (lv_at hl 2 rfl) ?_
      refine m_puti (100) 7 hx hb hts hown hE oc8 hM hS (hG.1 100 (by decide)) rfl (by decide) rfl rfl rfl rfl tb_58 dX9_falls_35 (fun H locs I5 eI5 hM hS => ?_)
      subst eI5
      have hI := hI.putF (n := 100) (k := 7) (v := a0) rfl
      have hK := hK.put (n := 100) (k := 7) (v := a0) (by first | rfl | simp [inR])
      refine lv_iload_n hx hb dX9_falls_38 rfl (lv_at hl 0 rfl) ?_
      exact m_iret hx hb hr hlocks hM hS (Nat.le_of_ble_eq_true rfl) (Nat.le_of_ble_eq_true rfl) ⟨_, _, rfl, hI, hK, (Or.inl ⟨by omega, rfl, (show (u2 I (100) 7 (a0)) (100) 7 = a0 from by simp [u2_v])⟩)⟩ dX9_falls_39
    · have hc4 := c4
      have q4 := xr3.f hc4
      refine lv_iconst (v := (-1)) hx hb dX9_falls_20 (by decide) ?_
      exact m_iret hx hb hr hlocks hM hS (Nat.le_of_ble_eq_true rfl) (Nat.le_of_ble_eq_true rfl) ⟨_, _, rfl, hI, hK, (Or.inr ⟨by omega, rfl, rfl⟩)⟩ dX9_falls_21
set_option maxHeartbeats 4000000 in
set_option maxRecDepth 20000 in
theorem V_X10_falls_f (l : Launch) (D : va_G) (A : Nat → Prop) (ad : Nat → Nat) (ns : List Nat) (I : MI) (L : ML) (G : MG) (a0 : Int32) (hJ : SGM ns G) (hI : INV I) : Met l yX10_falls (wd yX10_falls cX10_falls 3 (some .int)) ({ frames := 1, cells := 0, slots := 0, locals := 25 }) (va_Pc [.ref (ad (1000)), .int a0] (PM D A ad ns I L G)) (va_Qi (fun r u => ∃ I2 L2, u = (ad, ns, I2, L2, G) ∧ INV I2 ∧ Kp [] [(1001, 7)] I I2 ∧ (ASK ((I 1001 0).toInt = 1 ∧ 0 ≤ a0.toInt ∧ a0.toInt ≤ 99) r (I 1001 7) (I2 1001 7) a0)) (BM D A) A) 0 0 A := by
  refine m_ofW (by decide) (Nat.le_of_ble_eq_true rfl) ?_
  intro p e s m below meth c ls args hC hE hM hA hS hl
  obtain ⟨hx, hb, hml, hown, hts, hr, hlocks, hin⟩ := hC
  have km1 : (-1 : Int32).toInt = -1 := by decide
  have k0 : (0 : Int32).toInt = 0 := by decide
  have k7 : (7 : Int32).toInt = 7 := by decide
  have kl0 : (0 : Int64).toInt = 0 := by decide
  have kl99 : (99 : Int64).toInt = 99 := by decide
  have hK : Kp [] [(1001, 7)] I I := Kp.rf
  have hl : lv_has ls 3 [(0, .ref (ad (1000))), (1, .int (a0))] := hl
  refine lv_aload_n hx hb dX10_falls_0 rfl (lv_at hl 0 rfl) ?_
  refine m_calli (m_runV (1000) (As := []) (rest := []) hx hb hml hown hts hE hM hS hA ce_X10_isTown tb_1441 (V_X10_isTown l D A ad ns I L G hJ hI) rfl rfl ⟨Nat.le_of_ble_eq_true rfl, Nat.le_of_ble_eq_true rfl⟩ hJ.1 rfl rfl (by decide) rfl hl.1 rfl (Nat.le_of_ble_eq_true rfl) dX10_falls_1 ⟨Nat.le_of_ble_eq_true rfl, Nat.le_of_ble_eq_true rfl⟩) hS (fun r1 u H locs hw hM hS => ?_)
  obtain ⟨rfl, xr1⟩ := hw
  have hM : Mem D A ad ns I L G H := hM
  have yr1 := bo01 xr1
  refine lv_if_eq (tgt := 19) hx hb dX10_falls_4 (by decide) (fun c2 => ?_) (fun c2 => ?_)
  · have hc2 := c2
    have q2 := xr1.f hc2
    refine lv_iconst (v := (-1)) hx hb dX10_falls_19 (by decide) ?_
    exact m_iret hx hb hr hlocks hM hS (Nat.le_of_ble_eq_true rfl) (Nat.le_of_ble_eq_true rfl) ⟨_, _, rfl, hI, hK, (Or.inr ⟨by omega, rfl, rfl⟩)⟩ dX10_falls_20
  · have hc2 := c2
    have q2 := xr1.t hc2
    refine lv_iload_n hx hb dX10_falls_7 rfl (lv_at hl 1 rfl) ?_
    refine lv_i2l hx hb dX10_falls_8 rfl ?_
    refine lv_topl (fun v3 ev3 => ?_)
    have tv3 := q_i2l ev3
    refine lv_lconst (v := 0) hx hb dX10_falls_9 (by decide) ?_
    refine lv_ldc2 (v := (99)) hx hb hown (hts _ tb_1485) dX10_falls_10 ?_
    refine m_calli (m_runS (As := [.long (v3), .long (0), .long ((99 : Int64))]) (rest := []) hx hb hml hown hts hE hM hS hA ce_X10_in tb_1425 (V_X10_in l D A ad ns I L G (v3) (0) ((99 : Int64)) hI) rfl rfl ⟨Nat.le_of_ble_eq_true rfl, Nat.le_of_ble_eq_true rfl⟩  rfl hl.1 rfl (Nat.le_of_ble_eq_true rfl) dX10_falls_13 ⟨Nat.le_of_ble_eq_true rfl, Nat.le_of_ble_eq_true rfl⟩) hS (fun r4 u H locs hw hM hS => ?_)
    obtain ⟨rfl, xr4⟩ := hw
    have hM : Mem D A ad ns I L G H := hM
    have yr4 := bo01 xr4
    refine lv_if_ne (tgt := 21) hx hb dX10_falls_16 (by decide) (fun c5 => ?_) (fun c5 => ?_)
    · have hc5 := c5
      have q5 := xr4.t hc5
      refine lv_aload_n hx hb dX10_falls_21 rfl (lv_at hl 0 rfl) ?_
      refine m_getr (1000) 1 (1001) hx hb hts hown hE oc10 hM hJ.1 rfl (by decide) rfl (hJ.2 1 (by decide)).2 (by decide) tb_1178 dX10_falls_22 ?_
      refine lv_bipush (v := (7)) hx hb dX10_falls_25 (by decide) ?_
      refine m_iald (1001) hx hb hE hM (hJ.2 1 (by decide)).1 rfl (vp_in_iff.mpr (by decide)) dX10_falls_27 ?_
      rw [show (7 : Int32).toNatClampNeg = 7 from rfl]
      refine lv_istore_n (lv' := [(2, .int (I (1001) 7)), (0, .ref (ad (1000))), (1, .int (a0))]) hx hb dX10_falls_28 rfl hl (by decide) rfl (fun ls hl => ?_)
      refine lv_aload_n hx hb dX10_falls_29 rfl (lv_at hl 1 rfl) ?_
      refine m_getr (1000) 1 (1001) hx hb hts hown hE oc10 hM hJ.1 rfl (by decide) rfl (hJ.2 1 (by decide)).2 (by decide) tb_1178 dX10_falls_30 ?_
      refine lv_bipush (v := (7)) hx hb dX10_falls_33 (by decide) ?_
      refine lv_iload_n hx hb dX10_falls_35 rfl (lv_at hl 2 rfl) ?_
      refine m_iast (1001) hx hb hE hM hS (hJ.2 1 (by decide)).1 rfl (vp_in_iff.mpr (by decide)) dX10_falls_36 (fun H locs I6 eI6 hM hS => ?_)
      rw [show (7 : Int32).toNatClampNeg = 7 from rfl] at eI6
      subst eI6
      have hI := hI.putF (n := 1001) (k := 7) (v := a0) rfl
      have hK := hK.put (n := 1001) (k := 7) (v := a0) (by first | rfl | simp [inR])
      refine lv_iload_n hx hb dX10_falls_37 rfl (lv_at hl 0 rfl) ?_
      exact m_iret hx hb hr hlocks hM hS (Nat.le_of_ble_eq_true rfl) (Nat.le_of_ble_eq_true rfl) ⟨_, _, rfl, hI, hK, (Or.inl ⟨by omega, rfl, (show (u2 I (1001) 7 (a0)) (1001) 7 = a0 from by simp [u2_v])⟩)⟩ dX10_falls_38
    · have hc5 := c5
      have q5 := xr4.f hc5
      refine lv_iconst (v := (-1)) hx hb dX10_falls_19 (by decide) ?_
      exact m_iret hx hb hr hlocks hM hS (Nat.le_of_ble_eq_true rfl) (Nat.le_of_ble_eq_true rfl) ⟨_, _, rfl, hI, hK, (Or.inr ⟨by omega, rfl, rfl⟩)⟩ dX10_falls_20
set_option maxHeartbeats 4000000 in
set_option maxRecDepth 20000 in
theorem V_X9_town_f (l : Launch) (D : va_G) (A : Nat → Prop) (ad : Nat → Nat) (ns : List Nat) (I : MI) (L : ML) (G : MG) (a0 : Int32) (a1 : Int32) (a2 : Int32) (a3 : Int32) (a4 : Int32) (hG : SGC ns G) (hI : INV I) : Met l yX9_town (wd yX9_town cX9_town 6 (some .boolean)) ({ frames := 2, cells := 0, slots := 0, locals := 48 }) (va_Pc [.ref (ad (0)), .int a0, .int a1, .int a2, .int a3, .int a4] (PM D A ad ns I L G)) (va_Qi (fun r u => ∃ I2 L2, u = (ad, ns, I2, L2, G) ∧ INV I2 ∧ Kp [(100, 107)] [] I I2 ∧ ((okT a0 a1 a2 a3 a4 ∧ r = 1 ∧ I2 = beginI I 100 a0 a1 a2 a3 a4) ∨ (¬ okT a0 a1 a2 a3 a4 ∧ r = 0 ∧ I2 = I))) (BM D A) A) 0 0 A := by
  refine m_ofW (by decide) (Nat.le_of_ble_eq_true rfl) ?_
  intro p e s m below meth c ls args hC hE hM hA hS hl
  obtain ⟨hx, hb, hml, hown, hts, hr, hlocks, hin⟩ := hC
  have k0 : (0 : Int32).toInt = 0 := by decide
  have k1 : (1 : Int32).toInt = 1 := by decide
  have k4 : (4 : Int32).toInt = 4 := by decide
  have k24 : (24 : Int32).toInt = 24 := by decide
  have k1000 : (1000 : Int32).toInt = 1000 := by decide
  have hK : Kp [(100, 107)] [] I I := Kp.rf
  have hl : lv_has ls 6 [(0, .ref (ad (0))), (1, .int (a0)), (2, .int (a1)), (3, .int (a2)), (4, .int (a3)), (5, .int (a4))] := hl
  refine lv_iload_n hx hb dX9_town_0 rfl (lv_at hl 1 rfl) ?_
  refine lv_iconst (v := (4)) hx hb dX9_town_1 (by decide) ?_
  refine lv_bipush (v := (24)) hx hb dX9_town_2 (by decide) ?_
  refine m_calli (m_runS (As := [.int (a0), .int (4), .int (24)]) (rest := []) hx hb hml hown hts hE hM hS hA ce_X9_isWithin tb_451 (V_X9_isWithin l D A ad ns I L G (a0) (4) (24) hI) rfl rfl ⟨Nat.le_of_ble_eq_true rfl, Nat.le_of_ble_eq_true rfl⟩  rfl hl.1 rfl (Nat.le_of_ble_eq_true rfl) dX9_town_4 ⟨Nat.le_of_ble_eq_true rfl, Nat.le_of_ble_eq_true rfl⟩) hS (fun r1 u H locs hw hM hS => ?_)
  obtain ⟨rfl, xr1⟩ := hw
  have hM : Mem D A ad ns I L G H := hM
  have yr1 := bo01 xr1
  refine lv_if_eq (tgt := 20) hx hb dX9_town_7 (by decide) (fun c2 => ?_) (fun c2 => ?_)
  · have hc2 := c2
    have q2 := xr1.f hc2
    refine lv_iconst (v := (0)) hx hb dX9_town_20 (by decide) ?_
    exact m_zret hx hb hr rfl hlocks hM hS (Nat.le_of_ble_eq_true rfl) (Nat.le_of_ble_eq_true rfl) ⟨_, _, rfl, hI, hK, (Or.inr ⟨by unfold okT; omega, rfl, rfl⟩)⟩ dX9_town_21
  · have hc2 := c2
    have q2 := xr1.t hc2
    refine lv_iload_n hx hb dX9_town_10 rfl (lv_at hl 2 rfl) ?_
    refine lv_iconst (v := (4)) hx hb dX9_town_11 (by decide) ?_
    refine lv_bipush (v := (24)) hx hb dX9_town_12 (by decide) ?_
    refine m_calli (m_runS (As := [.int (a1), .int (4), .int (24)]) (rest := []) hx hb hml hown hts hE hM hS hA ce_X9_isWithin tb_451 (V_X9_isWithin l D A ad ns I L G (a1) (4) (24) hI) rfl rfl ⟨Nat.le_of_ble_eq_true rfl, Nat.le_of_ble_eq_true rfl⟩  rfl hl.1 rfl (Nat.le_of_ble_eq_true rfl) dX9_town_14 ⟨Nat.le_of_ble_eq_true rfl, Nat.le_of_ble_eq_true rfl⟩) hS (fun r3 u H locs hw hM hS => ?_)
    obtain ⟨rfl, xr3⟩ := hw
    have hM : Mem D A ad ns I L G H := hM
    have yr3 := bo01 xr3
    refine lv_if_ne (tgt := 22) hx hb dX9_town_17 (by decide) (fun c4 => ?_) (fun c4 => ?_)
    · have hc4 := c4
      have q4 := xr3.t hc4
      refine lv_iload_n hx hb dX9_town_22 rfl (lv_at hl 3 rfl) ?_
      refine lv_iconst (v := (0)) hx hb dX9_town_23 (by decide) ?_
      refine lv_iload_n hx hb dX9_town_24 rfl (lv_at hl 1 rfl) ?_
      refine lv_iconst (v := (1)) hx hb dX9_town_25 (by decide) ?_
      refine lv_isub hx hb dX9_town_26 ?_
      refine lv_topi (fun v5 ev5 => ?_)
      have tv5 := a_sub ev5 (by omega) (by omega)
      refine m_calli (m_runS (As := [.int (a2), .int (0), .int (v5)]) (rest := []) hx hb hml hown hts hE hM hS hA ce_X9_isWithin tb_451 (V_X9_isWithin l D A ad ns I L G (a2) (0) (v5) hI) rfl rfl ⟨Nat.le_of_ble_eq_true rfl, Nat.le_of_ble_eq_true rfl⟩  rfl hl.1 rfl (Nat.le_of_ble_eq_true rfl) dX9_town_27 ⟨Nat.le_of_ble_eq_true rfl, Nat.le_of_ble_eq_true rfl⟩) hS (fun r6 u H locs hw hM hS => ?_)
      obtain ⟨rfl, xr6⟩ := hw
      have hM : Mem D A ad ns I L G H := hM
      have yr6 := bo01 xr6
      refine lv_if_eq (tgt := 57) hx hb dX9_town_30 (by decide) (fun c7 => ?_) (fun c7 => ?_)
      · have hc7 := c7
        have q7 := xr6.f hc7
        refine lv_iconst (v := (0)) hx hb dX9_town_57 (by decide) ?_
        exact m_zret hx hb hr rfl hlocks hM hS (Nat.le_of_ble_eq_true rfl) (Nat.le_of_ble_eq_true rfl) ⟨_, _, rfl, hI, hK, (Or.inr ⟨by unfold okT; omega, rfl, rfl⟩)⟩ dX9_town_58
      · have hc7 := c7
        have q7 := xr6.t hc7
        refine lv_iload hx hb dX9_town_33 (lv_at hl 4 rfl) ?_
        refine lv_iconst (v := (0)) hx hb dX9_town_35 (by decide) ?_
        refine lv_iload_n hx hb dX9_town_36 rfl (lv_at hl 2 rfl) ?_
        refine lv_iconst (v := (1)) hx hb dX9_town_37 (by decide) ?_
        refine lv_isub hx hb dX9_town_38 ?_
        refine lv_topi (fun v8 ev8 => ?_)
        have tv8 := a_sub ev8 (by omega) (by omega)
        refine m_calli (m_runS (As := [.int (a3), .int (0), .int (v8)]) (rest := []) hx hb hml hown hts hE hM hS hA ce_X9_isWithin tb_451 (V_X9_isWithin l D A ad ns I L G (a3) (0) (v8) hI) rfl rfl ⟨Nat.le_of_ble_eq_true rfl, Nat.le_of_ble_eq_true rfl⟩  rfl hl.1 rfl (Nat.le_of_ble_eq_true rfl) dX9_town_39 ⟨Nat.le_of_ble_eq_true rfl, Nat.le_of_ble_eq_true rfl⟩) hS (fun r9 u H locs hw hM hS => ?_)
        obtain ⟨rfl, xr9⟩ := hw
        have hM : Mem D A ad ns I L G H := hM
        have yr9 := bo01 xr9
        refine lv_if_eq (tgt := 57) hx hb dX9_town_42 (by decide) (fun c10 => ?_) (fun c10 => ?_)
        · have hc10 := c10
          have q10 := xr9.f hc10
          refine lv_iconst (v := (0)) hx hb dX9_town_57 (by decide) ?_
          exact m_zret hx hb hr rfl hlocks hM hS (Nat.le_of_ble_eq_true rfl) (Nat.le_of_ble_eq_true rfl) ⟨_, _, rfl, hI, hK, (Or.inr ⟨by unfold okT; omega, rfl, rfl⟩)⟩ dX9_town_58
        · have hc10 := c10
          have q10 := xr9.t hc10
          refine lv_iload hx hb dX9_town_45 (lv_at hl 5 rfl) ?_
          refine lv_iconst (v := (0)) hx hb dX9_town_47 (by decide) ?_
          refine lv_sipush (v := (1000)) hx hb dX9_town_48 (by decide) ?_
          refine m_calli (m_runS (As := [.int (a4), .int (0), .int (1000)]) (rest := []) hx hb hml hown hts hE hM hS hA ce_X9_isWithin tb_451 (V_X9_isWithin l D A ad ns I L G (a4) (0) (1000) hI) rfl rfl ⟨Nat.le_of_ble_eq_true rfl, Nat.le_of_ble_eq_true rfl⟩  rfl hl.1 rfl (Nat.le_of_ble_eq_true rfl) dX9_town_51 ⟨Nat.le_of_ble_eq_true rfl, Nat.le_of_ble_eq_true rfl⟩) hS (fun r11 u H locs hw hM hS => ?_)
          obtain ⟨rfl, xr11⟩ := hw
          have hM : Mem D A ad ns I L G H := hM
          have yr11 := bo01 xr11
          refine lv_if_ne (tgt := 59) hx hb dX9_town_54 (by decide) (fun c12 => ?_) (fun c12 => ?_)
          · have hc12 := c12
            have q12 := xr11.t hc12
            refine lv_aload_n hx hb dX9_town_59 rfl (lv_at hl 0 rfl) ?_
            refine m_getr (0) 0 (100) hx hb hts hown hE oc9 hM (hG.1 0 (by decide)) rfl (by decide) rfl (hG.2 (0, 0, 100) (by decide)) (by decide) tb_398 dX9_town_60 ?_
            refine lv_iload_n hx hb dX9_town_63 rfl (lv_at hl 1 rfl) ?_
            refine lv_iload_n hx hb dX9_town_64 rfl (lv_at hl 2 rfl) ?_
            refine lv_iload_n hx hb dX9_town_65 rfl (lv_at hl 3 rfl) ?_
            refine lv_iload hx hb dX9_town_66 (lv_at hl 4 rfl) ?_
            refine lv_iload hx hb dX9_town_68 (lv_at hl 5 rfl) ?_
            refine m_callv (m_runV (100) (As := [.int (a0), .int (a1), .int (a2), .int (a3), .int (a4)]) (rest := []) hx hb hml hown hts hE hM hS hA ce_X8_begin tb_454 (C_X8_begin l D A ad ns I L G 100 (a0) (a1) (a2) (a3) (a4) hG.t0) rfl rfl ⟨Nat.le_of_ble_eq_true rfl, Nat.le_of_ble_eq_true rfl⟩ (hG.1 100 (by decide)) rfl rfl (by decide) rfl hl.1 rfl (Nat.le_of_ble_eq_true rfl) dX9_town_70 ⟨Nat.le_of_ble_eq_true rfl, Nat.le_of_ble_eq_true rfl⟩) hS (fun u H locs hw hM hS => ?_)
            subst hw
            obtain ⟨I13, eI13⟩ : ∃ z : MI, z = beginI I 100 (a0) (a1) (a2) (a3) (a4) := ⟨_, rfl⟩
            have hM : Mem D A ad ns I13 L G H := by rw [eI13]; exact hM
            have hkI13 : Kp [(100, 107)] [] I I13 := by rw [eI13]; exact begin_kp
            have hI : INV I13 := by rw [eI13]; exact begin_inv hI (by unfold okT; omega)
            have hK := hK.trans hkI13 rfl
            refine lv_iconst (v := (1)) hx hb dX9_town_73 (by decide) ?_
            exact m_zret hx hb hr rfl hlocks hM hS (Nat.le_of_ble_eq_true rfl) (Nat.le_of_ble_eq_true rfl) ⟨_, _, rfl, hI, hK, (Or.inl ⟨by unfold okT; omega, rfl, eI13⟩)⟩ dX9_town_74
          · have hc12 := c12
            have q12 := xr11.f hc12
            refine lv_iconst (v := (0)) hx hb dX9_town_57 (by decide) ?_
            exact m_zret hx hb hr rfl hlocks hM hS (Nat.le_of_ble_eq_true rfl) (Nat.le_of_ble_eq_true rfl) ⟨_, _, rfl, hI, hK, (Or.inr ⟨by unfold okT; omega, rfl, rfl⟩)⟩ dX9_town_58
    · have hc4 := c4
      have q4 := xr3.f hc4
      refine lv_iconst (v := (0)) hx hb dX9_town_20 (by decide) ?_
      exact m_zret hx hb hr rfl hlocks hM hS (Nat.le_of_ble_eq_true rfl) (Nat.le_of_ble_eq_true rfl) ⟨_, _, rfl, hI, hK, (Or.inr ⟨by unfold okT; omega, rfl, rfl⟩)⟩ dX9_town_21
