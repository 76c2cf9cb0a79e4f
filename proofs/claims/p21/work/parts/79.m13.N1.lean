set_option maxHeartbeats 4000000 in
set_option maxRecDepth 20000 in
theorem V_X8_setMirror_100_t (l : Launch) (D : va_G) (A : Nat → Prop) (ad : Nat → Nat) (ns : List Nat) (I : MI) (L : ML) (G : MG) (a0 : Int32) (a1 : Int32) (a2 : Int32) (hG : SGC ns G) (hI : INV I) (ha0 : 0 ≤ a0.toInt ∧ a0.toInt ≤ 23) (ha1 : 0 ≤ a1.toInt ∧ a1.toInt ≤ 9) : Met l yX8_setMirror (wd yX8_setMirror cX8_setMirror 4 none) ({ frames := 0, cells := 0, slots := 0, locals := 0 }) (va_Pc [.ref (ad (100)), .int a0, .int a1, .int a2] (PM D A ad ns I L G)) (va_Qv (fun u => ∃ I2 L2, u = (ad, ns, I2, L2, G) ∧ INV I2 ∧ Kp [(107, 108)] [] I I2 ∧ (EqV (stV (cF 100 I) (7 + (a1).toNatClampNeg) (a0).toNatClampNeg a2) (cF 100 I2))) (BM D A) A) 0 0 A := by
  refine m_ofW (by decide) (Nat.le_of_ble_eq_true rfl) ?_
  intro p e s m below meth c ls args hC hE hM hA hS hl
  obtain ⟨hx, hb, hml, hown, hts, hr, hlocks, hin⟩ := hC
  have k0 : (0 : Int32).toInt = 0 := by decide
  have k24 : (24 : Int32).toInt = 24 := by decide
  have hK : Kp [(107, 108)] [] I I := Kp.rf
  have hl : lv_has ls 4 [(0, .ref (ad (100))), (1, .int (a0)), (2, .int (a1)), (3, .int (a2))] := hl
  refine lv_aload_n hx hb dX8_setMirror_0 rfl (lv_at hl 0 rfl) ?_
  refine m_getr (100) 16 (107) hx hb hts hown hE oc8 hM (hG.1 100 (by decide)) rfl (by decide) rfl (hG.2 (100, 16, 107) (by decide)) (by decide) tb_82 dX8_setMirror_1 ?_
  refine lv_iload_n hx hb dX8_setMirror_4 rfl (lv_at hl 2 rfl) ?_
  refine lv_bipush (v := (24)) hx hb dX8_setMirror_5 (by decide) ?_
  refine lv_imul hx hb dX8_setMirror_7 ?_
  refine lv_topi (fun v1 ev1 => ?_)
  have tv1 := a_mulR (c := 24) ev1 (by decide) (by omega) (by omega)
  refine lv_iload_n hx hb dX8_setMirror_8 rfl (lv_at hl 1 rfl) ?_
  refine lv_iadd hx hb dX8_setMirror_9 ?_
  refine lv_topi (fun v2 ev2 => ?_)
  have tv2 := a_add ev2 (by omega) (by omega)
  refine lv_iload_n hx hb dX8_setMirror_10 rfl (lv_at hl 3 rfl) ?_
  refine m_iast (107) hx hb hE hM hS (hG.1 107 (by decide)) rfl (vp_in_iff.mpr (by omega)) dX8_setMirror_11 (fun H locs I3 eI3 hM hS => ?_)
  subst eI3
  have hI := hI.putF (n := 107) (k := ((v2).toNatClampNeg)) (v := a2) rfl
  have hK := hK.put (n := 107) (k := ((v2).toNatClampNeg)) (v := a2) (by first | rfl | simp [inR])
  have ec4 : (v2).toNatClampNeg = 24 * (a1).toNatClampNeg + (a0).toNatClampNeg := by have z1 := tn (i := a0) (by omega); have z2 := tn (i := a1) (by omega); have z0 := tn (i := v2) (by omega); omega
  exact m_vret hx hb hr hlocks hM hS (Nat.le_of_ble_eq_true rfl) (Nat.le_of_ble_eq_true rfl) ⟨_, _, rfl, hI, hK, (by rw [ec4]; exact cF_mir (by have zz := tn (i := a1) (by omega); omega) (by have zz := tn (i := a0) (by omega); omega))⟩ dX8_setMirror_12
set_option maxHeartbeats 4000000 in
set_option maxRecDepth 20000 in
theorem V_X8_setMirror_110_t (l : Launch) (D : va_G) (A : Nat → Prop) (ad : Nat → Nat) (ns : List Nat) (I : MI) (L : ML) (G : MG) (a0 : Int32) (a1 : Int32) (a2 : Int32) (hG : SGC ns G) (hI : INV I) (ha0 : 0 ≤ a0.toInt ∧ a0.toInt ≤ 23) (ha1 : 0 ≤ a1.toInt ∧ a1.toInt ≤ 9) : Met l yX8_setMirror (wd yX8_setMirror cX8_setMirror 4 none) ({ frames := 0, cells := 0, slots := 0, locals := 0 }) (va_Pc [.ref (ad (110)), .int a0, .int a1, .int a2] (PM D A ad ns I L G)) (va_Qv (fun u => ∃ I2 L2, u = (ad, ns, I2, L2, G) ∧ INV I2 ∧ Kp [(117, 118)] [] I I2 ∧ (EqV (stV (cF 110 I) (7 + (a1).toNatClampNeg) (a0).toNatClampNeg a2) (cF 110 I2))) (BM D A) A) 0 0 A := by
  refine m_ofW (by decide) (Nat.le_of_ble_eq_true rfl) ?_
  intro p e s m below meth c ls args hC hE hM hA hS hl
  obtain ⟨hx, hb, hml, hown, hts, hr, hlocks, hin⟩ := hC
  have k0 : (0 : Int32).toInt = 0 := by decide
  have k24 : (24 : Int32).toInt = 24 := by decide
  have hK : Kp [(117, 118)] [] I I := Kp.rf
  have hl : lv_has ls 4 [(0, .ref (ad (110))), (1, .int (a0)), (2, .int (a1)), (3, .int (a2))] := hl
  refine lv_aload_n hx hb dX8_setMirror_0 rfl (lv_at hl 0 rfl) ?_
  refine m_getr (110) 16 (117) hx hb hts hown hE oc8 hM (hG.1 110 (by decide)) rfl (by decide) rfl (hG.2 (110, 16, 117) (by decide)) (by decide) tb_82 dX8_setMirror_1 ?_
  refine lv_iload_n hx hb dX8_setMirror_4 rfl (lv_at hl 2 rfl) ?_
  refine lv_bipush (v := (24)) hx hb dX8_setMirror_5 (by decide) ?_
  refine lv_imul hx hb dX8_setMirror_7 ?_
  refine lv_topi (fun v1 ev1 => ?_)
  have tv1 := a_mulR (c := 24) ev1 (by decide) (by omega) (by omega)
  refine lv_iload_n hx hb dX8_setMirror_8 rfl (lv_at hl 1 rfl) ?_
  refine lv_iadd hx hb dX8_setMirror_9 ?_
  refine lv_topi (fun v2 ev2 => ?_)
  have tv2 := a_add ev2 (by omega) (by omega)
  refine lv_iload_n hx hb dX8_setMirror_10 rfl (lv_at hl 3 rfl) ?_
  refine m_iast (117) hx hb hE hM hS (hG.1 117 (by decide)) rfl (vp_in_iff.mpr (by omega)) dX8_setMirror_11 (fun H locs I3 eI3 hM hS => ?_)
  subst eI3
  have hI := hI.putF (n := 117) (k := ((v2).toNatClampNeg)) (v := a2) rfl
  have hK := hK.put (n := 117) (k := ((v2).toNatClampNeg)) (v := a2) (by first | rfl | simp [inR])
  have ec4 : (v2).toNatClampNeg = 24 * (a1).toNatClampNeg + (a0).toNatClampNeg := by have z1 := tn (i := a0) (by omega); have z2 := tn (i := a1) (by omega); have z0 := tn (i := v2) (by omega); omega
  exact m_vret hx hb hr hlocks hM hS (Nat.le_of_ble_eq_true rfl) (Nat.le_of_ble_eq_true rfl) ⟨_, _, rfl, hI, hK, (by rw [ec4]; exact cF_mir (by have zz := tn (i := a1) (by omega); omega) (by have zz := tn (i := a0) (by omega); omega))⟩ dX8_setMirror_12
set_option maxHeartbeats 4000000 in
set_option maxRecDepth 20000 in
theorem V_X8_setYard_100_t (l : Launch) (D : va_G) (A : Nat → Prop) (ad : Nat → Nat) (ns : List Nat) (I : MI) (L : ML) (G : MG) (a0 : Int32) (a1 : Int32) (a2 : Int32) (hG : SGC ns G) (hI : INV I) (ha0 : 0 ≤ a0.toInt ∧ a0.toInt ≤ 7) (ha1 : 0 ≤ a1.toInt ∧ a1.toInt ≤ 6) : Met l yX8_setYard (wd yX8_setYard cX8_setYard 4 none) ({ frames := 0, cells := 0, slots := 0, locals := 0 }) (va_Pc [.ref (ad (100)), .int a0, .int a1, .int a2] (PM D A ad ns I L G)) (va_Qv (fun u => ∃ I2 L2, u = (ad, ns, I2, L2, G) ∧ INV I2 ∧ Kp [(108, 109)] [] I I2 ∧ (EqV (stV (cF 100 I) (yrow (a1).toNatClampNeg) (a0).toNatClampNeg a2) (cF 100 I2))) (BM D A) A) 0 0 A := by
  refine m_ofW (by decide) (Nat.le_of_ble_eq_true rfl) ?_
  intro p e s m below meth c ls args hC hE hM hA hS hl
  obtain ⟨hx, hb, hml, hown, hts, hr, hlocks, hin⟩ := hC
  have k0 : (0 : Int32).toInt = 0 := by decide
  have k8 : (8 : Int32).toInt = 8 := by decide
  have hK : Kp [(108, 109)] [] I I := Kp.rf
  have hl : lv_has ls 4 [(0, .ref (ad (100))), (1, .int (a0)), (2, .int (a1)), (3, .int (a2))] := hl
  refine lv_aload_n hx hb dX8_setYard_0 rfl (lv_at hl 0 rfl) ?_
  refine m_getr (100) 17 (108) hx hb hts hown hE oc8 hM (hG.1 100 (by decide)) rfl (by decide) rfl (hG.2 (100, 17, 108) (by decide)) (by decide) tb_83 dX8_setYard_1 ?_
  refine lv_iload_n hx hb dX8_setYard_4 rfl (lv_at hl 2 rfl) ?_
  refine lv_bipush (v := (8)) hx hb dX8_setYard_5 (by decide) ?_
  refine lv_imul hx hb dX8_setYard_7 ?_
  refine lv_topi (fun v1 ev1 => ?_)
  have tv1 := a_mulR (c := 8) ev1 (by decide) (by omega) (by omega)
  refine lv_iload_n hx hb dX8_setYard_8 rfl (lv_at hl 1 rfl) ?_
  refine lv_iadd hx hb dX8_setYard_9 ?_
  refine lv_topi (fun v2 ev2 => ?_)
  have tv2 := a_add ev2 (by omega) (by omega)
  refine lv_iload_n hx hb dX8_setYard_10 rfl (lv_at hl 3 rfl) ?_
  refine m_iast (108) hx hb hE hM hS (hG.1 108 (by decide)) rfl (vp_in_iff.mpr (by omega)) dX8_setYard_11 (fun H locs I3 eI3 hM hS => ?_)
  subst eI3
  have hI := hI.putF (n := 108) (k := ((v2).toNatClampNeg)) (v := a2) rfl
  have hK := hK.put (n := 108) (k := ((v2).toNatClampNeg)) (v := a2) (by first | rfl | simp [inR])
  have ec4 : (v2).toNatClampNeg = 8 * (a1).toNatClampNeg + (a0).toNatClampNeg := by have z1 := tn (i := a0) (by omega); have z2 := tn (i := a1) (by omega); have z0 := tn (i := v2) (by omega); omega
  exact m_vret hx hb hr hlocks hM hS (Nat.le_of_ble_eq_true rfl) (Nat.le_of_ble_eq_true rfl) ⟨_, _, rfl, hI, hK, (by rw [ec4]; exact cF_yrd (by have zz := tn (i := a1) (by omega); omega) (by have zz := tn (i := a0) (by omega); omega))⟩ dX8_setYard_12
set_option maxHeartbeats 4000000 in
set_option maxRecDepth 20000 in
theorem V_X8_setYard_110_t (l : Launch) (D : va_G) (A : Nat → Prop) (ad : Nat → Nat) (ns : List Nat) (I : MI) (L : ML) (G : MG) (a0 : Int32) (a1 : Int32) (a2 : Int32) (hG : SGC ns G) (hI : INV I) (ha0 : 0 ≤ a0.toInt ∧ a0.toInt ≤ 7) (ha1 : 0 ≤ a1.toInt ∧ a1.toInt ≤ 6) : Met l yX8_setYard (wd yX8_setYard cX8_setYard 4 none) ({ frames := 0, cells := 0, slots := 0, locals := 0 }) (va_Pc [.ref (ad (110)), .int a0, .int a1, .int a2] (PM D A ad ns I L G)) (va_Qv (fun u => ∃ I2 L2, u = (ad, ns, I2, L2, G) ∧ INV I2 ∧ Kp [(118, 119)] [] I I2 ∧ (EqV (stV (cF 110 I) (yrow (a1).toNatClampNeg) (a0).toNatClampNeg a2) (cF 110 I2))) (BM D A) A) 0 0 A := by
  refine m_ofW (by decide) (Nat.le_of_ble_eq_true rfl) ?_
  intro p e s m below meth c ls args hC hE hM hA hS hl
  obtain ⟨hx, hb, hml, hown, hts, hr, hlocks, hin⟩ := hC
  have k0 : (0 : Int32).toInt = 0 := by decide
  have k8 : (8 : Int32).toInt = 8 := by decide
  have hK : Kp [(118, 119)] [] I I := Kp.rf
  have hl : lv_has ls 4 [(0, .ref (ad (110))), (1, .int (a0)), (2, .int (a1)), (3, .int (a2))] := hl
  refine lv_aload_n hx hb dX8_setYard_0 rfl (lv_at hl 0 rfl) ?_
  refine m_getr (110) 17 (118) hx hb hts hown hE oc8 hM (hG.1 110 (by decide)) rfl (by decide) rfl (hG.2 (110, 17, 118) (by decide)) (by decide) tb_83 dX8_setYard_1 ?_
  refine lv_iload_n hx hb dX8_setYard_4 rfl (lv_at hl 2 rfl) ?_
  refine lv_bipush (v := (8)) hx hb dX8_setYard_5 (by decide) ?_
  refine lv_imul hx hb dX8_setYard_7 ?_
  refine lv_topi (fun v1 ev1 => ?_)
  have tv1 := a_mulR (c := 8) ev1 (by decide) (by omega) (by omega)
  refine lv_iload_n hx hb dX8_setYard_8 rfl (lv_at hl 1 rfl) ?_
  refine lv_iadd hx hb dX8_setYard_9 ?_
  refine lv_topi (fun v2 ev2 => ?_)
  have tv2 := a_add ev2 (by omega) (by omega)
  refine lv_iload_n hx hb dX8_setYard_10 rfl (lv_at hl 3 rfl) ?_
  refine m_iast (118) hx hb hE hM hS (hG.1 118 (by decide)) rfl (vp_in_iff.mpr (by omega)) dX8_setYard_11 (fun H locs I3 eI3 hM hS => ?_)
  subst eI3
  have hI := hI.putF (n := 118) (k := ((v2).toNatClampNeg)) (v := a2) rfl
  have hK := hK.put (n := 118) (k := ((v2).toNatClampNeg)) (v := a2) (by first | rfl | simp [inR])
  have ec4 : (v2).toNatClampNeg = 8 * (a1).toNatClampNeg + (a0).toNatClampNeg := by have z1 := tn (i := a0) (by omega); have z2 := tn (i := a1) (by omega); have z0 := tn (i := v2) (by omega); omega
  exact m_vret hx hb hr hlocks hM hS (Nat.le_of_ble_eq_true rfl) (Nat.le_of_ble_eq_true rfl) ⟨_, _, rfl, hI, hK, (by rw [ec4]; exact cF_yrd (by have zz := tn (i := a1) (by omega); omega) (by have zz := tn (i := a0) (by omega); omega))⟩ dX8_setYard_12
set_option maxHeartbeats 4000000 in
set_option maxRecDepth 20000 in
theorem V_X8_addMirror_t (l : Launch) (D : va_G) (A : Nat → Prop) (ad : Nat → Nat) (ns : List Nat) (I : MI) (L : ML) (G : MG) (a0 : Int32) (a1 : Int32) (hG : SGC ns G) (hI : INV I) (hc : (I 100 8).toInt < 24) (ha0 : 0 ≤ a0.toInt ∧ a0.toInt ≤ 23) (ha1 : 0 ≤ a1.toInt ∧ a1.toInt ≤ 23) : Met l yX8_addMirror (wd yX8_addMirror cX8_addMirror 4 (some .int)) ({ frames := 1, cells := 0, slots := 0, locals := 23 }) (va_Pc [.ref (ad (100)), .int a0, .int a1] (PM D A ad ns I L G)) (va_Qi (fun r u => ∃ I2 L2, u = (ad, ns, I2, L2, G) ∧ INV I2 ∧ Kp [(103, 104), (107, 108)] [(100, 8)] I I2 ∧ (r = I 100 8 ∧ EqV (stV (stV (stV (stV (stV (stV (stV (cF 100 I) 1 8 (I 100 8 + 1)) 6 (24 * (a1).toNatClampNeg + (a0).toNatClampNeg) (I 100 8)) 7 (I 100 8).toNatClampNeg a0) 8 (I 100 8).toNatClampNeg a1) 14 (I 100 8).toNatClampNeg 0) 15 (I 100 8).toNatClampNeg 0) 16 (I 100 8).toNatClampNeg (-1)) (cF 100 I2))) (BM D A) A) 0 0 A := by
  refine m_ofW (by decide) (Nat.le_of_ble_eq_true rfl) ?_
  intro p e s m below meth c ls args hC hE hM hA hS hl
  obtain ⟨hx, hb, hml, hown, hts, hr, hlocks, hin⟩ := hC
  have km1 : (-1 : Int32).toInt = -1 := by decide
  have k0 : (0 : Int32).toInt = 0 := by decide
  have k1 : (1 : Int32).toInt = 1 := by decide
  have k7 : (7 : Int32).toInt = 7 := by decide
  have k8 : (8 : Int32).toInt = 8 := by decide
  have k9 : (9 : Int32).toInt = 9 := by decide
  have hK : Kp [(103, 104), (107, 108)] [(100, 8)] I I := Kp.rf
  have hl : lv_has ls 4 [(0, .ref (ad (100))), (1, .int (a0)), (2, .int (a1))] := hl
  refine lv_aload_n hx hb dX8_addMirror_0 rfl (lv_at hl 0 rfl) ?_
  refine m_geti (100) 8 hx hb hts hown hE oc8 hM (hG.1 100 (by decide)) rfl (by decide) rfl tb_59 dX8_addMirror_1 ?_
  have g1 := hI.get (100) 8 (lo := 0) (hi := 24) rfl
  refine lv_istore_n (lv' := [(3, .int (I (100) 8)), (0, .ref (ad (100))), (1, .int (a0)), (2, .int (a1))]) hx hb dX8_addMirror_4 rfl hl (by decide) rfl (fun ls hl => ?_)
  refine lv_aload_n hx hb dX8_addMirror_5 rfl (lv_at hl 1 rfl) ?_
  refine lv_dup hx hb dX8_addMirror_6 rfl ?_
  refine m_geti (100) 8 hx hb hts hown hE oc8 hM (hG.1 100 (by decide)) rfl (by decide) rfl tb_59 dX8_addMirror_7 ?_
  refine lv_iconst (v := (1)) hx hb dX8_addMirror_10 (by decide) ?_
  refine lv_iadd hx hb dX8_addMirror_11 ?_
  refine lv_topi (fun v2 ev2 => ?_)
  have tv2 := a_add ev2 (by omega) (by omega)
  refine m_puti (100) 8 hx hb hts hown hE oc8 hM hS (hG.1 100 (by decide)) rfl (by decide) rfl rfl rfl rfl tb_59 dX8_addMirror_12 (fun H locs I3 eI3 hM hS => ?_)
  subst eI3
  have hI := hI.put (n := 100) (k := 8) (v := v2) (lo := 0) (hi := 24) rfl (by first | omega | decide)
  have hK := hK.put (n := 100) (k := 8) (v := v2) (by first | rfl | simp [inR])
  refine lv_aload_n hx hb dX8_addMirror_15 rfl (lv_at hl 1 rfl) ?_
  refine m_getr (100) 12 (103) hx hb hts hown hE oc8 hM (hG.1 100 (by decide)) rfl (by decide) rfl (hG.2 (100, 12, 103) (by decide)) (by decide) tb_71 dX8_addMirror_16 ?_
  refine lv_iload_n hx hb dX8_addMirror_19 rfl (lv_at hl 2 rfl) ?_
  refine lv_iload_n hx hb dX8_addMirror_20 rfl (lv_at hl 3 rfl) ?_
  refine m_calli (m_runSN (As := [.int (a0), .int (a1)]) (rest := [.ref (ad (103))]) hx hb hml hown hts hE hM hS hA ce_X9_cellOf (List.mem_of_getElem? (i := 5) rfl) (V_X9_cellOf l D A ad ns (u2 I (100) 8 (v2)) L G (a0) (a1) hI (by first | omega | decide) (by first | omega | decide)) rfl rfl ⟨Nat.le_of_ble_eq_true rfl, Nat.le_of_ble_eq_true rfl⟩  rfl hl.1 rfl (Nat.le_of_ble_eq_true rfl) dX8_addMirror_21 ⟨Nat.le_of_ble_eq_true rfl, Nat.le_of_ble_eq_true rfl⟩) hS (fun r4 u H locs hw hM hS => ?_)
  obtain ⟨rfl, xr4⟩ := hw
  have hM : Mem D A ad ns (u2 I (100) 8 (v2)) L G H := hM
  refine lv_iload_n hx hb dX8_addMirror_24 rfl (lv_at hl 0 rfl) ?_
  refine m_iast (103) hx hb hE hM hS (hG.1 103 (by decide)) rfl (vp_in_iff.mpr (by omega)) dX8_addMirror_25 (fun H locs I5 eI5 hM hS => ?_)
  subst eI5
  have hI := hI.put (n := 103) (k := ((r4).toNatClampNeg)) (v := I (100) 8) (lo := -1) (hi := 23) rfl (by first | omega | decide)
  have hK := hK.put (n := 103) (k := ((r4).toNatClampNeg)) (v := I (100) 8) (by first | rfl | simp [inR])
  refine lv_aload_n hx hb dX8_addMirror_26 rfl (lv_at hl 1 rfl) ?_
  refine lv_iload_n hx hb dX8_addMirror_27 rfl (lv_at hl 0 rfl) ?_
  refine lv_iconst (v := (0)) hx hb dX8_addMirror_28 (by decide) ?_
  refine lv_iload_n hx hb dX8_addMirror_29 rfl (lv_at hl 2 rfl) ?_
  refine m_callv (m_runV (100) (As := [.int (I (100) 8), .int (0), .int (a0)]) (rest := []) hx hb hml hown hts hE hM hS hA ce_X8_setMirror tb_499 (V_X8_setMirror_100_t l D A ad ns (u2 (u2 I (100) 8 (v2)) (103) ((r4).toNatClampNeg) (I (100) 8)) L G (I (100) 8) (0) (a0) hG hI (by first | omega | decide) (by first | omega | decide)) rfl rfl ⟨Nat.le_of_ble_eq_true rfl, Nat.le_of_ble_eq_true rfl⟩ (hG.1 100 (by decide)) rfl rfl (by decide) rfl hl.1 rfl (Nat.le_of_ble_eq_true rfl) dX8_addMirror_30 ⟨Nat.le_of_ble_eq_true rfl, Nat.le_of_ble_eq_true rfl⟩) hS (fun u H locs hw hM hS => ?_)
  obtain ⟨I6, L7, rfl, hI, hkI6, xI6⟩ := hw
  have hM : Mem D A ad ns I6 L7 G H := hM
  have hK := hK.trans hkI6 rfl
  refine lv_aload_n hx hb dX8_addMirror_33 rfl (lv_at hl 1 rfl) ?_
  refine lv_iload_n hx hb dX8_addMirror_34 rfl (lv_at hl 0 rfl) ?_
  refine lv_iconst (v := (1)) hx hb dX8_addMirror_35 (by decide) ?_
  refine lv_iload_n hx hb dX8_addMirror_36 rfl (lv_at hl 3 rfl) ?_
  refine m_callv (m_runV (100) (As := [.int (I (100) 8), .int (1), .int (a1)]) (rest := []) hx hb hml hown hts hE hM hS hA ce_X8_setMirror tb_499 (V_X8_setMirror_100_t l D A ad ns I6 L7 G (I (100) 8) (1) (a1) hG hI (by first | omega | decide) (by first | omega | decide)) rfl rfl ⟨Nat.le_of_ble_eq_true rfl, Nat.le_of_ble_eq_true rfl⟩ (hG.1 100 (by decide)) rfl rfl (by decide) rfl hl.1 rfl (Nat.le_of_ble_eq_true rfl) dX8_addMirror_37 ⟨Nat.le_of_ble_eq_true rfl, Nat.le_of_ble_eq_true rfl⟩) hS (fun u H locs hw hM hS => ?_)
  obtain ⟨I8, L9, rfl, hI, hkI8, xI8⟩ := hw
  have hM : Mem D A ad ns I8 L9 G H := hM
  have hK := hK.trans hkI8 rfl
  refine lv_aload_n hx hb dX8_addMirror_40 rfl (lv_at hl 1 rfl) ?_
  refine lv_iload_n hx hb dX8_addMirror_41 rfl (lv_at hl 0 rfl) ?_
  refine lv_bipush (v := (7)) hx hb dX8_addMirror_42 (by decide) ?_
  refine lv_iconst (v := (0)) hx hb dX8_addMirror_44 (by decide) ?_
  refine m_callv (m_runV (100) (As := [.int (I (100) 8), .int (7), .int (0)]) (rest := []) hx hb hml hown hts hE hM hS hA ce_X8_setMirror tb_499 (V_X8_setMirror_100_t l D A ad ns I8 L9 G (I (100) 8) (7) (0) hG hI (by first | omega | decide) (by first | omega | decide)) rfl rfl ⟨Nat.le_of_ble_eq_true rfl, Nat.le_of_ble_eq_true rfl⟩ (hG.1 100 (by decide)) rfl rfl (by decide) rfl hl.1 rfl (Nat.le_of_ble_eq_true rfl) dX8_addMirror_45 ⟨Nat.le_of_ble_eq_true rfl, Nat.le_of_ble_eq_true rfl⟩) hS (fun u H locs hw hM hS => ?_)
  obtain ⟨I10, L11, rfl, hI, hkI10, xI10⟩ := hw
  have hM : Mem D A ad ns I10 L11 G H := hM
  have hK := hK.trans hkI10 rfl
  refine lv_aload_n hx hb dX8_addMirror_48 rfl (lv_at hl 1 rfl) ?_
  refine lv_iload_n hx hb dX8_addMirror_49 rfl (lv_at hl 0 rfl) ?_
  refine lv_bipush (v := (8)) hx hb dX8_addMirror_50 (by decide) ?_
  refine lv_iconst (v := (0)) hx hb dX8_addMirror_52 (by decide) ?_
  refine m_callv (m_runV (100) (As := [.int (I (100) 8), .int (8), .int (0)]) (rest := []) hx hb hml hown hts hE hM hS hA ce_X8_setMirror tb_499 (V_X8_setMirror_100_t l D A ad ns I10 L11 G (I (100) 8) (8) (0) hG hI (by first | omega | decide) (by first | omega | decide)) rfl rfl ⟨Nat.le_of_ble_eq_true rfl, Nat.le_of_ble_eq_true rfl⟩ (hG.1 100 (by decide)) rfl rfl (by decide) rfl hl.1 rfl (Nat.le_of_ble_eq_true rfl) dX8_addMirror_53 ⟨Nat.le_of_ble_eq_true rfl, Nat.le_of_ble_eq_true rfl⟩) hS (fun u H locs hw hM hS => ?_)
  obtain ⟨I12, L13, rfl, hI, hkI12, xI12⟩ := hw
  have hM : Mem D A ad ns I12 L13 G H := hM
  have hK := hK.trans hkI12 rfl
  refine lv_aload_n hx hb dX8_addMirror_56 rfl (lv_at hl 1 rfl) ?_
  refine lv_iload_n hx hb dX8_addMirror_57 rfl (lv_at hl 0 rfl) ?_
  refine lv_bipush (v := (9)) hx hb dX8_addMirror_58 (by decide) ?_
  refine lv_iconst (v := (-1)) hx hb dX8_addMirror_60 (by decide) ?_
  refine m_callv (m_runV (100) (As := [.int (I (100) 8), .int (9), .int ((-1 : Int32))]) (rest := []) hx hb hml hown hts hE hM hS hA ce_X8_setMirror tb_499 (V_X8_setMirror_100_t l D A ad ns I12 L13 G (I (100) 8) (9) ((-1 : Int32)) hG hI (by first | omega | decide) (by first | omega | decide)) rfl rfl ⟨Nat.le_of_ble_eq_true rfl, Nat.le_of_ble_eq_true rfl⟩ (hG.1 100 (by decide)) rfl rfl (by decide) rfl hl.1 rfl (Nat.le_of_ble_eq_true rfl) dX8_addMirror_61 ⟨Nat.le_of_ble_eq_true rfl, Nat.le_of_ble_eq_true rfl⟩) hS (fun u H locs hw hM hS => ?_)
  obtain ⟨I14, L15, rfl, hI, hkI14, xI14⟩ := hw
  have hM : Mem D A ad ns I14 L15 G H := hM
  have hK := hK.trans hkI14 rfl
  refine lv_iload_n hx hb dX8_addMirror_64 rfl (lv_at hl 0 rfl) ?_
  have ecl : (r4).toNatClampNeg = 24 * (a1).toNatClampNeg + (a0).toNatClampNeg := by have z0 := tn (i := r4) (by omega); have z1 := tn (i := a0) (by omega); have z2 := tn (i := a1) (by omega); omega
  exact m_iret hx hb hr hlocks hM hS (Nat.le_of_ble_eq_true rfl) (Nat.le_of_ble_eq_true rfl) ⟨_, _, rfl, hI, hK, ⟨rfl, by have hh := (((((((cF_sc (b := 100) (I := I) (n := 8) (k := 8) (v := v2) (by decide)).st (cF_at (b := 100) (n := 6) (k := (r4).toNatClampNeg) (by decide) (show (r4).toNatClampNeg < 576 from by have zz := tn (i := r4) (by omega); omega))).st xI6).st xI8).st xI10).st xI12).st xI14); rw [ecl, ev2] at hh; exact hh⟩⟩ dX8_addMirror_65
set_option maxHeartbeats 4000000 in
set_option maxRecDepth 20000 in
theorem V_X9_mirror_t (l : Launch) (D : va_G) (A : Nat → Prop) (ad : Nat → Nat) (ns : List Nat) (I : MI) (L : ML) (G : MG) (a0 : Int32) (a1 : Int32) (a2 : Int32) (a3 : Int32) (a4 : Int32) (a5 : Int32) (a6 : Int32) (hG : SGC ns G) (hI : INV I) : Met l yX9_mirror (wd yX9_mirror cX9_mirror 9 (some .int)) ({ frames := 2, cells := 0, slots := 0, locals := 46 }) (va_Pc [.ref (ad (0)), .int a0, .int a1, .int a2, .int a3, .int a4, .int a5, .int a6] (PM D A ad ns I L G)) (va_Qi (fun r u => ∃ I2 L2, u = (ad, ns, I2, L2, G) ∧ INV I2 ∧ Kp [(103, 104), (107, 108)] [(100, 8)] I I2 ∧ (ADT ((0 ≤ a0.toInt ∧ a0.toInt < (I 100 0).toInt ∧ 0 ≤ a1.toInt ∧ a1.toInt < (I 100 1).toInt) ∧ (I 103 (24 * (a1).toNatClampNeg + (a0).toNatClampNeg)).toInt = -1 ∧ (I 100 8).toInt < 24 ∧ (0 ≤ a2.toInt ∧ a2.toInt ≤ 7) ∧ (0 ≤ a3.toInt ∧ a3.toInt ≤ 1000) ∧ (0 ≤ a4.toInt ∧ a4.toInt ≤ 1000) ∧ (0 ≤ a5.toInt ∧ a5.toInt ≤ 4) ∧ 0 ≤ a6.toInt ∧ a6.toInt ≤ 9) r (I 100 8) I I2 (mirV (cF 100 I) (24 * (a1).toNatClampNeg + (a0).toNatClampNeg) a0 a1 a2 a3 a4 a5 a6) (cF 100 I2))) (BM D A) A) 0 0 A := by
  refine m_ofW (by decide) (Nat.le_of_ble_eq_true rfl) ?_
  intro p e s m below meth c ls args hC hE hM hA hS hl
  obtain ⟨hx, hb, hml, hown, hts, hr, hlocks, hin⟩ := hC
  have km1 : (-1 : Int32).toInt = -1 := by decide
  have k0 : (0 : Int32).toInt = 0 := by decide
  have k2 : (2 : Int32).toInt = 2 := by decide
  have k3 : (3 : Int32).toInt = 3 := by decide
  have k4 : (4 : Int32).toInt = 4 := by decide
  have k5 : (5 : Int32).toInt = 5 := by decide
  have k6 : (6 : Int32).toInt = 6 := by decide
  have k7 : (7 : Int32).toInt = 7 := by decide
  have k9 : (9 : Int32).toInt = 9 := by decide
  have k24 : (24 : Int32).toInt = 24 := by decide
  have k1000 : (1000 : Int32).toInt = 1000 := by decide
  have hK : Kp [(103, 104), (107, 108)] [(100, 8)] I I := Kp.rf
  have hl : lv_has ls 9 [(0, .ref (ad (0))), (1, .int (a0)), (2, .int (a1)), (3, .int (a2)), (4, .int (a3)), (5, .int (a4)), (6, .int (a5)), (7, .int (a6))] := hl
  refine lv_aload_n hx hb dX9_mirror_0 rfl (lv_at hl 0 rfl) ?_
  refine m_getr (0) 0 (100) hx hb hts hown hE oc9 hM (hG.1 0 (by decide)) rfl (by decide) rfl (hG.2 (0, 0, 100) (by decide)) (by decide) tb_398 dX9_mirror_1 ?_
  refine lv_iload_n hx hb dX9_mirror_4 rfl (lv_at hl 1 rfl) ?_
  refine lv_iload_n hx hb dX9_mirror_5 rfl (lv_at hl 2 rfl) ?_
  refine m_calli (m_runV (100) (As := [.int (a0), .int (a1)]) (rest := []) hx hb hml hown hts hE hM hS hA ce_X8_hasCell tb_493 (V_X8_hasCell_100 l D A ad ns I L G (a0) (a1) hG hI) rfl rfl ⟨Nat.le_of_ble_eq_true rfl, Nat.le_of_ble_eq_true rfl⟩ (hG.1 100 (by decide)) rfl rfl (by decide) rfl hl.1 rfl (Nat.le_of_ble_eq_true rfl) dX9_mirror_6 ⟨Nat.le_of_ble_eq_true rfl, Nat.le_of_ble_eq_true rfl⟩) hS (fun r1 u H locs hw hM hS => ?_)
  obtain ⟨rfl, xr1⟩ := hw
  have hM : Mem D A ad ns I L G H := hM
  have yr1 := bo01 xr1
  have g2 := hI.get 100 0 (lo := 0) (hi := 24) rfl
  have g3 := hI.get 100 1 (lo := 0) (hi := 24) rfl
  refine lv_if_eq (tgt := 41) hx hb dX9_mirror_9 (by decide) (fun c4 => ?_) (fun c4 => ?_)
  · have hc4 := c4
    have q4 := xr1.f hc4
    refine lv_iconst (v := (-1)) hx hb dX9_mirror_41 (by decide) ?_
    exact m_iret hx hb hr hlocks hM hS (Nat.le_of_ble_eq_true rfl) (Nat.le_of_ble_eq_true rfl) ⟨_, _, rfl, hI, hK, (Or.inr ⟨by omega, rfl, rfl⟩)⟩ dX9_mirror_42
  · have hc4 := c4
    have q4 := xr1.t hc4
    refine lv_aload_n hx hb dX9_mirror_12 rfl (lv_at hl 0 rfl) ?_
    refine m_getr (0) 0 (100) hx hb hts hown hE oc9 hM (hG.1 0 (by decide)) rfl (by decide) rfl (hG.2 (0, 0, 100) (by decide)) (by decide) tb_398 dX9_mirror_13 ?_
    refine m_getr (100) 12 (103) hx hb hts hown hE oc8 hM (hG.1 100 (by decide)) rfl (by decide) rfl (hG.2 (100, 12, 103) (by decide)) (by decide) tb_73 dX9_mirror_16 ?_
    refine lv_iload_n hx hb dX9_mirror_19 rfl (lv_at hl 1 rfl) ?_
    refine lv_iload_n hx hb dX9_mirror_20 rfl (lv_at hl 2 rfl) ?_
    refine m_calli (m_runS (As := [.int (a0), .int (a1)]) (rest := [.ref (ad (103))]) hx hb hml hown hts hE hM hS hA ce_X9_cellOf tb_494 (V_X9_cellOf l D A ad ns I L G (a0) (a1) hI (by first | omega | decide) (by first | omega | decide)) rfl rfl ⟨Nat.le_of_ble_eq_true rfl, Nat.le_of_ble_eq_true rfl⟩  rfl hl.1 rfl (Nat.le_of_ble_eq_true rfl) dX9_mirror_21 ⟨Nat.le_of_ble_eq_true rfl, Nat.le_of_ble_eq_true rfl⟩) hS (fun r5 u H locs hw hM hS => ?_)
    obtain ⟨rfl, xr5⟩ := hw
    have hM : Mem D A ad ns I L G H := hM
    refine m_iald (103) hx hb hE hM (hG.1 103 (by decide)) rfl (vp_in_iff.mpr (by omega)) dX9_mirror_24 ?_
    have g6 := hI.get (103) ((r5).toNatClampNeg) (lo := -1) (hi := 23) rfl
    have ecm : (r5).toNatClampNeg = 24 * (a1).toNatClampNeg + (a0).toNatClampNeg := by have z0 := tn (i := r5) (by omega); have z1 := tn (i := a0) (by omega); have z2 := tn (i := a1) (by omega); omega
    have hat : (I (103) (r5).toNatClampNeg).toInt = (I 103 (24 * (a1).toNatClampNeg + (a0).toNatClampNeg)).toInt := by rw [ecm]
    refine lv_iconst (v := (-1)) hx hb dX9_mirror_25 (by decide) ?_
    refine lv_icmp_ne (tgt := 41) hx hb dX9_mirror_26 (by decide) (fun c7 => ?_) (fun c7 => ?_)
    · have hc7 := c7
      have q7 := q_ne hc7
      refine lv_iconst (v := (-1)) hx hb dX9_mirror_41 (by decide) ?_
      exact m_iret hx hb hr hlocks hM hS (Nat.le_of_ble_eq_true rfl) (Nat.le_of_ble_eq_true rfl) ⟨_, _, rfl, hI, hK, (Or.inr ⟨by omega, rfl, rfl⟩)⟩ dX9_mirror_42
    · have hc7 := c7
      have q7 := q_eq hc7
      refine lv_aload_n hx hb dX9_mirror_29 rfl (lv_at hl 0 rfl) ?_
      refine m_getr (0) 0 (100) hx hb hts hown hE oc9 hM (hG.1 0 (by decide)) rfl (by decide) rfl (hG.2 (0, 0, 100) (by decide)) (by decide) tb_398 dX9_mirror_30 ?_
      refine m_geti (100) 8 hx hb hts hown hE oc8 hM (hG.1 100 (by decide)) rfl (by decide) rfl tb_62 dX9_mirror_33 ?_
      have g8 := hI.get (100) 8 (lo := 0) (hi := 24) rfl
      refine lv_bipush (v := (24)) hx hb dX9_mirror_36 (by decide) ?_
      refine lv_icmp_lt (tgt := 43) hx hb dX9_mirror_38 (by decide) (fun c9 => ?_) (fun c9 => ?_)
      · have hc9 := c9
        have q9 := q_lt hc9
        refine lv_iload_n hx hb dX9_mirror_43 rfl (lv_at hl 3 rfl) ?_
        refine lv_iconst (v := (0)) hx hb dX9_mirror_44 (by decide) ?_
        refine lv_bipush (v := (7)) hx hb dX9_mirror_45 (by decide) ?_
        refine m_calli (m_runS (As := [.int (a2), .int (0), .int (7)]) (rest := []) hx hb hml hown hts hE hM hS hA ce_X9_isWithin tb_451 (V_X9_isWithin l D A ad ns I L G (a2) (0) (7) hI) rfl rfl ⟨Nat.le_of_ble_eq_true rfl, Nat.le_of_ble_eq_true rfl⟩  rfl hl.1 rfl (Nat.le_of_ble_eq_true rfl) dX9_mirror_47 ⟨Nat.le_of_ble_eq_true rfl, Nat.le_of_ble_eq_true rfl⟩) hS (fun r10 u H locs hw hM hS => ?_)
        obtain ⟨rfl, xr10⟩ := hw
        have hM : Mem D A ad ns I L G H := hM
        have yr10 := bo01 xr10
        refine lv_if_eq (tgt := 98) hx hb dX9_mirror_50 (by decide) (fun c11 => ?_) (fun c11 => ?_)
        · have hc11 := c11
          have q11 := xr10.f hc11
          refine lv_iconst (v := (-1)) hx hb dX9_mirror_98 (by decide) ?_
          exact m_iret hx hb hr hlocks hM hS (Nat.le_of_ble_eq_true rfl) (Nat.le_of_ble_eq_true rfl) ⟨_, _, rfl, hI, hK, (Or.inr ⟨by omega, rfl, rfl⟩)⟩ dX9_mirror_99
        · have hc11 := c11
          have q11 := xr10.t hc11
          refine lv_iload hx hb dX9_mirror_53 (lv_at hl 4 rfl) ?_
          refine lv_iconst (v := (0)) hx hb dX9_mirror_55 (by decide) ?_
          refine lv_sipush (v := (1000)) hx hb dX9_mirror_56 (by decide) ?_
          refine m_calli (m_runS (As := [.int (a3), .int (0), .int (1000)]) (rest := []) hx hb hml hown hts hE hM hS hA ce_X9_isWithin tb_451 (V_X9_isWithin l D A ad ns I L G (a3) (0) (1000) hI) rfl rfl ⟨Nat.le_of_ble_eq_true rfl, Nat.le_of_ble_eq_true rfl⟩  rfl hl.1 rfl (Nat.le_of_ble_eq_true rfl) dX9_mirror_59 ⟨Nat.le_of_ble_eq_true rfl, Nat.le_of_ble_eq_true rfl⟩) hS (fun r12 u H locs hw hM hS => ?_)
          obtain ⟨rfl, xr12⟩ := hw
          have hM : Mem D A ad ns I L G H := hM
          have yr12 := bo01 xr12
          refine lv_if_eq (tgt := 98) hx hb dX9_mirror_62 (by decide) (fun c13 => ?_) (fun c13 => ?_)
          · have hc13 := c13
            have q13 := xr12.f hc13
            refine lv_iconst (v := (-1)) hx hb dX9_mirror_98 (by decide) ?_
            exact m_iret hx hb hr hlocks hM hS (Nat.le_of_ble_eq_true rfl) (Nat.le_of_ble_eq_true rfl) ⟨_, _, rfl, hI, hK, (Or.inr ⟨by omega, rfl, rfl⟩)⟩ dX9_mirror_99
          · have hc13 := c13
            have q13 := xr12.t hc13
            refine lv_iload hx hb dX9_mirror_65 (lv_at hl 5 rfl) ?_
            refine lv_iconst (v := (0)) hx hb dX9_mirror_67 (by decide) ?_
            refine lv_sipush (v := (1000)) hx hb dX9_mirror_68 (by decide) ?_
            refine m_calli (m_runS (As := [.int (a4), .int (0), .int (1000)]) (rest := []) hx hb hml hown hts hE hM hS hA ce_X9_isWithin tb_451 (V_X9_isWithin l D A ad ns I L G (a4) (0) (1000) hI) rfl rfl ⟨Nat.le_of_ble_eq_true rfl, Nat.le_of_ble_eq_true rfl⟩  rfl hl.1 rfl (Nat.le_of_ble_eq_true rfl) dX9_mirror_71 ⟨Nat.le_of_ble_eq_true rfl, Nat.le_of_ble_eq_true rfl⟩) hS (fun r14 u H locs hw hM hS => ?_)
            obtain ⟨rfl, xr14⟩ := hw
            have hM : Mem D A ad ns I L G H := hM
            have yr14 := bo01 xr14
            refine lv_if_eq (tgt := 98) hx hb dX9_mirror_74 (by decide) (fun c15 => ?_) (fun c15 => ?_)
            · have hc15 := c15
              have q15 := xr14.f hc15
              refine lv_iconst (v := (-1)) hx hb dX9_mirror_98 (by decide) ?_
              exact m_iret hx hb hr hlocks hM hS (Nat.le_of_ble_eq_true rfl) (Nat.le_of_ble_eq_true rfl) ⟨_, _, rfl, hI, hK, (Or.inr ⟨by omega, rfl, rfl⟩)⟩ dX9_mirror_99
            · have hc15 := c15
              have q15 := xr14.t hc15
              refine lv_iload hx hb dX9_mirror_77 (lv_at hl 6 rfl) ?_
              refine lv_iconst (v := (0)) hx hb dX9_mirror_79 (by decide) ?_
              refine lv_iconst (v := (4)) hx hb dX9_mirror_80 (by decide) ?_
              refine m_calli (m_runS (As := [.int (a5), .int (0), .int (4)]) (rest := []) hx hb hml hown hts hE hM hS hA ce_X9_isWithin tb_451 (V_X9_isWithin l D A ad ns I L G (a5) (0) (4) hI) rfl rfl ⟨Nat.le_of_ble_eq_true rfl, Nat.le_of_ble_eq_true rfl⟩  rfl hl.1 rfl (Nat.le_of_ble_eq_true rfl) dX9_mirror_81 ⟨Nat.le_of_ble_eq_true rfl, Nat.le_of_ble_eq_true rfl⟩) hS (fun r16 u H locs hw hM hS => ?_)
              obtain ⟨rfl, xr16⟩ := hw
              have hM : Mem D A ad ns I L G H := hM
              have yr16 := bo01 xr16
              refine lv_if_eq (tgt := 98) hx hb dX9_mirror_84 (by decide) (fun c17 => ?_) (fun c17 => ?_)
              · have hc17 := c17
                have q17 := xr16.f hc17
                refine lv_iconst (v := (-1)) hx hb dX9_mirror_98 (by decide) ?_
                exact m_iret hx hb hr hlocks hM hS (Nat.le_of_ble_eq_true rfl) (Nat.le_of_ble_eq_true rfl) ⟨_, _, rfl, hI, hK, (Or.inr ⟨by omega, rfl, rfl⟩)⟩ dX9_mirror_99
              · have hc17 := c17
                have q17 := xr16.t hc17
                refine lv_iload hx hb dX9_mirror_87 (lv_at hl 7 rfl) ?_
                refine lv_iconst (v := (0)) hx hb dX9_mirror_89 (by decide) ?_
                refine lv_bipush (v := (9)) hx hb dX9_mirror_90 (by decide) ?_
                refine m_calli (m_runS (As := [.int (a6), .int (0), .int (9)]) (rest := []) hx hb hml hown hts hE hM hS hA ce_X9_isWithin tb_451 (V_X9_isWithin l D A ad ns I L G (a6) (0) (9) hI) rfl rfl ⟨Nat.le_of_ble_eq_true rfl, Nat.le_of_ble_eq_true rfl⟩  rfl hl.1 rfl (Nat.le_of_ble_eq_true rfl) dX9_mirror_92 ⟨Nat.le_of_ble_eq_true rfl, Nat.le_of_ble_eq_true rfl⟩) hS (fun r18 u H locs hw hM hS => ?_)
                obtain ⟨rfl, xr18⟩ := hw
                have hM : Mem D A ad ns I L G H := hM
                have yr18 := bo01 xr18
                refine lv_if_ne (tgt := 100) hx hb dX9_mirror_95 (by decide) (fun c19 => ?_) (fun c19 => ?_)
                · have hc19 := c19
                  have q19 := xr18.t hc19
                  refine lv_aload_n hx hb dX9_mirror_100 rfl (lv_at hl 0 rfl) ?_
                  refine m_getr (0) 0 (100) hx hb hts hown hE oc9 hM (hG.1 0 (by decide)) rfl (by decide) rfl (hG.2 (0, 0, 100) (by decide)) (by decide) tb_398 dX9_mirror_101 ?_
                  refine lv_iload_n hx hb dX9_mirror_104 rfl (lv_at hl 1 rfl) ?_
                  refine lv_iload_n hx hb dX9_mirror_105 rfl (lv_at hl 2 rfl) ?_
                  refine m_calli (m_runV (100) (As := [.int (a0), .int (a1)]) (rest := []) hx hb hml hown hts hE hM hS hA ce_X8_addMirror tb_495 (V_X8_addMirror_t l D A ad ns I L G (a0) (a1) hG hI (by first | omega | decide) (by first | omega | decide) (by first | omega | decide)) rfl rfl ⟨Nat.le_of_ble_eq_true rfl, Nat.le_of_ble_eq_true rfl⟩ (hG.1 100 (by decide)) rfl rfl (by decide) rfl hl.1 rfl (Nat.le_of_ble_eq_true rfl) dX9_mirror_106 ⟨Nat.le_of_ble_eq_true rfl, Nat.le_of_ble_eq_true rfl⟩) hS (fun r20 u H locs hw hM hS => ?_)
                  obtain ⟨I21, L22, rfl, hI, hkI21, xr20⟩ := hw
                  have hM : Mem D A ad ns I21 L22 G H := hM
                  have hK := hK.trans hkI21 rfl
                  have rrr20 := congrArg Int32.toInt xr20.1
                  refine lv_istore (lv' := [(8, .int (r20)), (0, .ref (ad (0))), (1, .int (a0)), (2, .int (a1)), (3, .int (a2)), (4, .int (a3)), (5, .int (a4)), (6, .int (a5)), (7, .int (a6))]) hx hb dX9_mirror_109 hl (by decide) rfl (fun ls hl => ?_)
                  refine lv_aload_n hx hb dX9_mirror_111 rfl (lv_at hl 1 rfl) ?_
                  refine m_getr (0) 0 (100) hx hb hts hown hE oc9 hM (hG.1 0 (by decide)) rfl (by decide) rfl (hG.2 (0, 0, 100) (by decide)) (by decide) tb_398 dX9_mirror_112 ?_
                  refine lv_iload hx hb dX9_mirror_115 (lv_at hl 0 rfl) ?_
                  refine lv_iconst (v := (2)) hx hb dX9_mirror_117 (by decide) ?_
                  refine lv_iload_n hx hb dX9_mirror_118 rfl (lv_at hl 4 rfl) ?_
                  refine m_callv (m_runV (100) (As := [.int (r20), .int (2), .int (a2)]) (rest := []) hx hb hml hown hts hE hM hS hA ce_X8_setMirror tb_503 (V_X8_setMirror_100_t l D A ad ns I21 L22 G (r20) (2) (a2) hG hI (by first | omega | decide) (by first | omega | decide)) rfl rfl ⟨Nat.le_of_ble_eq_true rfl, Nat.le_of_ble_eq_true rfl⟩ (hG.1 100 (by decide)) rfl rfl (by decide) rfl hl.1 rfl (Nat.le_of_ble_eq_true rfl) dX9_mirror_119 ⟨Nat.le_of_ble_eq_true rfl, Nat.le_of_ble_eq_true rfl⟩) hS (fun u H locs hw hM hS => ?_)
                  obtain ⟨I23, L24, rfl, hI, hkI23, xI23⟩ := hw
                  have hM : Mem D A ad ns I23 L24 G H := hM
                  have hK := hK.trans hkI23 rfl
                  refine lv_aload_n hx hb dX9_mirror_122 rfl (lv_at hl 1 rfl) ?_
                  refine m_getr (0) 0 (100) hx hb hts hown hE oc9 hM (hG.1 0 (by decide)) rfl (by decide) rfl (hG.2 (0, 0, 100) (by decide)) (by decide) tb_398 dX9_mirror_123 ?_
                  refine lv_iload hx hb dX9_mirror_126 (lv_at hl 0 rfl) ?_
                  refine lv_iconst (v := (3)) hx hb dX9_mirror_128 (by decide) ?_
                  refine lv_iload hx hb dX9_mirror_129 (lv_at hl 5 rfl) ?_
                  refine m_callv (m_runV (100) (As := [.int (r20), .int (3), .int (a3)]) (rest := []) hx hb hml hown hts hE hM hS hA ce_X8_setMirror tb_503 (V_X8_setMirror_100_t l D A ad ns I23 L24 G (r20) (3) (a3) hG hI (by first | omega | decide) (by first | omega | decide)) rfl rfl ⟨Nat.le_of_ble_eq_true rfl, Nat.le_of_ble_eq_true rfl⟩ (hG.1 100 (by decide)) rfl rfl (by decide) rfl hl.1 rfl (Nat.le_of_ble_eq_true rfl) dX9_mirror_131 ⟨Nat.le_of_ble_eq_true rfl, Nat.le_of_ble_eq_true rfl⟩) hS (fun u H locs hw hM hS => ?_)
                  obtain ⟨I25, L26, rfl, hI, hkI25, xI25⟩ := hw
                  have hM : Mem D A ad ns I25 L26 G H := hM
                  have hK := hK.trans hkI25 rfl
                  refine lv_aload_n hx hb dX9_mirror_134 rfl (lv_at hl 1 rfl) ?_
                  refine m_getr (0) 0 (100) hx hb hts hown hE oc9 hM (hG.1 0 (by decide)) rfl (by decide) rfl (hG.2 (0, 0, 100) (by decide)) (by decide) tb_398 dX9_mirror_135 ?_
                  refine lv_iload hx hb dX9_mirror_138 (lv_at hl 0 rfl) ?_
                  refine lv_iconst (v := (4)) hx hb dX9_mirror_140 (by decide) ?_
                  refine lv_iload hx hb dX9_mirror_141 (lv_at hl 6 rfl) ?_
                  refine m_callv (m_runV (100) (As := [.int (r20), .int (4), .int (a4)]) (rest := []) hx hb hml hown hts hE hM hS hA ce_X8_setMirror tb_503 (V_X8_setMirror_100_t l D A ad ns I25 L26 G (r20) (4) (a4) hG hI (by first | omega | decide) (by first | omega | decide)) rfl rfl ⟨Nat.le_of_ble_eq_true rfl, Nat.le_of_ble_eq_true rfl⟩ (hG.1 100 (by decide)) rfl rfl (by decide) rfl hl.1 rfl (Nat.le_of_ble_eq_true rfl) dX9_mirror_143 ⟨Nat.le_of_ble_eq_true rfl, Nat.le_of_ble_eq_true rfl⟩) hS (fun u H locs hw hM hS => ?_)
                  obtain ⟨I27, L28, rfl, hI, hkI27, xI27⟩ := hw
                  have hM : Mem D A ad ns I27 L28 G H := hM
                  have hK := hK.trans hkI27 rfl
                  refine lv_aload_n hx hb dX9_mirror_146 rfl (lv_at hl 1 rfl) ?_
                  refine m_getr (0) 0 (100) hx hb hts hown hE oc9 hM (hG.1 0 (by decide)) rfl (by decide) rfl (hG.2 (0, 0, 100) (by decide)) (by decide) tb_398 dX9_mirror_147 ?_
                  refine lv_iload hx hb dX9_mirror_150 (lv_at hl 0 rfl) ?_
                  refine lv_iconst (v := (5)) hx hb dX9_mirror_152 (by decide) ?_
                  refine lv_iload hx hb dX9_mirror_153 (lv_at hl 7 rfl) ?_
                  refine m_callv (m_runV (100) (As := [.int (r20), .int (5), .int (a5)]) (rest := []) hx hb hml hown hts hE hM hS hA ce_X8_setMirror tb_503 (V_X8_setMirror_100_t l D A ad ns I27 L28 G (r20) (5) (a5) hG hI (by first | omega | decide) (by first | omega | decide)) rfl rfl ⟨Nat.le_of_ble_eq_true rfl, Nat.le_of_ble_eq_true rfl⟩ (hG.1 100 (by decide)) rfl rfl (by decide) rfl hl.1 rfl (Nat.le_of_ble_eq_true rfl) dX9_mirror_155 ⟨Nat.le_of_ble_eq_true rfl, Nat.le_of_ble_eq_true rfl⟩) hS (fun u H locs hw hM hS => ?_)
                  obtain ⟨I29, L30, rfl, hI, hkI29, xI29⟩ := hw
                  have hM : Mem D A ad ns I29 L30 G H := hM
                  have hK := hK.trans hkI29 rfl
                  refine lv_aload_n hx hb dX9_mirror_158 rfl (lv_at hl 1 rfl) ?_
                  refine m_getr (0) 0 (100) hx hb hts hown hE oc9 hM (hG.1 0 (by decide)) rfl (by decide) rfl (hG.2 (0, 0, 100) (by decide)) (by decide) tb_398 dX9_mirror_159 ?_
                  refine lv_iload hx hb dX9_mirror_162 (lv_at hl 0 rfl) ?_
                  refine lv_bipush (v := (6)) hx hb dX9_mirror_164 (by decide) ?_
                  refine lv_iload hx hb dX9_mirror_166 (lv_at hl 8 rfl) ?_
                  refine m_callv (m_runV (100) (As := [.int (r20), .int (6), .int (a6)]) (rest := []) hx hb hml hown hts hE hM hS hA ce_X8_setMirror tb_503 (V_X8_setMirror_100_t l D A ad ns I29 L30 G (r20) (6) (a6) hG hI (by first | omega | decide) (by first | omega | decide)) rfl rfl ⟨Nat.le_of_ble_eq_true rfl, Nat.le_of_ble_eq_true rfl⟩ (hG.1 100 (by decide)) rfl rfl (by decide) rfl hl.1 rfl (Nat.le_of_ble_eq_true rfl) dX9_mirror_168 ⟨Nat.le_of_ble_eq_true rfl, Nat.le_of_ble_eq_true rfl⟩) hS (fun u H locs hw hM hS => ?_)
                  obtain ⟨I31, L32, rfl, hI, hkI31, xI31⟩ := hw
                  have hM : Mem D A ad ns I31 L32 G H := hM
                  have hK := hK.trans hkI31 rfl
                  refine lv_iload hx hb dX9_mirror_171 (lv_at hl 0 rfl) ?_
                  exact m_iret hx hb hr hlocks hM hS (Nat.le_of_ble_eq_true rfl) (Nat.le_of_ble_eq_true rfl) ⟨_, _, rfl, hI, hK, (Or.inl ⟨by omega, xr20.1, by have hh := (((((xr20.2.st xI23).st xI25).st xI27).st xI29).st xI31); rw [xr20.1] at hh; exact hh.of (mirV_st (V := cF 100 I) rfl rfl)⟩)⟩ dX9_mirror_173
                · have hc19 := c19
                  have q19 := xr18.f hc19
                  refine lv_iconst (v := (-1)) hx hb dX9_mirror_98 (by decide) ?_
                  exact m_iret hx hb hr hlocks hM hS (Nat.le_of_ble_eq_true rfl) (Nat.le_of_ble_eq_true rfl) ⟨_, _, rfl, hI, hK, (Or.inr ⟨by omega, rfl, rfl⟩)⟩ dX9_mirror_99
      · have hc9 := c9
        have q9 := q_nlt hc9
        refine lv_iconst (v := (-1)) hx hb dX9_mirror_41 (by decide) ?_
        exact m_iret hx hb hr hlocks hM hS (Nat.le_of_ble_eq_true rfl) (Nat.le_of_ble_eq_true rfl) ⟨_, _, rfl, hI, hK, (Or.inr ⟨by omega, rfl, rfl⟩)⟩ dX9_mirror_42
set_option maxHeartbeats 4000000 in
set_option maxRecDepth 20000 in
theorem V_X9_sun_t (l : Launch) (D : va_G) (A : Nat → Prop) (ad : Nat → Nat) (ns : List Nat) (I : MI) (L : ML) (G : MG) (a0 : Int32) (a1 : Int32) (a2 : Int32) (a3 : Int32) (hG : SGC ns G) (hI : INV I) : Met l yX9_sun (wd yX9_sun cX9_sun 6 (some .boolean)) ({ frames := 1, cells := 0, slots := 0, locals := 22 }) (va_Pc [.ref (ad (0)), .int a0, .int a1, .int a2, .int a3] (PM D A ad ns I L G)) (va_Qi (fun r u => ∃ I2 L2, u = (ad, ns, I2, L2, G) ∧ INV I2 ∧ Kp [(105, 107)] [] I I2 ∧ (SNT (0 < (I 100 0).toInt ∧ okS a0 a1 a2 a3) r I I2 (stV (stV (cF 100 I) 4 (24 * (a0).toNatClampNeg + (a1).toNatClampNeg) a2) 5 (24 * (a0).toNatClampNeg + (a1).toNatClampNeg) a3) (cF 100 I2))) (BM D A) A) 0 0 A := by
  refine m_ofW (by decide) (Nat.le_of_ble_eq_true rfl) ?_
  intro p e s m below meth c ls args hC hE hM hA hS hl
  obtain ⟨hx, hb, hml, hown, hts, hr, hlocks, hin⟩ := hC
  have km1 : (-1 : Int32).toInt = -1 := by decide
  have k0 : (0 : Int32).toInt = 0 := by decide
  have k1 : (1 : Int32).toInt = 1 := by decide
  have k7 : (7 : Int32).toInt = 7 := by decide
  have k11 : (11 : Int32).toInt = 11 := by decide
  have k23 : (23 : Int32).toInt = 23 := by decide
  have k24 : (24 : Int32).toInt = 24 := by decide
  have k99999 : (99999 : Int32).toInt = 99999 := by decide
  have hK : Kp [(105, 107)] [] I I := Kp.rf
  have hl : lv_has ls 6 [(0, .ref (ad (0))), (1, .int (a0)), (2, .int (a1)), (3, .int (a2)), (4, .int (a3))] := hl
  refine lv_aload_n hx hb dX9_sun_0 rfl (lv_at hl 0 rfl) ?_
  refine m_getr (0) 0 (100) hx hb hts hown hE oc9 hM (hG.1 0 (by decide)) rfl (by decide) rfl (hG.2 (0, 0, 100) (by decide)) (by decide) tb_398 dX9_sun_1 ?_
  refine m_calli (m_runV (100) (As := []) (rest := []) hx hb hml hown hts hE hM hS hA ce_X8_isBegun tb_484 (V_X8_isBegun_100 l D A ad ns I L G hG hI) rfl rfl ⟨Nat.le_of_ble_eq_true rfl, Nat.le_of_ble_eq_true rfl⟩ (hG.1 100 (by decide)) rfl rfl (by decide) rfl hl.1 rfl (Nat.le_of_ble_eq_true rfl) dX9_sun_4 ⟨Nat.le_of_ble_eq_true rfl, Nat.le_of_ble_eq_true rfl⟩) hS (fun r1 u H locs hw hM hS => ?_)
  obtain ⟨rfl, xr1⟩ := hw
  have hM : Mem D A ad ns I L G H := hM
  have yr1 := bo01 xr1
  refine lv_if_eq (tgt := 30) hx hb dX9_sun_7 (by decide) (fun c2 => ?_) (fun c2 => ?_)
  · have hc2 := c2
    have q2 := xr1.f hc2
    refine lv_iconst (v := (0)) hx hb dX9_sun_30 (by decide) ?_
    exact m_zret hx hb hr rfl hlocks hM hS (Nat.le_of_ble_eq_true rfl) (Nat.le_of_ble_eq_true rfl) ⟨_, _, rfl, hI, hK, (Or.inr ⟨by unfold okS; omega, rfl, rfl⟩)⟩ dX9_sun_31
  · have hc2 := c2
    have q2 := xr1.t hc2
    refine lv_iload_n hx hb dX9_sun_10 rfl (lv_at hl 1 rfl) ?_
    refine lv_iconst (v := (0)) hx hb dX9_sun_11 (by decide) ?_
    refine lv_bipush (v := (11)) hx hb dX9_sun_12 (by decide) ?_
    refine m_calli (m_runS (As := [.int (a0), .int (0), .int (11)]) (rest := []) hx hb hml hown hts hE hM hS hA ce_X9_isWithin tb_451 (V_X9_isWithin l D A ad ns I L G (a0) (0) (11) hI) rfl rfl ⟨Nat.le_of_ble_eq_true rfl, Nat.le_of_ble_eq_true rfl⟩  rfl hl.1 rfl (Nat.le_of_ble_eq_true rfl) dX9_sun_14 ⟨Nat.le_of_ble_eq_true rfl, Nat.le_of_ble_eq_true rfl⟩) hS (fun r3 u H locs hw hM hS => ?_)
    obtain ⟨rfl, xr3⟩ := hw
    have hM : Mem D A ad ns I L G H := hM
    have yr3 := bo01 xr3
    refine lv_if_eq (tgt := 30) hx hb dX9_sun_17 (by decide) (fun c4 => ?_) (fun c4 => ?_)
    · have hc4 := c4
      have q4 := xr3.f hc4
      refine lv_iconst (v := (0)) hx hb dX9_sun_30 (by decide) ?_
      exact m_zret hx hb hr rfl hlocks hM hS (Nat.le_of_ble_eq_true rfl) (Nat.le_of_ble_eq_true rfl) ⟨_, _, rfl, hI, hK, (Or.inr ⟨by unfold okS; omega, rfl, rfl⟩)⟩ dX9_sun_31
    · have hc4 := c4
      have q4 := xr3.t hc4
      refine lv_iload_n hx hb dX9_sun_20 rfl (lv_at hl 2 rfl) ?_
      refine lv_iconst (v := (0)) hx hb dX9_sun_21 (by decide) ?_
      refine lv_bipush (v := (23)) hx hb dX9_sun_22 (by decide) ?_
      refine m_calli (m_runS (As := [.int (a1), .int (0), .int (23)]) (rest := []) hx hb hml hown hts hE hM hS hA ce_X9_isWithin tb_451 (V_X9_isWithin l D A ad ns I L G (a1) (0) (23) hI) rfl rfl ⟨Nat.le_of_ble_eq_true rfl, Nat.le_of_ble_eq_true rfl⟩  rfl hl.1 rfl (Nat.le_of_ble_eq_true rfl) dX9_sun_24 ⟨Nat.le_of_ble_eq_true rfl, Nat.le_of_ble_eq_true rfl⟩) hS (fun r5 u H locs hw hM hS => ?_)
      obtain ⟨rfl, xr5⟩ := hw
      have hM : Mem D A ad ns I L G H := hM
      have yr5 := bo01 xr5
      refine lv_if_ne (tgt := 32) hx hb dX9_sun_27 (by decide) (fun c6 => ?_) (fun c6 => ?_)
      · have hc6 := c6
        have q6 := xr5.t hc6
        refine lv_iload_n hx hb dX9_sun_32 rfl (lv_at hl 3 rfl) ?_
        refine lv_iconst (v := (-1)) hx hb dX9_sun_33 (by decide) ?_
        refine lv_icmp_ne (tgt := 46) hx hb dX9_sun_34 (by decide) (fun c7 => ?_) (fun c7 => ?_)
        · have hc7 := c7
          have q7 := q_ne hc7
          refine lv_iconst (v := (0)) hx hb dX9_sun_46 (by decide) ?_
          refine lv_istore (lv' := [(5, .int (0)), (0, .ref (ad (0))), (1, .int (a0)), (2, .int (a1)), (3, .int (a2)), (4, .int (a3))]) hx hb dX9_sun_47 hl (by decide) rfl (fun ls hl => ?_)
          refine lv_iload hx hb dX9_sun_49 (lv_at hl 0 rfl) ?_
          refine lv_if_ne (tgt := 77) hx hb dX9_sun_51 (by decide) (fun c8 => ?_) (fun c8 => ?_)
          · exact absurd c8 (by decide)
          · have hc8 := c8
            have q8 := q_eq hc8
            refine lv_iload_n hx hb dX9_sun_54 rfl (lv_at hl 4 rfl) ?_
            refine lv_iconst (v := (0)) hx hb dX9_sun_55 (by decide) ?_
            refine lv_bipush (v := (7)) hx hb dX9_sun_56 (by decide) ?_
            refine m_calli (m_runS (As := [.int (a2), .int (0), .int (7)]) (rest := []) hx hb hml hown hts hE hM hS hA ce_X9_isWithin tb_451 (V_X9_isWithin l D A ad ns I L G (a2) (0) (7) hI) rfl rfl ⟨Nat.le_of_ble_eq_true rfl, Nat.le_of_ble_eq_true rfl⟩  rfl hl.1 rfl (Nat.le_of_ble_eq_true rfl) dX9_sun_58 ⟨Nat.le_of_ble_eq_true rfl, Nat.le_of_ble_eq_true rfl⟩) hS (fun r9 u H locs hw hM hS => ?_)
            obtain ⟨rfl, xr9⟩ := hw
            have hM : Mem D A ad ns I L G H := hM
            have yr9 := bo01 xr9
            refine lv_if_eq (tgt := 75) hx hb dX9_sun_61 (by decide) (fun c10 => ?_) (fun c10 => ?_)
            · have hc10 := c10
              have q10 := xr9.f hc10
              refine lv_iconst (v := (0)) hx hb dX9_sun_75 (by decide) ?_
              exact m_zret hx hb hr rfl hlocks hM hS (Nat.le_of_ble_eq_true rfl) (Nat.le_of_ble_eq_true rfl) ⟨_, _, rfl, hI, hK, (Or.inr ⟨by unfold okS; omega, rfl, rfl⟩)⟩ dX9_sun_76
            · have hc10 := c10
              have q10 := xr9.t hc10
              refine lv_iload hx hb dX9_sun_64 (lv_at hl 5 rfl) ?_
              refine lv_iconst (v := (0)) hx hb dX9_sun_66 (by decide) ?_
              refine lv_ldc (v := (99999)) hx hb hown (hts _ tb_488) dX9_sun_67 ?_
              refine m_calli (m_runS (As := [.int (a3), .int (0), .int (99999)]) (rest := []) hx hb hml hown hts hE hM hS hA ce_X9_isWithin tb_451 (V_X9_isWithin l D A ad ns I L G (a3) (0) (99999) hI) rfl rfl ⟨Nat.le_of_ble_eq_true rfl, Nat.le_of_ble_eq_true rfl⟩  rfl hl.1 rfl (Nat.le_of_ble_eq_true rfl) dX9_sun_69 ⟨Nat.le_of_ble_eq_true rfl, Nat.le_of_ble_eq_true rfl⟩) hS (fun r11 u H locs hw hM hS => ?_)
              obtain ⟨rfl, xr11⟩ := hw
              have hM : Mem D A ad ns I L G H := hM
              have yr11 := bo01 xr11
              refine lv_if_ne (tgt := 77) hx hb dX9_sun_72 (by decide) (fun c12 => ?_) (fun c12 => ?_)
              · have hc12 := c12
                have q12 := xr11.t hc12
                refine lv_aload_n hx hb dX9_sun_77 rfl (lv_at hl 1 rfl) ?_
                refine m_getr (0) 0 (100) hx hb hts hown hE oc9 hM (hG.1 0 (by decide)) rfl (by decide) rfl (hG.2 (0, 0, 100) (by decide)) (by decide) tb_398 dX9_sun_78 ?_
                refine m_getr (100) 14 (105) hx hb hts hown hE oc8 hM (hG.1 100 (by decide)) rfl (by decide) rfl (hG.2 (100, 14, 105) (by decide)) (by decide) tb_79 dX9_sun_81 ?_
                refine lv_iload_n hx hb dX9_sun_84 rfl (lv_at hl 2 rfl) ?_
                refine lv_bipush (v := (24)) hx hb dX9_sun_85 (by decide) ?_
                refine lv_imul hx hb dX9_sun_87 ?_
                refine lv_topi (fun v13 ev13 => ?_)
                have tv13 := a_mulR (c := 24) ev13 (by decide) (by omega) (by omega)
                refine lv_iload_n hx hb dX9_sun_88 rfl (lv_at hl 3 rfl) ?_
                refine lv_iadd hx hb dX9_sun_89 ?_
                refine lv_topi (fun v14 ev14 => ?_)
                have tv14 := a_add ev14 (by omega) (by omega)
                refine lv_iload_n hx hb dX9_sun_90 rfl (lv_at hl 4 rfl) ?_
                refine m_iast (105) hx hb hE hM hS (hG.1 105 (by decide)) rfl (vp_in_iff.mpr (by omega)) dX9_sun_91 (fun H locs I15 eI15 hM hS => ?_)
                subst eI15
                have hI := hI.put (n := 105) (k := ((v14).toNatClampNeg)) (v := a2) (lo := -1) (hi := 7) rfl (by first | omega | decide)
                have hK := hK.put (n := 105) (k := ((v14).toNatClampNeg)) (v := a2) (by first | rfl | simp [inR])
                refine lv_aload_n hx hb dX9_sun_92 rfl (lv_at hl 1 rfl) ?_
                refine m_getr (0) 0 (100) hx hb hts hown hE oc9 hM (hG.1 0 (by decide)) rfl (by decide) rfl (hG.2 (0, 0, 100) (by decide)) (by decide) tb_398 dX9_sun_93 ?_
                refine m_getr (100) 15 (106) hx hb hts hown hE oc8 hM (hG.1 100 (by decide)) rfl (by decide) rfl (hG.2 (100, 15, 106) (by decide)) (by decide) tb_81 dX9_sun_96 ?_
                refine lv_iload_n hx hb dX9_sun_99 rfl (lv_at hl 2 rfl) ?_
                refine lv_bipush (v := (24)) hx hb dX9_sun_100 (by decide) ?_
                refine lv_imul hx hb dX9_sun_102 ?_
                refine lv_topi (fun v16 ev16 => ?_)
                have tv16 := a_mulR (c := 24) ev16 (by decide) (by omega) (by omega)
                refine lv_iload_n hx hb dX9_sun_103 rfl (lv_at hl 3 rfl) ?_
                refine lv_iadd hx hb dX9_sun_104 ?_
                refine lv_topi (fun v17 ev17 => ?_)
                have tv17 := a_add ev17 (by omega) (by omega)
                refine lv_iload hx hb dX9_sun_105 (lv_at hl 5 rfl) ?_
                refine m_iast (106) hx hb hE hM hS (hG.1 106 (by decide)) rfl (vp_in_iff.mpr (by omega)) dX9_sun_107 (fun H locs I18 eI18 hM hS => ?_)
                subst eI18
                have hI := hI.putF (n := 106) (k := ((v17).toNatClampNeg)) (v := a3) rfl
                have hK := hK.put (n := 106) (k := ((v17).toNatClampNeg)) (v := a3) (by first | rfl | simp [inR])
                refine lv_iconst (v := (1)) hx hb dX9_sun_108 (by decide) ?_
                have ec19 : (v14).toNatClampNeg = (24 * (a0).toNatClampNeg + (a1).toNatClampNeg) := by have z1 := tn (i := a0) (by omega); have z2 := tn (i := a1) (by omega); have z0 := tn (i := v14) (by omega); omega
                have ec20 : (v17).toNatClampNeg = (24 * (a0).toNatClampNeg + (a1).toNatClampNeg) := by have z1 := tn (i := a0) (by omega); have z2 := tn (i := a1) (by omega); have z0 := tn (i := v17) (by omega); omega
                have hsi : (24 * (a0).toNatClampNeg + (a1).toNatClampNeg) < 288 := by have z1 := tn (i := a0) (by omega); have z2 := tn (i := a1) (by omega); omega
                exact m_zret hx hb hr rfl hlocks hM hS (Nat.le_of_ble_eq_true rfl) (Nat.le_of_ble_eq_true rfl) ⟨_, _, rfl, hI, hK, (Or.inl ⟨by unfold okS; omega, rfl, by rw [ec19, ec20]; exact (cF_at (b := 100) (n := 4) (by decide) hsi).st (cF_at (b := 100) (n := 5) (by decide) hsi)⟩)⟩ dX9_sun_109
              · have hc12 := c12
                have q12 := xr11.f hc12
                refine lv_iconst (v := (0)) hx hb dX9_sun_75 (by decide) ?_
                exact m_zret hx hb hr rfl hlocks hM hS (Nat.le_of_ble_eq_true rfl) (Nat.le_of_ble_eq_true rfl) ⟨_, _, rfl, hI, hK, (Or.inr ⟨by unfold okS; omega, rfl, rfl⟩)⟩ dX9_sun_76
        · have hc7 := c7
          have q7 := q_eq hc7
          refine lv_iload hx hb dX9_sun_37 (lv_at hl 4 rfl) ?_
          refine lv_if_ne (tgt := 46) hx hb dX9_sun_39 (by decide) (fun c21 => ?_) (fun c21 => ?_)
          · have hc21 := c21
            have q21 := q_ne hc21
            refine lv_iconst (v := (0)) hx hb dX9_sun_46 (by decide) ?_
            refine lv_istore (lv' := [(5, .int (0)), (0, .ref (ad (0))), (1, .int (a0)), (2, .int (a1)), (3, .int (a2)), (4, .int (a3))]) hx hb dX9_sun_47 hl (by decide) rfl (fun ls hl => ?_)
            refine lv_iload hx hb dX9_sun_49 (lv_at hl 0 rfl) ?_
            refine lv_if_ne (tgt := 77) hx hb dX9_sun_51 (by decide) (fun c22 => ?_) (fun c22 => ?_)
            · exact absurd c22 (by decide)
            · have hc22 := c22
              have q22 := q_eq hc22
              refine lv_iload_n hx hb dX9_sun_54 rfl (lv_at hl 4 rfl) ?_
              refine lv_iconst (v := (0)) hx hb dX9_sun_55 (by decide) ?_
              refine lv_bipush (v := (7)) hx hb dX9_sun_56 (by decide) ?_
              refine m_calli (m_runS (As := [.int (a2), .int (0), .int (7)]) (rest := []) hx hb hml hown hts hE hM hS hA ce_X9_isWithin tb_451 (V_X9_isWithin l D A ad ns I L G (a2) (0) (7) hI) rfl rfl ⟨Nat.le_of_ble_eq_true rfl, Nat.le_of_ble_eq_true rfl⟩  rfl hl.1 rfl (Nat.le_of_ble_eq_true rfl) dX9_sun_58 ⟨Nat.le_of_ble_eq_true rfl, Nat.le_of_ble_eq_true rfl⟩) hS (fun r23 u H locs hw hM hS => ?_)
              obtain ⟨rfl, xr23⟩ := hw
              have hM : Mem D A ad ns I L G H := hM
              have yr23 := bo01 xr23
              refine lv_if_eq (tgt := 75) hx hb dX9_sun_61 (by decide) (fun c24 => ?_) (fun c24 => ?_)
              · have hc24 := c24
                have q24 := xr23.f hc24
                refine lv_iconst (v := (0)) hx hb dX9_sun_75 (by decide) ?_
                exact m_zret hx hb hr rfl hlocks hM hS (Nat.le_of_ble_eq_true rfl) (Nat.le_of_ble_eq_true rfl) ⟨_, _, rfl, hI, hK, (Or.inr ⟨by unfold okS; omega, rfl, rfl⟩)⟩ dX9_sun_76
              · have hc24 := c24
                have q24 := xr23.t hc24
                refine lv_iload hx hb dX9_sun_64 (lv_at hl 5 rfl) ?_
                refine lv_iconst (v := (0)) hx hb dX9_sun_66 (by decide) ?_
                refine lv_ldc (v := (99999)) hx hb hown (hts _ tb_488) dX9_sun_67 ?_
                refine m_calli (m_runS (As := [.int (a3), .int (0), .int (99999)]) (rest := []) hx hb hml hown hts hE hM hS hA ce_X9_isWithin tb_451 (V_X9_isWithin l D A ad ns I L G (a3) (0) (99999) hI) rfl rfl ⟨Nat.le_of_ble_eq_true rfl, Nat.le_of_ble_eq_true rfl⟩  rfl hl.1 rfl (Nat.le_of_ble_eq_true rfl) dX9_sun_69 ⟨Nat.le_of_ble_eq_true rfl, Nat.le_of_ble_eq_true rfl⟩) hS (fun r25 u H locs hw hM hS => ?_)
                obtain ⟨rfl, xr25⟩ := hw
                have hM : Mem D A ad ns I L G H := hM
                have yr25 := bo01 xr25
                refine lv_if_ne (tgt := 77) hx hb dX9_sun_72 (by decide) (fun c26 => ?_) (fun c26 => ?_)
                · have hc26 := c26
                  have q26 := xr25.t hc26
                  refine lv_aload_n hx hb dX9_sun_77 rfl (lv_at hl 1 rfl) ?_
                  refine m_getr (0) 0 (100) hx hb hts hown hE oc9 hM (hG.1 0 (by decide)) rfl (by decide) rfl (hG.2 (0, 0, 100) (by decide)) (by decide) tb_398 dX9_sun_78 ?_
                  refine m_getr (100) 14 (105) hx hb hts hown hE oc8 hM (hG.1 100 (by decide)) rfl (by decide) rfl (hG.2 (100, 14, 105) (by decide)) (by decide) tb_79 dX9_sun_81 ?_
                  refine lv_iload_n hx hb dX9_sun_84 rfl (lv_at hl 2 rfl) ?_
                  refine lv_bipush (v := (24)) hx hb dX9_sun_85 (by decide) ?_
                  refine lv_imul hx hb dX9_sun_87 ?_
                  refine lv_topi (fun v27 ev27 => ?_)
                  have tv27 := a_mulR (c := 24) ev27 (by decide) (by omega) (by omega)
                  refine lv_iload_n hx hb dX9_sun_88 rfl (lv_at hl 3 rfl) ?_
                  refine lv_iadd hx hb dX9_sun_89 ?_
                  refine lv_topi (fun v28 ev28 => ?_)
                  have tv28 := a_add ev28 (by omega) (by omega)
                  refine lv_iload_n hx hb dX9_sun_90 rfl (lv_at hl 4 rfl) ?_
                  refine m_iast (105) hx hb hE hM hS (hG.1 105 (by decide)) rfl (vp_in_iff.mpr (by omega)) dX9_sun_91 (fun H locs I29 eI29 hM hS => ?_)
                  subst eI29
                  have hI := hI.put (n := 105) (k := ((v28).toNatClampNeg)) (v := a2) (lo := -1) (hi := 7) rfl (by first | omega | decide)
                  have hK := hK.put (n := 105) (k := ((v28).toNatClampNeg)) (v := a2) (by first | rfl | simp [inR])
                  refine lv_aload_n hx hb dX9_sun_92 rfl (lv_at hl 1 rfl) ?_
                  refine m_getr (0) 0 (100) hx hb hts hown hE oc9 hM (hG.1 0 (by decide)) rfl (by decide) rfl (hG.2 (0, 0, 100) (by decide)) (by decide) tb_398 dX9_sun_93 ?_
                  refine m_getr (100) 15 (106) hx hb hts hown hE oc8 hM (hG.1 100 (by decide)) rfl (by decide) rfl (hG.2 (100, 15, 106) (by decide)) (by decide) tb_81 dX9_sun_96 ?_
                  refine lv_iload_n hx hb dX9_sun_99 rfl (lv_at hl 2 rfl) ?_
                  refine lv_bipush (v := (24)) hx hb dX9_sun_100 (by decide) ?_
                  refine lv_imul hx hb dX9_sun_102 ?_
                  refine lv_topi (fun v30 ev30 => ?_)
                  have tv30 := a_mulR (c := 24) ev30 (by decide) (by omega) (by omega)
                  refine lv_iload_n hx hb dX9_sun_103 rfl (lv_at hl 3 rfl) ?_
                  refine lv_iadd hx hb dX9_sun_104 ?_
                  refine lv_topi (fun v31 ev31 => ?_)
                  have tv31 := a_add ev31 (by omega) (by omega)
                  refine lv_iload hx hb dX9_sun_105 (lv_at hl 5 rfl) ?_
                  refine m_iast (106) hx hb hE hM hS (hG.1 106 (by decide)) rfl (vp_in_iff.mpr (by omega)) dX9_sun_107 (fun H locs I32 eI32 hM hS => ?_)
                  subst eI32
                  have hI := hI.putF (n := 106) (k := ((v31).toNatClampNeg)) (v := a3) rfl
                  have hK := hK.put (n := 106) (k := ((v31).toNatClampNeg)) (v := a3) (by first | rfl | simp [inR])
                  refine lv_iconst (v := (1)) hx hb dX9_sun_108 (by decide) ?_
                  have ec33 : (v28).toNatClampNeg = (24 * (a0).toNatClampNeg + (a1).toNatClampNeg) := by have z1 := tn (i := a0) (by omega); have z2 := tn (i := a1) (by omega); have z0 := tn (i := v28) (by omega); omega
                  have ec34 : (v31).toNatClampNeg = (24 * (a0).toNatClampNeg + (a1).toNatClampNeg) := by have z1 := tn (i := a0) (by omega); have z2 := tn (i := a1) (by omega); have z0 := tn (i := v31) (by omega); omega
                  have hsi : (24 * (a0).toNatClampNeg + (a1).toNatClampNeg) < 288 := by have z1 := tn (i := a0) (by omega); have z2 := tn (i := a1) (by omega); omega
                  exact m_zret hx hb hr rfl hlocks hM hS (Nat.le_of_ble_eq_true rfl) (Nat.le_of_ble_eq_true rfl) ⟨_, _, rfl, hI, hK, (Or.inl ⟨by unfold okS; omega, rfl, by rw [ec33, ec34]; exact (cF_at (b := 100) (n := 4) (by decide) hsi).st (cF_at (b := 100) (n := 5) (by decide) hsi)⟩)⟩ dX9_sun_109
                · have hc26 := c26
                  have q26 := xr25.f hc26
                  refine lv_iconst (v := (0)) hx hb dX9_sun_75 (by decide) ?_
                  exact m_zret hx hb hr rfl hlocks hM hS (Nat.le_of_ble_eq_true rfl) (Nat.le_of_ble_eq_true rfl) ⟨_, _, rfl, hI, hK, (Or.inr ⟨by unfold okS; omega, rfl, rfl⟩)⟩ dX9_sun_76
          · have hc21 := c21
            have q21 := q_eq hc21
            refine lv_iconst (v := (1)) hx hb dX9_sun_42 (by decide) ?_
            refine lv_goto (tgt := 47) hx hb dX9_sun_43 (by decide) ?_
            refine lv_istore (lv' := [(5, .int (1)), (0, .ref (ad (0))), (1, .int (a0)), (2, .int (a1)), (3, .int (a2)), (4, .int (a3))]) hx hb dX9_sun_47 hl (by decide) rfl (fun ls hl => ?_)
            refine lv_iload hx hb dX9_sun_49 (lv_at hl 0 rfl) ?_
            refine lv_if_ne (tgt := 77) hx hb dX9_sun_51 (by decide) (fun c35 => ?_) (fun c35 => ?_)
            · have hc35 := c35
              have q35 := q_ne hc35
              refine lv_aload_n hx hb dX9_sun_77 rfl (lv_at hl 1 rfl) ?_
              refine m_getr (0) 0 (100) hx hb hts hown hE oc9 hM (hG.1 0 (by decide)) rfl (by decide) rfl (hG.2 (0, 0, 100) (by decide)) (by decide) tb_398 dX9_sun_78 ?_
              refine m_getr (100) 14 (105) hx hb hts hown hE oc8 hM (hG.1 100 (by decide)) rfl (by decide) rfl (hG.2 (100, 14, 105) (by decide)) (by decide) tb_79 dX9_sun_81 ?_
              refine lv_iload_n hx hb dX9_sun_84 rfl (lv_at hl 2 rfl) ?_
              refine lv_bipush (v := (24)) hx hb dX9_sun_85 (by decide) ?_
              refine lv_imul hx hb dX9_sun_87 ?_
              refine lv_topi (fun v36 ev36 => ?_)
              have tv36 := a_mulR (c := 24) ev36 (by decide) (by omega) (by omega)
              refine lv_iload_n hx hb dX9_sun_88 rfl (lv_at hl 3 rfl) ?_
              refine lv_iadd hx hb dX9_sun_89 ?_
              refine lv_topi (fun v37 ev37 => ?_)
              have tv37 := a_add ev37 (by omega) (by omega)
              refine lv_iload_n hx hb dX9_sun_90 rfl (lv_at hl 4 rfl) ?_
              refine m_iast (105) hx hb hE hM hS (hG.1 105 (by decide)) rfl (vp_in_iff.mpr (by omega)) dX9_sun_91 (fun H locs I38 eI38 hM hS => ?_)
              subst eI38
              have hI := hI.put (n := 105) (k := ((v37).toNatClampNeg)) (v := a2) (lo := -1) (hi := 7) rfl (by first | omega | decide)
              have hK := hK.put (n := 105) (k := ((v37).toNatClampNeg)) (v := a2) (by first | rfl | simp [inR])
              refine lv_aload_n hx hb dX9_sun_92 rfl (lv_at hl 1 rfl) ?_
              refine m_getr (0) 0 (100) hx hb hts hown hE oc9 hM (hG.1 0 (by decide)) rfl (by decide) rfl (hG.2 (0, 0, 100) (by decide)) (by decide) tb_398 dX9_sun_93 ?_
              refine m_getr (100) 15 (106) hx hb hts hown hE oc8 hM (hG.1 100 (by decide)) rfl (by decide) rfl (hG.2 (100, 15, 106) (by decide)) (by decide) tb_81 dX9_sun_96 ?_
              refine lv_iload_n hx hb dX9_sun_99 rfl (lv_at hl 2 rfl) ?_
              refine lv_bipush (v := (24)) hx hb dX9_sun_100 (by decide) ?_
              refine lv_imul hx hb dX9_sun_102 ?_
              refine lv_topi (fun v39 ev39 => ?_)
              have tv39 := a_mulR (c := 24) ev39 (by decide) (by omega) (by omega)
              refine lv_iload_n hx hb dX9_sun_103 rfl (lv_at hl 3 rfl) ?_
              refine lv_iadd hx hb dX9_sun_104 ?_
              refine lv_topi (fun v40 ev40 => ?_)
              have tv40 := a_add ev40 (by omega) (by omega)
              refine lv_iload hx hb dX9_sun_105 (lv_at hl 5 rfl) ?_
              refine m_iast (106) hx hb hE hM hS (hG.1 106 (by decide)) rfl (vp_in_iff.mpr (by omega)) dX9_sun_107 (fun H locs I41 eI41 hM hS => ?_)
              subst eI41
              have hI := hI.putF (n := 106) (k := ((v40).toNatClampNeg)) (v := a3) rfl
              have hK := hK.put (n := 106) (k := ((v40).toNatClampNeg)) (v := a3) (by first | rfl | simp [inR])
              refine lv_iconst (v := (1)) hx hb dX9_sun_108 (by decide) ?_
              have ec42 : (v37).toNatClampNeg = (24 * (a0).toNatClampNeg + (a1).toNatClampNeg) := by have z1 := tn (i := a0) (by omega); have z2 := tn (i := a1) (by omega); have z0 := tn (i := v37) (by omega); omega
              have ec43 : (v40).toNatClampNeg = (24 * (a0).toNatClampNeg + (a1).toNatClampNeg) := by have z1 := tn (i := a0) (by omega); have z2 := tn (i := a1) (by omega); have z0 := tn (i := v40) (by omega); omega
              have hsi : (24 * (a0).toNatClampNeg + (a1).toNatClampNeg) < 288 := by have z1 := tn (i := a0) (by omega); have z2 := tn (i := a1) (by omega); omega
              exact m_zret hx hb hr rfl hlocks hM hS (Nat.le_of_ble_eq_true rfl) (Nat.le_of_ble_eq_true rfl) ⟨_, _, rfl, hI, hK, (Or.inl ⟨by unfold okS; omega, rfl, by rw [ec42, ec43]; exact (cF_at (b := 100) (n := 4) (by decide) hsi).st (cF_at (b := 100) (n := 5) (by decide) hsi)⟩)⟩ dX9_sun_109
            · exact absurd c35 (by decide)
      · have hc6 := c6
        have q6 := xr5.f hc6
        refine lv_iconst (v := (0)) hx hb dX9_sun_30 (by decide) ?_
        exact m_zret hx hb hr rfl hlocks hM hS (Nat.le_of_ble_eq_true rfl) (Nat.le_of_ble_eq_true rfl) ⟨_, _, rfl, hI, hK, (Or.inr ⟨by unfold okS; omega, rfl, rfl⟩)⟩ dX9_sun_31
set_option maxHeartbeats 4000000 in
set_option maxRecDepth 20000 in
theorem V_X8_ofMirror_100_t (l : Launch) (D : va_G) (A : Nat → Prop) (ad : Nat → Nat) (ns : List Nat) (I : MI) (L : ML) (G : MG) (a0 : Int32) (a1 : Int32) (hG : SGC ns G) (hI : INV I) (ha0 : 0 ≤ a0.toInt ∧ a0.toInt ≤ 23) (ha1 : 0 ≤ a1.toInt ∧ a1.toInt ≤ 9) : Met l yX8_ofMirror (wd yX8_ofMirror cX8_ofMirror 3 (some .int)) ({ frames := 0, cells := 0, slots := 0, locals := 0 }) (va_Pc [.ref (ad (100)), .int a0, .int a1] (PM D A ad ns I L G)) (va_Qi (fun r u => u = (ad, ns, I, L, G) ∧ (r = I 107 (24 * (a1).toNatClampNeg + (a0).toNatClampNeg))) (BM D A) A) 0 0 A := by
  refine m_ofW (by decide) (Nat.le_of_ble_eq_true rfl) ?_
  intro p e s m below meth c ls args hC hE hM hA hS hl
  obtain ⟨hx, hb, hml, hown, hts, hr, hlocks, hin⟩ := hC
  have k0 : (0 : Int32).toInt = 0 := by decide
  have k24 : (24 : Int32).toInt = 24 := by decide
  have hl : lv_has ls 3 [(0, .ref (ad (100))), (1, .int (a0)), (2, .int (a1))] := hl
  refine lv_aload_n hx hb dX8_ofMirror_0 rfl (lv_at hl 0 rfl) ?_
  refine m_getr (100) 16 (107) hx hb hts hown hE oc8 hM (hG.1 100 (by decide)) rfl (by decide) rfl (hG.2 (100, 16, 107) (by decide)) (by decide) tb_82 dX8_ofMirror_1 ?_
  refine lv_iload_n hx hb dX8_ofMirror_4 rfl (lv_at hl 2 rfl) ?_
  refine lv_bipush (v := (24)) hx hb dX8_ofMirror_5 (by decide) ?_
  refine lv_imul hx hb dX8_ofMirror_7 ?_
  refine lv_topi (fun v1 ev1 => ?_)
  have tv1 := a_mulR (c := 24) ev1 (by decide) (by omega) (by omega)
  refine lv_iload_n hx hb dX8_ofMirror_8 rfl (lv_at hl 1 rfl) ?_
  refine lv_iadd hx hb dX8_ofMirror_9 ?_
  refine lv_topi (fun v2 ev2 => ?_)
  have tv2 := a_add ev2 (by omega) (by omega)
  refine m_iald (107) hx hb hE hM (hG.1 107 (by decide)) rfl (vp_in_iff.mpr (by omega)) dX8_ofMirror_10 ?_
  have ec3 : (v2).toNatClampNeg = 24 * (a1).toNatClampNeg + (a0).toNatClampNeg := by have z1 := tn (i := a0) (by omega); have z2 := tn (i := a1) (by omega); have z0 := tn (i := v2) (by omega); omega
  exact m_iret hx hb hr hlocks hM hS (Nat.le_of_ble_eq_true rfl) (Nat.le_of_ble_eq_true rfl) ⟨rfl, (by rw [← ec3])⟩ dX8_ofMirror_11
set_option maxHeartbeats 4000000 in
set_option maxRecDepth 20000 in
theorem V_X9_changeMirror_t (l : Launch) (D : va_G) (A : Nat → Prop) (ad : Nat → Nat) (ns : List Nat) (I : MI) (L : ML) (G : MG) (a0 : Int32) (a1 : Int32) (a2 : Int32) (a3 : Int32) (hG : SGC ns G) (hI : INV I) (ha0 : 0 ≤ a0.toInt ∧ a0.toInt ≤ 23) (ha1 : 0 ≤ a1.toInt ∧ a1.toInt ≤ 9) (ha3 : 0 ≤ a3.toInt ∧ a3.toInt ≤ 1) : Met l yX9_changeMirror (wd yX9_changeMirror cX9_changeMirror 6 (some .int)) ({ frames := 1, cells := 0, slots := 0, locals := 23 }) (va_Pc [.ref (ad (0)), .int a0, .int a1, .int a2, .int a3] (PM D A ad ns I L G)) (va_Qi (fun r u => ∃ I2 L2, u = (ad, ns, I2, L2, G) ∧ INV I2 ∧ Kp [(107, 108)] [] I I2 ∧ (SET (a3.toInt ≠ 0) r (I 107 (24 * (a1).toNatClampNeg + (a0).toNatClampNeg)) I I2 (stV (cF 100 I) (7 + (a1).toNatClampNeg) (a0).toNatClampNeg a2) (cF 100 I2))) (BM D A) A) 0 0 A := by
  refine m_ofW (by decide) (Nat.le_of_ble_eq_true rfl) ?_
  intro p e s m below meth c ls args hC hE hM hA hS hl
  obtain ⟨hx, hb, hml, hown, hts, hr, hlocks, hin⟩ := hC
  have km2 : (-2 : Int32).toInt = -2 := by decide
  have k0 : (0 : Int32).toInt = 0 := by decide
  have hK : Kp [(107, 108)] [] I I := Kp.rf
  have hl : lv_has ls 6 [(0, .ref (ad (0))), (1, .int (a0)), (2, .int (a1)), (3, .int (a2)), (4, .int (a3))] := hl
  refine lv_iload hx hb dX9_changeMirror_0 (lv_at hl 4 rfl) ?_
  refine lv_if_ne (tgt := 8) hx hb dX9_changeMirror_2 (by decide) (fun c1 => ?_) (fun c1 => ?_)
  · have hc1 := c1
    have q1 := q_ne hc1
    refine lv_aload_n hx hb dX9_changeMirror_8 rfl (lv_at hl 0 rfl) ?_
    refine m_getr (0) 0 (100) hx hb hts hown hE oc9 hM (hG.1 0 (by decide)) rfl (by decide) rfl (hG.2 (0, 0, 100) (by decide)) (by decide) tb_398 dX9_changeMirror_9 ?_
    refine lv_iload_n hx hb dX9_changeMirror_12 rfl (lv_at hl 1 rfl) ?_
    refine lv_iload_n hx hb dX9_changeMirror_13 rfl (lv_at hl 2 rfl) ?_
    refine m_calli (m_runV (100) (As := [.int (a0), .int (a1)]) (rest := []) hx hb hml hown hts hE hM hS hA ce_X8_ofMirror tb_516 (V_X8_ofMirror_100_t l D A ad ns I L G (a0) (a1) hG hI (by first | omega | decide) (by first | omega | decide)) rfl rfl ⟨Nat.le_of_ble_eq_true rfl, Nat.le_of_ble_eq_true rfl⟩ (hG.1 100 (by decide)) rfl rfl (by decide) rfl hl.1 rfl (Nat.le_of_ble_eq_true rfl) dX9_changeMirror_14 ⟨Nat.le_of_ble_eq_true rfl, Nat.le_of_ble_eq_true rfl⟩) hS (fun r2 u H locs hw hM hS => ?_)
    obtain ⟨rfl, xr2⟩ := hw
    have hM : Mem D A ad ns I L G H := hM
    refine lv_istore (lv' := [(5, .int (r2)), (0, .ref (ad (0))), (1, .int (a0)), (2, .int (a1)), (3, .int (a2)), (4, .int (a3))]) hx hb dX9_changeMirror_17 hl (by decide) rfl (fun ls hl => ?_)
    refine lv_aload_n hx hb dX9_changeMirror_19 rfl (lv_at hl 1 rfl) ?_
    refine m_getr (0) 0 (100) hx hb hts hown hE oc9 hM (hG.1 0 (by decide)) rfl (by decide) rfl (hG.2 (0, 0, 100) (by decide)) (by decide) tb_398 dX9_changeMirror_20 ?_
    refine lv_iload_n hx hb dX9_changeMirror_23 rfl (lv_at hl 2 rfl) ?_
    refine lv_iload_n hx hb dX9_changeMirror_24 rfl (lv_at hl 3 rfl) ?_
    refine lv_iload_n hx hb dX9_changeMirror_25 rfl (lv_at hl 4 rfl) ?_
    refine m_callv (m_runV (100) (As := [.int (a0), .int (a1), .int (a2)]) (rest := []) hx hb hml hown hts hE hM hS hA ce_X8_setMirror tb_503 (V_X8_setMirror_100_t l D A ad ns I L G (a0) (a1) (a2) hG hI (by first | omega | decide) (by first | omega | decide)) rfl rfl ⟨Nat.le_of_ble_eq_true rfl, Nat.le_of_ble_eq_true rfl⟩ (hG.1 100 (by decide)) rfl rfl (by decide) rfl hl.1 rfl (Nat.le_of_ble_eq_true rfl) dX9_changeMirror_26 ⟨Nat.le_of_ble_eq_true rfl, Nat.le_of_ble_eq_true rfl⟩) hS (fun u H locs hw hM hS => ?_)
    obtain ⟨I3, L4, rfl, hI, hkI3, xI3⟩ := hw
    have hM : Mem D A ad ns I3 L4 G H := hM
    have hK := hK.trans hkI3 rfl
    refine lv_iload hx hb dX9_changeMirror_29 (lv_at hl 0 rfl) ?_
    exact m_iret hx hb hr hlocks hM hS (Nat.le_of_ble_eq_true rfl) (Nat.le_of_ble_eq_true rfl) ⟨_, _, rfl, hI, hK, (Or.inl ⟨by omega, xr2, xI3⟩)⟩ dX9_changeMirror_31
  · have hc1 := c1
    have q1 := q_eq hc1
    refine lv_bipush (v := (-2)) hx hb dX9_changeMirror_5 (by decide) ?_
    exact m_iret hx hb hr hlocks hM hS (Nat.le_of_ble_eq_true rfl) (Nat.le_of_ble_eq_true rfl) ⟨_, _, rfl, hI, hK, (Or.inr ⟨by omega, rfl, rfl⟩)⟩ dX9_changeMirror_7
theorem bo_t {r : Int32} {P : Prop} (h : Bo r P) (c : r.toInt ≠ 0) : P := h.t (fun e => c (by rw [e]; rfl))
theorem bo_f {r : Int32} {P : Prop} (h : Bo r P) (c : ¬ r.toInt ≠ 0) : ¬ P := h.f (Int32.toInt_inj.mp (by show r.toInt = 0; omega))
set_option maxHeartbeats 4000000 in
set_option maxRecDepth 20000 in
theorem V_X9_sets_t (l : Launch) (D : va_G) (A : Nat → Prop) (ad : Nat → Nat) (ns : List Nat) (I : MI) (L : ML) (G : MG) (a0 : Int32) (a1 : Int32) (a2 : Int32) (hG : SGC ns G) (hI : INV I) : Met l yX9_sets (wd yX9_sets cX9_sets 4 (some .int)) ({ frames := 2, cells := 0, slots := 0, locals := 48 }) (va_Pc [.ref (ad (0)), .int a0, .int a1, .int a2] (PM D A ad ns I L G)) (va_Qi (fun r u => ∃ I2 L2, u = (ad, ns, I2, L2, G) ∧ INV I2 ∧ Kp [(107, 108)] [] I I2 ∧ (SET ((0 ≤ a0.toInt ∧ a0.toInt < (I 100 8).toInt) ∧ okE a1 a2) r (cF 100 I (srow a1) (a0).toNatClampNeg) I I2 (stV (cF 100 I) (srow a1) (a0).toNatClampNeg a2) (cF 100 I2))) (BM D A) A) 0 0 A := by
  refine m_ofW (by decide) (Nat.le_of_ble_eq_true rfl) ?_
  intro p e s m below meth c ls args hC hE hM hA hS hl
  obtain ⟨hx, hb, hml, hown, hts, hr, hlocks, hin⟩ := hC
  have km2 : (-2 : Int32).toInt = -2 := by decide
  have km1 : (-1 : Int32).toInt = -1 := by decide
  have k0 : (0 : Int32).toInt = 0 := by decide
  have k1 : (1 : Int32).toInt = 1 := by decide
  have k2 : (2 : Int32).toInt = 2 := by decide
  have k7 : (7 : Int32).toInt = 7 := by decide
  have k8 : (8 : Int32).toInt = 8 := by decide
  have k9 : (9 : Int32).toInt = 9 := by decide
  have k1000 : (1000 : Int32).toInt = 1000 := by decide
  have k99999 : (99999 : Int32).toInt = 99999 := by decide
  have hK : Kp [(107, 108)] [] I I := Kp.rf
  have hl : lv_has ls 4 [(0, .ref (ad (0))), (1, .int (a0)), (2, .int (a1)), (3, .int (a2))] := hl
  refine lv_aload_n hx hb dX9_sets_0 rfl (lv_at hl 0 rfl) ?_
  refine m_getr (0) 0 (100) hx hb hts hown hE oc9 hM (hG.1 0 (by decide)) rfl (by decide) rfl (hG.2 (0, 0, 100) (by decide)) (by decide) tb_398 dX9_sets_1 ?_
  refine lv_iload_n hx hb dX9_sets_4 rfl (lv_at hl 1 rfl) ?_
  refine m_calli (m_runV (100) (As := [.int (a0)]) (rest := []) hx hb hml hown hts hE hM hS hA ce_X8_hasMirror tb_508 (V_X8_hasMirror_100 l D A ad ns I L G (a0) hG hI) rfl rfl ⟨Nat.le_of_ble_eq_true rfl, Nat.le_of_ble_eq_true rfl⟩ (hG.1 100 (by decide)) rfl rfl (by decide) rfl hl.1 rfl (Nat.le_of_ble_eq_true rfl) dX9_sets_5 ⟨Nat.le_of_ble_eq_true rfl, Nat.le_of_ble_eq_true rfl⟩) hS (fun r1 u H locs hw hM hS => ?_)
  obtain ⟨rfl, xr1⟩ := hw
  have hM : Mem D A ad ns I L G H := hM
  have yr1 := bo01 xr1
  have g2 := hI.get 100 8 (lo := 0) (hi := 24) rfl
  refine lv_if_ne (tgt := 14) hx hb dX9_sets_8 (by decide) (fun c3 => ?_) (fun c3 => ?_)
  · have hc3 := c3
    have q3 := xr1.t hc3
    refine lv_iload_n hx hb dX9_sets_14 rfl (lv_at hl 2 rfl) ?_
    by_cases c4 : (a1).toInt < 0 ∨ 3 < (a1).toInt
    · refine lv_tableOut (tgt := 107) hx hb dX9_sets_15 c4 (by decide) ?_
      refine lv_bipush (v := (-2)) hx hb dX9_sets_107 (by decide) ?_
      exact m_iret hx hb hr hlocks hM hS (Nat.le_of_ble_eq_true rfl) (Nat.le_of_ble_eq_true rfl) ⟨_, _, rfl, hI, hK, (Or.inr ⟨fun hh => by have h1 := hh.1; have h2 := hh.2; unfold okE at h2; omega, rfl, rfl⟩)⟩ dX9_sets_109
    · have qc4 : (a1).toInt = 0 ∨ (a1).toInt = 1 ∨ (a1).toInt = 2 ∨ (a1).toInt = 3 := by omega
      rcases qc4 with qc4 | qc4 | qc4 | qc4
      · refine lv_tableIn (off := 29) (tgt := 44) hx hb dX9_sets_15 (by omega) (by omega) (by rw [qc4]; rfl) (by decide) ?_
        refine lv_aload_n hx hb dX9_sets_44 rfl (lv_at hl 0 rfl) ?_
        refine lv_iload_n hx hb dX9_sets_45 rfl (lv_at hl 1 rfl) ?_
        refine lv_iconst (v := (2)) hx hb dX9_sets_46 (by decide) ?_
        refine lv_iload_n hx hb dX9_sets_47 rfl (lv_at hl 3 rfl) ?_
        refine lv_iload_n hx hb dX9_sets_48 rfl (lv_at hl 3 rfl) ?_
        refine lv_iconst (v := (0)) hx hb dX9_sets_49 (by decide) ?_
        refine lv_bipush (v := (7)) hx hb dX9_sets_50 (by decide) ?_
        refine m_calli (m_runS (As := [.int (a2), .int (0), .int (7)]) (rest := [.int (a2), .int (2), .int (a0), .ref (ad (0))]) hx hb hml hown hts hE hM hS hA ce_X9_isWithin tb_451 (V_X9_isWithin l D A ad ns I L G (a2) (0) (7) hI) rfl rfl ⟨Nat.le_of_ble_eq_true rfl, Nat.le_of_ble_eq_true rfl⟩  rfl hl.1 rfl (Nat.le_of_ble_eq_true rfl) dX9_sets_52 ⟨Nat.le_of_ble_eq_true rfl, Nat.le_of_ble_eq_true rfl⟩) hS (fun r5 u H locs hw hM hS => ?_)
        obtain ⟨rfl, xr5⟩ := hw
        have hM : Mem D A ad ns I L G H := hM
        have yr5 := bo01 xr5
        refine m_calli (m_runV (0) (As := [.int (a0), .int (2), .int (a2), .int (r5)]) (rest := []) hx hb hml hown hts hE hM hS hA ce_X9_changeMirror tb_512 (V_X9_changeMirror_t l D A ad ns I L G (a0) (2) (a2) (r5) hG hI (by first | omega | decide) (by first | omega | decide) (by first | omega | decide)) rfl rfl ⟨Nat.le_of_ble_eq_true rfl, Nat.le_of_ble_eq_true rfl⟩ (hG.1 0 (by decide)) rfl rfl (by decide) rfl hl.1 rfl (Nat.le_of_ble_eq_true rfl) dX9_sets_55 ⟨Nat.le_of_ble_eq_true rfl, Nat.le_of_ble_eq_true rfl⟩) hS (fun r6 u H locs hw hM hS => ?_)
        obtain ⟨I7, L8, rfl, hI, hkI7, xr6⟩ := hw
        have hM : Mem D A ad ns I7 L8 G H := hM
        have hK := hK.trans hkI7 rfl
        have hsr : srow a1 = 9 := by unfold srow; rw [if_pos (by omega)]
        exact m_iret hx hb hr hlocks hM hS (Nat.le_of_ble_eq_true rfl) (Nat.le_of_ble_eq_true rfl) ⟨_, _, rfl, hI, hK, (by rw [hsr]; rcases xr6 with ⟨h1, h2, h3⟩ | ⟨h1, h2, h3⟩; exact Or.inl ⟨⟨by omega, by unfold okE; have hb := bo_t xr5 h1; omega⟩, h2, h3⟩; exact Or.inr ⟨fun hh => by have h4 := hh.2; unfold okE at h4; have hb := bo_f xr5 h1; omega, h2, h3⟩)⟩ dX9_sets_58
      · refine lv_tableIn (off := 44) (tgt := 59) hx hb dX9_sets_15 (by omega) (by omega) (by rw [qc4]; rfl) (by decide) ?_
        refine lv_aload_n hx hb dX9_sets_59 rfl (lv_at hl 0 rfl) ?_
        refine lv_iload_n hx hb dX9_sets_60 rfl (lv_at hl 1 rfl) ?_
        refine lv_bipush (v := (7)) hx hb dX9_sets_61 (by decide) ?_
        refine lv_iload_n hx hb dX9_sets_63 rfl (lv_at hl 3 rfl) ?_
        refine lv_iload_n hx hb dX9_sets_64 rfl (lv_at hl 3 rfl) ?_
        refine lv_iconst (v := (0)) hx hb dX9_sets_65 (by decide) ?_
        refine lv_sipush (v := (1000)) hx hb dX9_sets_66 (by decide) ?_
        refine m_calli (m_runS (As := [.int (a2), .int (0), .int (1000)]) (rest := [.int (a2), .int (7), .int (a0), .ref (ad (0))]) hx hb hml hown hts hE hM hS hA ce_X9_isWithin tb_451 (V_X9_isWithin l D A ad ns I L G (a2) (0) (1000) hI) rfl rfl ⟨Nat.le_of_ble_eq_true rfl, Nat.le_of_ble_eq_true rfl⟩  rfl hl.1 rfl (Nat.le_of_ble_eq_true rfl) dX9_sets_69 ⟨Nat.le_of_ble_eq_true rfl, Nat.le_of_ble_eq_true rfl⟩) hS (fun r9 u H locs hw hM hS => ?_)
        obtain ⟨rfl, xr9⟩ := hw
        have hM : Mem D A ad ns I L G H := hM
        have yr9 := bo01 xr9
        refine m_calli (m_runV (0) (As := [.int (a0), .int (7), .int (a2), .int (r9)]) (rest := []) hx hb hml hown hts hE hM hS hA ce_X9_changeMirror tb_512 (V_X9_changeMirror_t l D A ad ns I L G (a0) (7) (a2) (r9) hG hI (by first | omega | decide) (by first | omega | decide) (by first | omega | decide)) rfl rfl ⟨Nat.le_of_ble_eq_true rfl, Nat.le_of_ble_eq_true rfl⟩ (hG.1 0 (by decide)) rfl rfl (by decide) rfl hl.1 rfl (Nat.le_of_ble_eq_true rfl) dX9_sets_72 ⟨Nat.le_of_ble_eq_true rfl, Nat.le_of_ble_eq_true rfl⟩) hS (fun r10 u H locs hw hM hS => ?_)
        obtain ⟨I11, L12, rfl, hI, hkI11, xr10⟩ := hw
        have hM : Mem D A ad ns I11 L12 G H := hM
        have hK := hK.trans hkI11 rfl
        have hsr : srow a1 = 14 := by unfold srow; rw [if_neg (by omega), if_pos (by omega)]
        exact m_iret hx hb hr hlocks hM hS (Nat.le_of_ble_eq_true rfl) (Nat.le_of_ble_eq_true rfl) ⟨_, _, rfl, hI, hK, (by rw [hsr]; rcases xr10 with ⟨h1, h2, h3⟩ | ⟨h1, h2, h3⟩; exact Or.inl ⟨⟨by omega, by unfold okE; have hb := bo_t xr9 h1; omega⟩, h2, h3⟩; exact Or.inr ⟨fun hh => by have h4 := hh.2; unfold okE at h4; have hb := bo_f xr9 h1; omega, h2, h3⟩)⟩ dX9_sets_75
      · refine lv_tableIn (off := 61) (tgt := 76) hx hb dX9_sets_15 (by omega) (by omega) (by rw [qc4]; rfl) (by decide) ?_
        refine lv_aload_n hx hb dX9_sets_76 rfl (lv_at hl 0 rfl) ?_
        refine lv_iload_n hx hb dX9_sets_77 rfl (lv_at hl 1 rfl) ?_
        refine lv_bipush (v := (8)) hx hb dX9_sets_78 (by decide) ?_
        refine lv_iload_n hx hb dX9_sets_80 rfl (lv_at hl 3 rfl) ?_
        refine lv_iload_n hx hb dX9_sets_81 rfl (lv_at hl 3 rfl) ?_
        refine lv_iconst (v := (0)) hx hb dX9_sets_82 (by decide) ?_
        refine lv_iconst (v := (1)) hx hb dX9_sets_83 (by decide) ?_
        refine m_calli (m_runS (As := [.int (a2), .int (0), .int (1)]) (rest := [.int (a2), .int (8), .int (a0), .ref (ad (0))]) hx hb hml hown hts hE hM hS hA ce_X9_isWithin tb_451 (V_X9_isWithin l D A ad ns I L G (a2) (0) (1) hI) rfl rfl ⟨Nat.le_of_ble_eq_true rfl, Nat.le_of_ble_eq_true rfl⟩  rfl hl.1 rfl (Nat.le_of_ble_eq_true rfl) dX9_sets_84 ⟨Nat.le_of_ble_eq_true rfl, Nat.le_of_ble_eq_true rfl⟩) hS (fun r13 u H locs hw hM hS => ?_)
        obtain ⟨rfl, xr13⟩ := hw
        have hM : Mem D A ad ns I L G H := hM
        have yr13 := bo01 xr13
        refine m_calli (m_runV (0) (As := [.int (a0), .int (8), .int (a2), .int (r13)]) (rest := []) hx hb hml hown hts hE hM hS hA ce_X9_changeMirror tb_512 (V_X9_changeMirror_t l D A ad ns I L G (a0) (8) (a2) (r13) hG hI (by first | omega | decide) (by first | omega | decide) (by first | omega | decide)) rfl rfl ⟨Nat.le_of_ble_eq_true rfl, Nat.le_of_ble_eq_true rfl⟩ (hG.1 0 (by decide)) rfl rfl (by decide) rfl hl.1 rfl (Nat.le_of_ble_eq_true rfl) dX9_sets_87 ⟨Nat.le_of_ble_eq_true rfl, Nat.le_of_ble_eq_true rfl⟩) hS (fun r14 u H locs hw hM hS => ?_)
        obtain ⟨I15, L16, rfl, hI, hkI15, xr14⟩ := hw
        have hM : Mem D A ad ns I15 L16 G H := hM
        have hK := hK.trans hkI15 rfl
        have hsr : srow a1 = 15 := by unfold srow; rw [if_neg (by omega), if_neg (by omega), if_pos (by omega)]
        exact m_iret hx hb hr hlocks hM hS (Nat.le_of_ble_eq_true rfl) (Nat.le_of_ble_eq_true rfl) ⟨_, _, rfl, hI, hK, (by rw [hsr]; rcases xr14 with ⟨h1, h2, h3⟩ | ⟨h1, h2, h3⟩; exact Or.inl ⟨⟨by omega, by unfold okE; have hb := bo_t xr13 h1; omega⟩, h2, h3⟩; exact Or.inr ⟨fun hh => by have h4 := hh.2; unfold okE at h4; have hb := bo_f xr13 h1; omega, h2, h3⟩)⟩ dX9_sets_90
      · refine lv_tableIn (off := 76) (tgt := 91) hx hb dX9_sets_15 (by omega) (by omega) (by rw [qc4]; rfl) (by decide) ?_
        refine lv_aload_n hx hb dX9_sets_91 rfl (lv_at hl 0 rfl) ?_
        refine lv_iload_n hx hb dX9_sets_92 rfl (lv_at hl 1 rfl) ?_
        refine lv_bipush (v := (9)) hx hb dX9_sets_93 (by decide) ?_
        refine lv_iload_n hx hb dX9_sets_95 rfl (lv_at hl 3 rfl) ?_
        refine lv_iload_n hx hb dX9_sets_96 rfl (lv_at hl 3 rfl) ?_
        refine lv_iconst (v := (-1)) hx hb dX9_sets_97 (by decide) ?_
        refine lv_ldc (v := (99999)) hx hb hown (hts _ tb_488) dX9_sets_98 ?_
        refine m_calli (m_runS (As := [.int (a2), .int ((-1 : Int32)), .int (99999)]) (rest := [.int (a2), .int (9), .int (a0), .ref (ad (0))]) hx hb hml hown hts hE hM hS hA ce_X9_isWithin tb_451 (V_X9_isWithin l D A ad ns I L G (a2) ((-1 : Int32)) (99999) hI) rfl rfl ⟨Nat.le_of_ble_eq_true rfl, Nat.le_of_ble_eq_true rfl⟩  rfl hl.1 rfl (Nat.le_of_ble_eq_true rfl) dX9_sets_100 ⟨Nat.le_of_ble_eq_true rfl, Nat.le_of_ble_eq_true rfl⟩) hS (fun r17 u H locs hw hM hS => ?_)
        obtain ⟨rfl, xr17⟩ := hw
        have hM : Mem D A ad ns I L G H := hM
        have yr17 := bo01 xr17
        refine m_calli (m_runV (0) (As := [.int (a0), .int (9), .int (a2), .int (r17)]) (rest := []) hx hb hml hown hts hE hM hS hA ce_X9_changeMirror tb_512 (V_X9_changeMirror_t l D A ad ns I L G (a0) (9) (a2) (r17) hG hI (by first | omega | decide) (by first | omega | decide) (by first | omega | decide)) rfl rfl ⟨Nat.le_of_ble_eq_true rfl, Nat.le_of_ble_eq_true rfl⟩ (hG.1 0 (by decide)) rfl rfl (by decide) rfl hl.1 rfl (Nat.le_of_ble_eq_true rfl) dX9_sets_103 ⟨Nat.le_of_ble_eq_true rfl, Nat.le_of_ble_eq_true rfl⟩) hS (fun r18 u H locs hw hM hS => ?_)
        obtain ⟨I19, L20, rfl, hI, hkI19, xr18⟩ := hw
        have hM : Mem D A ad ns I19 L20 G H := hM
        have hK := hK.trans hkI19 rfl
        have hsr : srow a1 = 16 := by unfold srow; rw [if_neg (by omega), if_neg (by omega), if_neg (by omega)]
        exact m_iret hx hb hr hlocks hM hS (Nat.le_of_ble_eq_true rfl) (Nat.le_of_ble_eq_true rfl) ⟨_, _, rfl, hI, hK, (by rw [hsr]; rcases xr18 with ⟨h1, h2, h3⟩ | ⟨h1, h2, h3⟩; exact Or.inl ⟨⟨by omega, by unfold okE; have hb := bo_t xr17 h1; omega⟩, h2, h3⟩; exact Or.inr ⟨fun hh => by have h4 := hh.2; unfold okE at h4; have hb := bo_f xr17 h1; omega, h2, h3⟩)⟩ dX9_sets_106
  · have hc3 := c3
    have q3 := xr1.f hc3
    refine lv_bipush (v := (-2)) hx hb dX9_sets_11 (by decide) ?_
    exact m_iret hx hb hr hlocks hM hS (Nat.le_of_ble_eq_true rfl) (Nat.le_of_ble_eq_true rfl) ⟨_, _, rfl, hI, hK, (Or.inr ⟨fun hh => by have h1 := hh.1; have h2 := hh.2; unfold okE at h2; omega, rfl, rfl⟩)⟩ dX9_sets_13
