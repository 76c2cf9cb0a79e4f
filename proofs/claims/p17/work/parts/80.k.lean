theorem dL_law_1462 : decode cL_law 1462 = .ok (.aload_n 1, 1) := by decide +kernel
theorem dL_law_1463 : decode cL_law 1463 = .ok (.aload_n 0, 1) := by decide +kernel
theorem dL_law_1464 : decode cL_law 1464 = .ok (.iload_n 3, 1) := by decide +kernel
theorem dL_law_1465 : decode cL_law 1465 = .ok (.iconst 1, 1) := by decide +kernel
theorem dL_law_1466 : decode cL_law 1466 = .ok (.iadd, 1) := by decide +kernel
theorem dL_law_1467 : decode cL_law 1467 = .ok (.iaload, 1) := by decide +kernel
theorem dL_law_1468 : decode cL_law 1468 = .ok (.invokevirtual 144, 3) := by decide +kernel
theorem dL_law_1471 : decode cL_law 1471 = .ok (.pop, 1) := by decide +kernel
theorem dL_law_1472 : decode cL_law 1472 = .ok (.aload_n 2, 1) := by decide +kernel
theorem dL_law_1473 : decode cL_law 1473 = .ok (.aload_n 0, 1) := by decide +kernel
theorem dL_law_1474 : decode cL_law 1474 = .ok (.iload_n 3, 1) := by decide +kernel
theorem dL_law_1475 : decode cL_law 1475 = .ok (.iconst 1, 1) := by decide +kernel
theorem dL_law_1476 : decode cL_law 1476 = .ok (.iadd, 1) := by decide +kernel
theorem dL_law_1477 : decode cL_law 1477 = .ok (.iaload, 1) := by decide +kernel
theorem dL_law_1478 : decode cL_law 1478 = .ok (.invokevirtual 147, 3) := by decide +kernel
theorem dL_law_1481 : decode cL_law 1481 = .ok (.pop, 1) := by decide +kernel
theorem dL_law_1482 : decode cL_law 1482 = .ok (.goto 49, 3) := by decide +kernel
set_option maxHeartbeats 4000000 in
theorem lc_30 {p : Program} {l : Launch} {e : Env} {s : State} {m : MethodId} {below : List Frame} {meth : Method} {c : Code} {b N : Nat} {ii : Int32} {xs : Nat → Int32} {D : va_G} {A : Nat → Prop} {ad : Nat → Nat} {ns : List Nat} {I : MI} {L : ML} {G : MG} {H : Heap} {locs : List Loc} {ls : Array Slot} {cells slots : Nat} (F : LF p s m meth c b N xs D A) (hN : N ≤ 4096) (hi : 0 ≤ ii.toInt ∧ ii.toInt + 8 ≤ N) (hc : cells ≤ 500000) (hs : slots ≤ 5000000) (fw : WD ns I G) (hM : Mem D A ad ns I L G H) (hS : va_S A s.heap H locs) (hl : lv_has ls 4 [(0, .ref (b)), (1, .ref (ad (0))), (2, .ref (ad (1000))), (3, .int (ii))]) (kk : LK p l e s m below meth c b ii D A cells slots) : W p l e room_1 s m #[Value.ref b] below meth c H locs cells slots (lw_Z below #[Value.ref b] s) (F0 m 1462 ls []) := by
  obtain ⟨hx, hb, hml, hown, hts, hX, hbl, hbA, hA, hE⟩ := F
  obtain ⟨hC, hJ, hI, hLM, hRel⟩ := fw
  have hI0 := hI
  have hG := hC.1
  have hL := hC.lws
  have hIm := hC.2.1.ims
  have tii := tn hi.1
  have k0 : (0 : Int32).toInt = 0 := by decide
  have k1 : (1 : Int32).toInt = 1 := by decide
  refine lv_aload_n hx hb dL_law_1462 rfl (lv_at hl 1 rfl) ?_
  refine lv_aload_n hx hb dL_law_1463 rfl (lv_at hl 0 rfl) ?_
  refine lv_iload_n hx hb dL_law_1464 rfl (lv_at hl 3 rfl) ?_
  refine lv_iconst (v := (1)) hx hb dL_law_1465 (by decide) ?_
  refine lv_iadd hx hb dL_law_1466 ?_
  refine lv_topi (fun v1 ev1 => ?_)
  have sv1 := sx 1 ev1 (by decide) (by decide) hi hN
  refine va_sld hx hb hX hbl hbA hS (i := v1) (vp_in_iff.mpr sv1.1) dL_law_1467 ?_
  rw [sv1.2]
  clear sv1
  refine m_calli (m_runV (0) (As := [.int (xs (ii.toNatClampNeg + 1))]) (rest := []) hx hb hml hown hts hE hM hS hA ce_X9_count tb_1156 (V_X9_count l D A ad ns I L G (xs (ii.toNatClampNeg + 1)) hG hI) rfl rfl ⟨Nat.le_of_ble_eq_true rfl, Nat.le_of_ble_eq_true rfl⟩ (hG.1 0 (by decide)) rfl rfl (by decide) rfl hl.1 rfl (Nat.le_of_ble_eq_true rfl) dL_law_1468 ⟨(by show _ + _ ≤ 600000; omega), (by show _ + _ ≤ 7302250; omega)⟩) hS (fun r2 u H locs hw hM hS => ?_)
  obtain ⟨rfl, y1⟩ := hw
  have hM : Mem D A ad ns I L G H := hM
  refine lv_pop hx hb dL_law_1471 rfl ?_
  refine lv_aload_n hx hb dL_law_1472 rfl (lv_at hl 2 rfl) ?_
  refine lv_aload_n hx hb dL_law_1473 rfl (lv_at hl 0 rfl) ?_
  refine lv_iload_n hx hb dL_law_1474 rfl (lv_at hl 3 rfl) ?_
  refine lv_iconst (v := (1)) hx hb dL_law_1475 (by decide) ?_
  refine lv_iadd hx hb dL_law_1476 ?_
  refine lv_topi (fun v3 ev3 => ?_)
  have sv3 := sx 1 ev3 (by decide) (by decide) hi hN
  refine va_sld hx hb hX hbl hbA hS (i := v3) (vp_in_iff.mpr sv3.1) dL_law_1477 ?_
  rw [sv3.2]
  clear sv3
  refine m_calli (m_runV (1000) (As := [.int (xs (ii.toNatClampNeg + 1))]) (rest := []) hx hb hml hown hts hE hM hS hA ce_X10_count tb_1820 (V_X10_count l D A ad ns I L G (xs (ii.toNatClampNeg + 1)) hJ hI) rfl rfl ⟨Nat.le_of_ble_eq_true rfl, Nat.le_of_ble_eq_true rfl⟩ hJ.1 rfl rfl (by decide) rfl hl.1 rfl (Nat.le_of_ble_eq_true rfl) dL_law_1478 ⟨(by show _ + _ ≤ 600000; omega), (by show _ + _ ≤ 7302250; omega)⟩) hS (fun r4 u H locs hw hM hS => ?_)
  have hI1 := hI
  obtain ⟨rfl, y2⟩ := hw
  have hM : Mem D A ad ns I L G H := hM
  refine lv_pop hx hb dL_law_1481 rfl ?_
  refine lv_goto (tgt := 1531) hx hb dL_law_1482 (by decide) ?_
  exact kk ad ns I L G _ _ _ _ _ (by omega) (by omega) ⟨hC, hJ, hI, hLM, hRel⟩ hM hS (lv_sub hl [0, 1, 2, 3] rfl)
theorem dL_law_1485 : decode cL_law 1485 = .ok (.aload_n 1, 1) := by decide +kernel
theorem dL_law_1486 : decode cL_law 1486 = .ok (.aload_n 0, 1) := by decide +kernel
theorem dL_law_1487 : decode cL_law 1487 = .ok (.iload_n 3, 1) := by decide +kernel
theorem dL_law_1488 : decode cL_law 1488 = .ok (.iconst 1, 1) := by decide +kernel
theorem dL_law_1489 : decode cL_law 1489 = .ok (.iadd, 1) := by decide +kernel
theorem dL_law_1490 : decode cL_law 1490 = .ok (.iaload, 1) := by decide +kernel
theorem dL_law_1491 : decode cL_law 1491 = .ok (.invokevirtual 148, 3) := by decide +kernel
theorem dL_law_1494 : decode cL_law 1494 = .ok (.pop, 1) := by decide +kernel
theorem dL_law_1495 : decode cL_law 1495 = .ok (.aload_n 2, 1) := by decide +kernel
theorem dL_law_1496 : decode cL_law 1496 = .ok (.aload_n 0, 1) := by decide +kernel
theorem dL_law_1497 : decode cL_law 1497 = .ok (.iload_n 3, 1) := by decide +kernel
theorem dL_law_1498 : decode cL_law 1498 = .ok (.iconst 1, 1) := by decide +kernel
theorem dL_law_1499 : decode cL_law 1499 = .ok (.iadd, 1) := by decide +kernel
theorem dL_law_1500 : decode cL_law 1500 = .ok (.iaload, 1) := by decide +kernel
theorem dL_law_1501 : decode cL_law 1501 = .ok (.invokevirtual 151, 3) := by decide +kernel
theorem dL_law_1504 : decode cL_law 1504 = .ok (.pop, 1) := by decide +kernel
theorem dL_law_1505 : decode cL_law 1505 = .ok (.goto 26, 3) := by decide +kernel
set_option maxHeartbeats 4000000 in
theorem lc_31 {p : Program} {l : Launch} {e : Env} {s : State} {m : MethodId} {below : List Frame} {meth : Method} {c : Code} {b N : Nat} {ii : Int32} {xs : Nat → Int32} {D : va_G} {A : Nat → Prop} {ad : Nat → Nat} {ns : List Nat} {I : MI} {L : ML} {G : MG} {H : Heap} {locs : List Loc} {ls : Array Slot} {cells slots : Nat} (F : LF p s m meth c b N xs D A) (hN : N ≤ 4096) (hi : 0 ≤ ii.toInt ∧ ii.toInt + 8 ≤ N) (hc : cells ≤ 500000) (hs : slots ≤ 5000000) (fw : WD ns I G) (hM : Mem D A ad ns I L G H) (hS : va_S A s.heap H locs) (hl : lv_has ls 4 [(0, .ref (b)), (1, .ref (ad (0))), (2, .ref (ad (1000))), (3, .int (ii))]) (kk : LK p l e s m below meth c b ii D A cells slots) : W p l e room_1 s m #[Value.ref b] below meth c H locs cells slots (lw_Z below #[Value.ref b] s) (F0 m 1485 ls []) := by
  obtain ⟨hx, hb, hml, hown, hts, hX, hbl, hbA, hA, hE⟩ := F
  obtain ⟨hC, hJ, hI, hLM, hRel⟩ := fw
  have hI0 := hI
  have hJ0 := hJ
  have hG := hC.1
  have hL := hC.lws
  have hIm := hC.2.1.ims
  have tii := tn hi.1
  have k0 : (0 : Int32).toInt = 0 := by decide
  have k1 : (1 : Int32).toInt = 1 := by decide
  refine lv_aload_n hx hb dL_law_1485 rfl (lv_at hl 1 rfl) ?_
  refine lv_aload_n hx hb dL_law_1486 rfl (lv_at hl 0 rfl) ?_
  refine lv_iload_n hx hb dL_law_1487 rfl (lv_at hl 3 rfl) ?_
  refine lv_iconst (v := (1)) hx hb dL_law_1488 (by decide) ?_
  refine lv_iadd hx hb dL_law_1489 ?_
  refine lv_topi (fun v1 ev1 => ?_)
  have sv1 := sx 1 ev1 (by decide) (by decide) hi hN
  refine va_sld hx hb hX hbl hbA hS (i := v1) (vp_in_iff.mpr sv1.1) dL_law_1490 ?_
  rw [sv1.2]
  clear sv1
  refine m_calli (m_runV (0) (As := [.int (xs (ii.toNatClampNeg + 1))]) (rest := []) hx hb hml hown hts hE hM hS hA ce_X9_image tb_1164 (V_X9_image_f l D A ad ns I L G (xs (ii.toNatClampNeg + 1)) hI hC) rfl rfl ⟨Nat.le_of_ble_eq_true rfl, Nat.le_of_ble_eq_true rfl⟩ (hG.1 0 (by decide)) rfl rfl (by decide) rfl hl.1 rfl (Nat.le_of_ble_eq_true rfl) dL_law_1491 ⟨(by show _ + _ ≤ 600000; omega), (by show _ + _ ≤ 7302250; omega)⟩) hS (fun r2 u H locs hw hM hS => ?_)
  obtain ⟨ad1, ns1, I1, L1, G1, rfl, hI, hC, hext, y1, hout⟩ := hw
  have hM : Mem D A ad1 ns1 I1 L1 G1 H := hM
  replace hJ : SGM ns1 G1 := hJ.ext hext (fun n hn => (hout n hn).2)
  replace hLM : LWM I1 := hLM.out (fun n hn => (hout n hn).1)
  rw [← (hext 0 (hG.1 0 (by decide))).2] at hl
  rw [← (hext 1000 hJ0.1).2] at hl
  replace hG := hC.1
  refine lv_pop hx hb dL_law_1494 rfl ?_
  refine lv_aload_n hx hb dL_law_1495 rfl (lv_at hl 2 rfl) ?_
  refine lv_aload_n hx hb dL_law_1496 rfl (lv_at hl 0 rfl) ?_
  refine lv_iload_n hx hb dL_law_1497 rfl (lv_at hl 3 rfl) ?_
  refine lv_iconst (v := (1)) hx hb dL_law_1498 (by decide) ?_
  refine lv_iadd hx hb dL_law_1499 ?_
  refine lv_topi (fun v3 ev3 => ?_)
  have sv3 := sx 1 ev3 (by decide) (by decide) hi hN
  refine va_sld hx hb hX hbl hbA hS (i := v3) (vp_in_iff.mpr sv3.1) dL_law_1500 ?_
  rw [sv3.2]
  clear sv3
  refine m_calli (m_runV (1000) (As := [.int (xs (ii.toNatClampNeg + 1))]) (rest := []) hx hb hml hown hts hE hM hS hA ce_X10_image tb_1824 (V_X10_image l D A ad1 ns1 I1 L1 G1 (xs (ii.toNatClampNeg + 1)) hJ hI) rfl rfl ⟨Nat.le_of_ble_eq_true rfl, Nat.le_of_ble_eq_true rfl⟩ hJ.1 rfl rfl (by decide) rfl hl.1 rfl (Nat.le_of_ble_eq_true rfl) dL_law_1501 ⟨(by show _ + _ ≤ 600000; omega), (by show _ + _ ≤ 7302250; omega)⟩) hS (fun r4 u H locs hw hM hS => ?_)
  have hI1 := hI
  obtain ⟨I2, L2, rfl, hI, hk2, y2⟩ := hw
  have hM : Mem D A ad1 ns1 I2 L2 G1 H := hM
  replace hC : CW ns1 I2 G1 := cw_keep hC (hk2.get 0 14 rfl)
  replace hLM : LWM I2 := hLM.kp hk2 rfl rfl
  refine lv_pop hx hb dL_law_1504 rfl ?_
  refine lv_goto (tgt := 1531) hx hb dL_law_1505 (by decide) ?_
  exact kk ad1 ns1 I2 L2 G1 _ _ _ _ _ (by omega) (by omega) ⟨hC, hJ, hI, hLM, (hRel.image hI0 y1 (fun n hn => (hout n hn).1) y2)⟩ hM hS (lv_sub hl [0, 1, 2, 3] rfl)
theorem dL_law_1508 : decode cL_law 1508 = .ok (.aload_n 1, 1) := by decide +kernel
theorem dL_law_1509 : decode cL_law 1509 = .ok (.aload_n 0, 1) := by decide +kernel
theorem dL_law_1510 : decode cL_law 1510 = .ok (.iload_n 3, 1) := by decide +kernel
theorem dL_law_1511 : decode cL_law 1511 = .ok (.iconst 1, 1) := by decide +kernel
theorem dL_law_1512 : decode cL_law 1512 = .ok (.iadd, 1) := by decide +kernel
theorem dL_law_1513 : decode cL_law 1513 = .ok (.iaload, 1) := by decide +kernel
theorem dL_law_1514 : decode cL_law 1514 = .ok (.invokevirtual 152, 3) := by decide +kernel
theorem dL_law_1517 : decode cL_law 1517 = .ok (.pop, 1) := by decide +kernel
theorem dL_law_1518 : decode cL_law 1518 = .ok (.aload_n 2, 1) := by decide +kernel
theorem dL_law_1519 : decode cL_law 1519 = .ok (.aload_n 0, 1) := by decide +kernel
theorem dL_law_1520 : decode cL_law 1520 = .ok (.iload_n 3, 1) := by decide +kernel
theorem dL_law_1521 : decode cL_law 1521 = .ok (.iconst 1, 1) := by decide +kernel
theorem dL_law_1522 : decode cL_law 1522 = .ok (.iadd, 1) := by decide +kernel
theorem dL_law_1523 : decode cL_law 1523 = .ok (.iaload, 1) := by decide +kernel
theorem dL_law_1524 : decode cL_law 1524 = .ok (.invokevirtual 155, 3) := by decide +kernel
theorem dL_law_1527 : decode cL_law 1527 = .ok (.pop, 1) := by decide +kernel
theorem dL_law_1528 : decode cL_law 1528 = .ok (.goto 3, 3) := by decide +kernel
set_option maxHeartbeats 4000000 in
theorem lc_32 {p : Program} {l : Launch} {e : Env} {s : State} {m : MethodId} {below : List Frame} {meth : Method} {c : Code} {b N : Nat} {ii : Int32} {xs : Nat → Int32} {D : va_G} {A : Nat → Prop} {ad : Nat → Nat} {ns : List Nat} {I : MI} {L : ML} {G : MG} {H : Heap} {locs : List Loc} {ls : Array Slot} {cells slots : Nat} (F : LF p s m meth c b N xs D A) (hN : N ≤ 4096) (hi : 0 ≤ ii.toInt ∧ ii.toInt + 8 ≤ N) (hc : cells ≤ 500000) (hs : slots ≤ 5000000) (fw : WD ns I G) (hM : Mem D A ad ns I L G H) (hS : va_S A s.heap H locs) (hl : lv_has ls 4 [(0, .ref (b)), (1, .ref (ad (0))), (2, .ref (ad (1000))), (3, .int (ii))]) (kk : LK p l e s m below meth c b ii D A cells slots) : W p l e room_1 s m #[Value.ref b] below meth c H locs cells slots (lw_Z below #[Value.ref b] s) (F0 m 1508 ls []) := by
  obtain ⟨hx, hb, hml, hown, hts, hX, hbl, hbA, hA, hE⟩ := F
  obtain ⟨hC, hJ, hI, hLM, hRel⟩ := fw
  have hI0 := hI
  have hG := hC.1
  have hL := hC.lws
  have hIm := hC.2.1.ims
  have tii := tn hi.1
  have k0 : (0 : Int32).toInt = 0 := by decide
  have k1 : (1 : Int32).toInt = 1 := by decide
  refine lv_aload_n hx hb dL_law_1508 rfl (lv_at hl 1 rfl) ?_
  refine lv_aload_n hx hb dL_law_1509 rfl (lv_at hl 0 rfl) ?_
  refine lv_iload_n hx hb dL_law_1510 rfl (lv_at hl 3 rfl) ?_
  refine lv_iconst (v := (1)) hx hb dL_law_1511 (by decide) ?_
  refine lv_iadd hx hb dL_law_1512 ?_
  refine lv_topi (fun v1 ev1 => ?_)
  have sv1 := sx 1 ev1 (by decide) (by decide) hi hN
  refine va_sld hx hb hX hbl hbA hS (i := v1) (vp_in_iff.mpr sv1.1) dL_law_1513 ?_
  rw [sv1.2]
  clear sv1
  refine m_calli (m_runV (0) (As := [.int (xs (ii.toNatClampNeg + 1))]) (rest := []) hx hb hml hown hts hE hM hS hA ce_X9_back tb_1168 (V_X9_back_f l D A ad ns I L G (xs (ii.toNatClampNeg + 1)) hG hI hIm) rfl rfl ⟨Nat.le_of_ble_eq_true rfl, Nat.le_of_ble_eq_true rfl⟩ (hG.1 0 (by decide)) rfl rfl (by decide) rfl hl.1 rfl (Nat.le_of_ble_eq_true rfl) dL_law_1514 ⟨(by show _ + _ ≤ 600000; omega), (by show _ + _ ≤ 7302250; omega)⟩) hS (fun r2 u H locs hw hM hS => ?_)
  obtain ⟨I1, L1, rfl, hI, hk1, y1⟩ := hw
  have hM : Mem D A ad ns I1 L1 G H := hM
  replace hC : CW ns I1 G := cw_keep hC (hk1.get 0 14 rfl)
  replace hLM : LWM I1 := hLM.out (hk1.out rfl)
  refine lv_pop hx hb dL_law_1517 rfl ?_
  refine lv_aload_n hx hb dL_law_1518 rfl (lv_at hl 2 rfl) ?_
  refine lv_aload_n hx hb dL_law_1519 rfl (lv_at hl 0 rfl) ?_
  refine lv_iload_n hx hb dL_law_1520 rfl (lv_at hl 3 rfl) ?_
  refine lv_iconst (v := (1)) hx hb dL_law_1521 (by decide) ?_
  refine lv_iadd hx hb dL_law_1522 ?_
  refine lv_topi (fun v3 ev3 => ?_)
  have sv3 := sx 1 ev3 (by decide) (by decide) hi hN
  refine va_sld hx hb hX hbl hbA hS (i := v3) (vp_in_iff.mpr sv3.1) dL_law_1523 ?_
  rw [sv3.2]
  clear sv3
  refine m_calli (m_runV (1000) (As := [.int (xs (ii.toNatClampNeg + 1))]) (rest := []) hx hb hml hown hts hE hM hS hA ce_X10_back tb_1836 (V_X10_back l D A ad ns I1 L1 G (xs (ii.toNatClampNeg + 1)) hJ hI) rfl rfl ⟨Nat.le_of_ble_eq_true rfl, Nat.le_of_ble_eq_true rfl⟩ hJ.1 rfl rfl (by decide) rfl hl.1 rfl (Nat.le_of_ble_eq_true rfl) dL_law_1524 ⟨(by show _ + _ ≤ 600000; omega), (by show _ + _ ≤ 7302250; omega)⟩) hS (fun r4 u H locs hw hM hS => ?_)
  have hI1 := hI
  obtain ⟨I2, L2, rfl, hI, hk2, y2⟩ := hw
  have hM : Mem D A ad ns I2 L2 G H := hM
  replace hC : CW ns I2 G := cw_keep hC (hk2.get 0 14 rfl)
  replace hLM : LWM I2 := hLM.kp hk2 rfl rfl
  refine lv_pop hx hb dL_law_1527 rfl ?_
  refine lv_goto (tgt := 1531) hx hb dL_law_1528 (by decide) ?_
  exact kk ad ns I2 L2 G _ _ _ _ _ (by omega) (by omega) ⟨hC, hJ, hI, hLM, (hRel.back hI0 y1 (hk1.out rfl) (fun n h1 h2 => hk1.apart 100 110 rfl n (by omega)) y2 (fun n hn => hk2.apart 1000 2000 rfl n (by omega)))⟩ hM hS (lv_sub hl [0, 1, 2, 3] rfl)
