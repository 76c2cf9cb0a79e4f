theorem dX10_in_0 : decode cX10_in 0 = .ok (.lload_n 0, 1) := by decide +kernel
theorem dX10_in_1 : decode cX10_in 1 = .ok (.lload_n 2, 1) := by decide +kernel
theorem dX10_in_2 : decode cX10_in 2 = .ok (.lcmp, 1) := by decide +kernel
theorem dX10_in_3 : decode cX10_in 3 = .ok (.ifCond .lt 14, 3) := by decide +kernel
theorem dX10_in_6 : decode cX10_in 6 = .ok (.lload_n 0, 1) := by decide +kernel
theorem dX10_in_7 : decode cX10_in 7 = .ok (.lload 4, 2) := by decide +kernel
theorem dX10_in_9 : decode cX10_in 9 = .ok (.lcmp, 1) := by decide +kernel
theorem dX10_in_10 : decode cX10_in 10 = .ok (.ifCond .gt 7, 3) := by decide +kernel
theorem dX10_in_13 : decode cX10_in 13 = .ok (.iconst 1, 1) := by decide +kernel
theorem dX10_in_14 : decode cX10_in 14 = .ok (.goto 4, 3) := by decide +kernel
theorem dX10_in_17 : decode cX10_in 17 = .ok (.iconst 0, 1) := by decide +kernel
theorem dX10_in_18 : decode cX10_in 18 = .ok (.ireturn, 1) := by decide +kernel
theorem ce_X10_in : CeS yX10_in cX10_in 6 (some .boolean) 3 := ⟨tb_1426, tb_11, tb_1427, by decide, by decide, by decide +kernel⟩
set_option maxHeartbeats 4000000 in
set_option maxRecDepth 20000 in
theorem C_X10_in (l : Launch) (D : va_G) (A : Nat → Prop) (ad : Nat → Nat) (ns : List Nat) (I : MI) (L : ML) (G : MG) (n : Int64) (lo : Int64) (hi : Int64) : Met l yX10_in (wd yX10_in cX10_in 6 (some .boolean)) ({ frames := 0, cells := 0, slots := 0, locals := 0 }) (va_Pc [.long n, .long lo, .long hi] (PM D A ad ns I L G)) (va_Qi (fun r u => u = (ad, ns, I, L, G) ∧ Bo r (lo.toInt ≤ n.toInt ∧ n.toInt ≤ hi.toInt)) (BM D A) A) 0 0 A := by
  refine m_ofW (by decide) (Nat.le_of_ble_eq_true rfl) ?_
  intro p e s m below meth c ls args hC hE hM hA hS hl
  obtain ⟨hx, hb, hml, hown, hts, hr, hlocks, hin⟩ := hC
  have k0 : (0 : Int32).toInt = 0 := by decide
  have k1 : (1 : Int32).toInt = 1 := by decide
  have hl : lv_has ls 6 [(0, .long (n)), (2, .long (lo)), (4, .long (hi))] := hl
  refine lv_lload_n hx hb dX10_in_0 rfl (lv_at hl 0 rfl) ?_
  refine lv_lload_n hx hb dX10_in_1 rfl (lv_at hl 1 rfl) ?_
  refine W.lcmp hx hb dX10_in_2 ?_
  refine lv_if_lt (tgt := 17) hx hb dX10_in_3 (by decide) (fun c1 => ?_) (fun c1 => ?_)
  · have hc1 := c1
    have q1 := l_lt hc1
    refine lv_iconst (v := (0)) hx hb dX10_in_17 (by decide) ?_
    exact m_zret hx hb hr rfl hlocks hM hS (Nat.le_of_ble_eq_true rfl) (Nat.le_of_ble_eq_true rfl) ⟨rfl, Bo.n (by omega)⟩ dX10_in_18
  · have hc1 := c1
    have q1 := l_nlt hc1
    refine lv_lload_n hx hb dX10_in_6 rfl (lv_at hl 0 rfl) ?_
    refine lv_lload hx hb dX10_in_7 (lv_at hl 2 rfl) ?_
    refine W.lcmp hx hb dX10_in_9 ?_
    refine lv_if_gt (tgt := 17) hx hb dX10_in_10 (by decide) (fun c2 => ?_) (fun c2 => ?_)
    · have hc2 := c2
      have q2 := l_gt hc2
      refine lv_iconst (v := (0)) hx hb dX10_in_17 (by decide) ?_
      exact m_zret hx hb hr rfl hlocks hM hS (Nat.le_of_ble_eq_true rfl) (Nat.le_of_ble_eq_true rfl) ⟨rfl, Bo.n (by omega)⟩ dX10_in_18
    · have hc2 := c2
      have q2 := l_ngt hc2
      refine lv_iconst (v := (1)) hx hb dX10_in_13 (by decide) ?_
      refine lv_goto (tgt := 18) hx hb dX10_in_14 (by decide) ?_
      exact m_zret hx hb hr rfl hlocks hM hS (Nat.le_of_ble_eq_true rfl) (Nat.le_of_ble_eq_true rfl) ⟨rfl, Bo.y (by omega)⟩ dX10_in_18
theorem dX10_isTown_0 : decode cX10_isTown 0 = .ok (.aload_n 0, 1) := by decide +kernel
theorem dX10_isTown_1 : decode cX10_isTown 1 = .ok (.getfield 7, 3) := by decide +kernel
theorem dX10_isTown_4 : decode cX10_isTown 4 = .ok (.iconst 0, 1) := by decide +kernel
theorem dX10_isTown_5 : decode cX10_isTown 5 = .ok (.iaload, 1) := by decide +kernel
theorem dX10_isTown_6 : decode cX10_isTown 6 = .ok (.iconst 1, 1) := by decide +kernel
theorem dX10_isTown_7 : decode cX10_isTown 7 = .ok (.if_icmp .ne 7, 3) := by decide +kernel
theorem dX10_isTown_10 : decode cX10_isTown 10 = .ok (.iconst 1, 1) := by decide +kernel
theorem dX10_isTown_11 : decode cX10_isTown 11 = .ok (.goto 4, 3) := by decide +kernel
theorem dX10_isTown_14 : decode cX10_isTown 14 = .ok (.iconst 0, 1) := by decide +kernel
theorem dX10_isTown_15 : decode cX10_isTown 15 = .ok (.ireturn, 1) := by decide +kernel
theorem ce_X10_isTown : CeV RX10 yX10_isTown cX10_isTown 1 (some .boolean) 0 := ⟨tb_1443, tp_58, tb_11, tb_1444, rfl, by decide, by decide, by decide +kernel⟩
set_option maxHeartbeats 4000000 in
set_option maxRecDepth 20000 in
theorem C_X10_isTown (l : Launch) (D : va_G) (A : Nat → Prop) (ad : Nat → Nat) (ns : List Nat) (I : MI) (L : ML) (G : MG) (hJ : SGM ns G) : Met l yX10_isTown (wd yX10_isTown cX10_isTown 1 (some .boolean)) ({ frames := 0, cells := 0, slots := 0, locals := 0 }) (va_Pc [.ref (ad 1000)] (PM D A ad ns I L G)) (va_Qi (fun r u => u = (ad, ns, I, L, G) ∧ Bo r ((I 1001 0).toInt = 1)) (BM D A) A) 0 0 A := by
  refine m_ofW (by decide) (Nat.le_of_ble_eq_true rfl) ?_
  intro p e s m below meth c ls args hC hE hM hA hS hl
  obtain ⟨hx, hb, hml, hown, hts, hr, hlocks, hin⟩ := hC
  have k0 : (0 : Int32).toInt = 0 := by decide
  have k1 : (1 : Int32).toInt = 1 := by decide
  have hl : lv_has ls 1 [(0, .ref (ad (1000)))] := hl
  refine lv_aload_n hx hb dX10_isTown_0 rfl (lv_at hl 0 rfl) ?_
  refine m_getr (1000) 1 (1001) hx hb hts hown hE oc10 hM hJ.1 rfl (by decide) rfl (hJ.2 1 (by decide)).2 (by decide) tb_1178 dX10_isTown_1 ?_
  refine lv_iconst (v := (0)) hx hb dX10_isTown_4 (by decide) ?_
  refine m_iald (1001) hx hb hE hM (hJ.2 1 (by decide)).1 rfl (vp_in_iff.mpr (by decide)) dX10_isTown_5 ?_
  rw [show (0 : Int32).toNatClampNeg = 0 from rfl]
  refine lv_iconst (v := (1)) hx hb dX10_isTown_6 (by decide) ?_
  refine lv_icmp_ne (tgt := 14) hx hb dX10_isTown_7 (by decide) (fun c1 => ?_) (fun c1 => ?_)
  · have hc1 := c1
    have q1 := q_ne hc1
    refine lv_iconst (v := (0)) hx hb dX10_isTown_14 (by decide) ?_
    exact m_zret hx hb hr rfl hlocks hM hS (Nat.le_of_ble_eq_true rfl) (Nat.le_of_ble_eq_true rfl) ⟨rfl, Bo.n (by omega)⟩ dX10_isTown_15
  · have hc1 := c1
    have q1 := q_eq hc1
    refine lv_iconst (v := (1)) hx hb dX10_isTown_10 (by decide) ?_
    refine lv_goto (tgt := 15) hx hb dX10_isTown_11 (by decide) ?_
    exact m_zret hx hb hr rfl hlocks hM hS (Nat.le_of_ble_eq_true rfl) (Nat.le_of_ble_eq_true rfl) ⟨rfl, Bo.y (by omega)⟩ dX10_isTown_15
theorem dX10_isCell_0 : decode cX10_isCell 0 = .ok (.aload_n 0, 1) := by decide +kernel
theorem dX10_isCell_1 : decode cX10_isCell 1 = .ok (.invokevirtual 188, 3) := by decide +kernel
theorem dX10_isCell_4 : decode cX10_isCell 4 = .ok (.ifCond .eq 43, 3) := by decide +kernel
theorem dX10_isCell_47 : decode cX10_isCell 47 = .ok (.iconst 0, 1) := by decide +kernel
theorem dX10_isCell_48 : decode cX10_isCell 48 = .ok (.ireturn, 1) := by decide +kernel
theorem ce_X10_isCell : CeV RX10 yX10_isCell cX10_isCell 3 (some .boolean) 2 := ⟨tb_1439, tp_57, tb_11, tb_1440, rfl, by decide, by decide, by decide +kernel⟩
set_option maxHeartbeats 4000000 in
set_option maxRecDepth 20000 in
theorem F_X10_isCell (l : Launch) (D : va_G) (A : Nat → Prop) (ad : Nat → Nat) (ns : List Nat) (I : MI) (L : ML) (G : MG) (a0 : Int32) (a1 : Int32) (hJ : SGM ns G) (hI : ∀ n k, 1000 ≤ n → n ≠ 1000 ∨ (k ≠ 33 ∧ k ≠ 57) → I n k = 0) : Met l yX10_isCell (wd yX10_isCell cX10_isCell 3 (some .boolean)) ({ frames := 1, cells := 0, slots := 0, locals := 20 }) (va_Pc [.ref (ad 1000), .int a0, .int a1] (PM D A ad ns I L G)) (va_Qi (fun r u => u = (ad, ns, I, L, G) ∧ r = 0) (BM D A) A) 0 0 A := by
  refine m_ofW (by decide) (Nat.le_of_ble_eq_true rfl) ?_
  intro p e s m below meth c ls args hC hE hM hA hS hl
  obtain ⟨hx, hb, hml, hown, hts, hr, hlocks, hin⟩ := hC
  have k0 : (0 : Int32).toInt = 0 := by decide
  have hl : lv_has ls 3 [(0, .ref (ad (1000))), (1, .int (a0)), (2, .int (a1))] := hl
  refine lv_aload_n hx hb dX10_isCell_0 rfl (lv_at hl 0 rfl) ?_
  refine m_calli (m_runV (1000) (As := []) (rest := []) hx hb hml hown hts hE hM hS hA ce_X10_isTown tb_1441 (C_X10_isTown l D A ad ns I L G hJ) rfl rfl ⟨Nat.le_of_ble_eq_true rfl, Nat.le_of_ble_eq_true rfl⟩ hJ.1 rfl rfl (by decide) rfl hl.1 rfl (Nat.le_of_ble_eq_true rfl) dX10_isCell_1 ⟨Nat.le_of_ble_eq_true rfl, Nat.le_of_ble_eq_true rfl⟩) hS (fun r1 u H locs hw hM hS => ?_)
  obtain ⟨rfl, b_r1⟩ := hw
  have hM : Mem D A ad ns I L G H := hM
  obtain rfl : r1 = 0 := b_r1.z (by rw [hI 1001 0 (by decide) (by decide)]; decide)
  refine lv_if_eq (tgt := 47) hx hb dX10_isCell_4 (by decide) (fun c2 => ?_) (fun c2 => ?_)
  · have hc2 := c2
    have q2 := q_eq hc2
    refine lv_iconst (v := (0)) hx hb dX10_isCell_47 (by decide) ?_
    exact m_zret hx hb hr rfl hlocks hM hS (Nat.le_of_ble_eq_true rfl) (Nat.le_of_ble_eq_true rfl) ⟨rfl, rfl⟩ dX10_isCell_48
  · exact absurd c2 (by decide)
theorem dX10_isArea_0 : decode cX10_isArea 0 = .ok (.aload_n 0, 1) := by decide +kernel
theorem dX10_isArea_1 : decode cX10_isArea 1 = .ok (.iload_n 1, 1) := by decide +kernel
theorem dX10_isArea_2 : decode cX10_isArea 2 = .ok (.iload_n 2, 1) := by decide +kernel
theorem dX10_isArea_3 : decode cX10_isArea 3 = .ok (.invokevirtual 196, 3) := by decide +kernel
theorem dX10_isArea_6 : decode cX10_isArea 6 = .ok (.ifCond .eq 28, 3) := by decide +kernel
theorem dX10_isArea_34 : decode cX10_isArea 34 = .ok (.iconst 0, 1) := by decide +kernel
theorem dX10_isArea_35 : decode cX10_isArea 35 = .ok (.ireturn, 1) := by decide +kernel
theorem ce_X10_isArea : CeV RX10 yX10_isArea cX10_isArea 5 (some .boolean) 4 := ⟨tb_1435, tp_56, tb_11, tb_1436, rfl, by decide, by decide, by decide +kernel⟩
set_option maxHeartbeats 4000000 in
set_option maxRecDepth 20000 in
theorem F_X10_isArea (l : Launch) (D : va_G) (A : Nat → Prop) (ad : Nat → Nat) (ns : List Nat) (I : MI) (L : ML) (G : MG) (a0 : Int32) (a1 : Int32) (a2 : Int32) (a3 : Int32) (hJ : SGM ns G) (hI : ∀ n k, 1000 ≤ n → n ≠ 1000 ∨ (k ≠ 33 ∧ k ≠ 57) → I n k = 0) : Met l yX10_isArea (wd yX10_isArea cX10_isArea 5 (some .boolean)) ({ frames := 2, cells := 0, slots := 0, locals := 42 }) (va_Pc [.ref (ad 1000), .int a0, .int a1, .int a2, .int a3] (PM D A ad ns I L G)) (va_Qi (fun r u => u = (ad, ns, I, L, G) ∧ r = 0) (BM D A) A) 0 0 A := by
  refine m_ofW (by decide) (Nat.le_of_ble_eq_true rfl) ?_
  intro p e s m below meth c ls args hC hE hM hA hS hl
  obtain ⟨hx, hb, hml, hown, hts, hr, hlocks, hin⟩ := hC
  have k0 : (0 : Int32).toInt = 0 := by decide
  have hl : lv_has ls 5 [(0, .ref (ad (1000))), (1, .int (a0)), (2, .int (a1)), (3, .int (a2)), (4, .int (a3))] := hl
  refine lv_aload_n hx hb dX10_isArea_0 rfl (lv_at hl 0 rfl) ?_
  refine lv_iload_n hx hb dX10_isArea_1 rfl (lv_at hl 1 rfl) ?_
  refine lv_iload_n hx hb dX10_isArea_2 rfl (lv_at hl 2 rfl) ?_
  refine m_calli (m_runV (1000) (As := [.int (a0), .int (a1)]) (rest := []) hx hb hml hown hts hE hM hS hA ce_X10_isCell tb_1437 (F_X10_isCell l D A ad ns I L G (a0) (a1) hJ hI) rfl rfl ⟨Nat.le_of_ble_eq_true rfl, Nat.le_of_ble_eq_true rfl⟩ hJ.1 rfl rfl (by decide) rfl hl.1 rfl (Nat.le_of_ble_eq_true rfl) dX10_isArea_3 ⟨Nat.le_of_ble_eq_true rfl, Nat.le_of_ble_eq_true rfl⟩) hS (fun r1 u H locs hw hM hS => ?_)
  obtain ⟨rfl, rfl⟩ := hw
  have hM : Mem D A ad ns I L G H := hM
  refine lv_if_eq (tgt := 34) hx hb dX10_isArea_6 (by decide) (fun c2 => ?_) (fun c2 => ?_)
  · have hc2 := c2
    have q2 := q_eq hc2
    refine lv_iconst (v := (0)) hx hb dX10_isArea_34 (by decide) ?_
    exact m_zret hx hb hr rfl hlocks hM hS (Nat.le_of_ble_eq_true rfl) (Nat.le_of_ble_eq_true rfl) ⟨rfl, rfl⟩ dX10_isArea_35
  · exact absurd c2 (by decide)
theorem dX10_isMirror_0 : decode cX10_isMirror 0 = .ok (.aload_n 0, 1) := by decide +kernel
theorem dX10_isMirror_1 : decode cX10_isMirror 1 = .ok (.invokevirtual 188, 3) := by decide +kernel
theorem dX10_isMirror_4 : decode cX10_isMirror 4 = .ok (.ifCond .eq 26, 3) := by decide +kernel
theorem dX10_isMirror_30 : decode cX10_isMirror 30 = .ok (.iconst 0, 1) := by decide +kernel
theorem dX10_isMirror_31 : decode cX10_isMirror 31 = .ok (.ireturn, 1) := by decide +kernel
theorem ce_X10_isMirror : CeV RX10 yX10_isMirror cX10_isMirror 2 (some .boolean) 1 := ⟨tb_1464, tp_59, tb_11, tb_1465, rfl, by decide, by decide, by decide +kernel⟩
set_option maxHeartbeats 4000000 in
set_option maxRecDepth 20000 in
theorem F_X10_isMirror (l : Launch) (D : va_G) (A : Nat → Prop) (ad : Nat → Nat) (ns : List Nat) (I : MI) (L : ML) (G : MG) (a0 : Int32) (hJ : SGM ns G) (hI : ∀ n k, 1000 ≤ n → n ≠ 1000 ∨ (k ≠ 33 ∧ k ≠ 57) → I n k = 0) : Met l yX10_isMirror (wd yX10_isMirror cX10_isMirror 2 (some .boolean)) ({ frames := 1, cells := 0, slots := 0, locals := 20 }) (va_Pc [.ref (ad 1000), .int a0] (PM D A ad ns I L G)) (va_Qi (fun r u => u = (ad, ns, I, L, G) ∧ r = 0) (BM D A) A) 0 0 A := by
  refine m_ofW (by decide) (Nat.le_of_ble_eq_true rfl) ?_
  intro p e s m below meth c ls args hC hE hM hA hS hl
  obtain ⟨hx, hb, hml, hown, hts, hr, hlocks, hin⟩ := hC
  have k0 : (0 : Int32).toInt = 0 := by decide
  have hl : lv_has ls 2 [(0, .ref (ad (1000))), (1, .int (a0))] := hl
  refine lv_aload_n hx hb dX10_isMirror_0 rfl (lv_at hl 0 rfl) ?_
  refine m_calli (m_runV (1000) (As := []) (rest := []) hx hb hml hown hts hE hM hS hA ce_X10_isTown tb_1441 (C_X10_isTown l D A ad ns I L G hJ) rfl rfl ⟨Nat.le_of_ble_eq_true rfl, Nat.le_of_ble_eq_true rfl⟩ hJ.1 rfl rfl (by decide) rfl hl.1 rfl (Nat.le_of_ble_eq_true rfl) dX10_isMirror_1 ⟨Nat.le_of_ble_eq_true rfl, Nat.le_of_ble_eq_true rfl⟩) hS (fun r1 u H locs hw hM hS => ?_)
  obtain ⟨rfl, b_r1⟩ := hw
  have hM : Mem D A ad ns I L G H := hM
  obtain rfl : r1 = 0 := b_r1.z (by rw [hI 1001 0 (by decide) (by decide)]; decide)
  refine lv_if_eq (tgt := 30) hx hb dX10_isMirror_4 (by decide) (fun c2 => ?_) (fun c2 => ?_)
  · have hc2 := c2
    have q2 := q_eq hc2
    refine lv_iconst (v := (0)) hx hb dX10_isMirror_30 (by decide) ?_
    exact m_zret hx hb hr rfl hlocks hM hS (Nat.le_of_ble_eq_true rfl) (Nat.le_of_ble_eq_true rfl) ⟨rfl, rfl⟩ dX10_isMirror_31
  · exact absurd c2 (by decide)
theorem dX10_isYard_0 : decode cX10_isYard 0 = .ok (.aload_n 0, 1) := by decide +kernel
theorem dX10_isYard_1 : decode cX10_isYard 1 = .ok (.invokevirtual 188, 3) := by decide +kernel
theorem dX10_isYard_4 : decode cX10_isYard 4 = .ok (.ifCond .eq 26, 3) := by decide +kernel
theorem dX10_isYard_30 : decode cX10_isYard 30 = .ok (.iconst 0, 1) := by decide +kernel
theorem dX10_isYard_31 : decode cX10_isYard 31 = .ok (.ireturn, 1) := by decide +kernel
theorem ce_X10_isYard : CeV RX10 yX10_isYard cX10_isYard 2 (some .boolean) 1 := ⟨tb_1688, tp_94, tb_11, tb_1689, rfl, by decide, by decide, by decide +kernel⟩
set_option maxHeartbeats 4000000 in
set_option maxRecDepth 20000 in
theorem F_X10_isYard (l : Launch) (D : va_G) (A : Nat → Prop) (ad : Nat → Nat) (ns : List Nat) (I : MI) (L : ML) (G : MG) (a0 : Int32) (hJ : SGM ns G) (hI : ∀ n k, 1000 ≤ n → n ≠ 1000 ∨ (k ≠ 33 ∧ k ≠ 57) → I n k = 0) : Met l yX10_isYard (wd yX10_isYard cX10_isYard 2 (some .boolean)) ({ frames := 1, cells := 0, slots := 0, locals := 20 }) (va_Pc [.ref (ad 1000), .int a0] (PM D A ad ns I L G)) (va_Qi (fun r u => u = (ad, ns, I, L, G) ∧ r = 0) (BM D A) A) 0 0 A := by
  refine m_ofW (by decide) (Nat.le_of_ble_eq_true rfl) ?_
  intro p e s m below meth c ls args hC hE hM hA hS hl
  obtain ⟨hx, hb, hml, hown, hts, hr, hlocks, hin⟩ := hC
  have k0 : (0 : Int32).toInt = 0 := by decide
  have hl : lv_has ls 2 [(0, .ref (ad (1000))), (1, .int (a0))] := hl
  refine lv_aload_n hx hb dX10_isYard_0 rfl (lv_at hl 0 rfl) ?_
  refine m_calli (m_runV (1000) (As := []) (rest := []) hx hb hml hown hts hE hM hS hA ce_X10_isTown tb_1441 (C_X10_isTown l D A ad ns I L G hJ) rfl rfl ⟨Nat.le_of_ble_eq_true rfl, Nat.le_of_ble_eq_true rfl⟩ hJ.1 rfl rfl (by decide) rfl hl.1 rfl (Nat.le_of_ble_eq_true rfl) dX10_isYard_1 ⟨Nat.le_of_ble_eq_true rfl, Nat.le_of_ble_eq_true rfl⟩) hS (fun r1 u H locs hw hM hS => ?_)
  obtain ⟨rfl, b_r1⟩ := hw
  have hM : Mem D A ad ns I L G H := hM
  obtain rfl : r1 = 0 := b_r1.z (by rw [hI 1001 0 (by decide) (by decide)]; decide)
  refine lv_if_eq (tgt := 30) hx hb dX10_isYard_4 (by decide) (fun c2 => ?_) (fun c2 => ?_)
  · have hc2 := c2
    have q2 := q_eq hc2
    refine lv_iconst (v := (0)) hx hb dX10_isYard_30 (by decide) ?_
    exact m_zret hx hb hr rfl hlocks hM hS (Nat.le_of_ble_eq_true rfl) (Nat.le_of_ble_eq_true rfl) ⟨rfl, rfl⟩ dX10_isYard_31
  · exact absurd c2 (by decide)
theorem dX10_isLaw_0 : decode cX10_isLaw 0 = .ok (.aload_n 0, 1) := by decide +kernel
theorem dX10_isLaw_1 : decode cX10_isLaw 1 = .ok (.invokevirtual 188, 3) := by decide +kernel
theorem dX10_isLaw_4 : decode cX10_isLaw 4 = .ok (.ifCond .eq 23, 3) := by decide +kernel
theorem dX10_isLaw_27 : decode cX10_isLaw 27 = .ok (.iconst 0, 1) := by decide +kernel
theorem dX10_isLaw_28 : decode cX10_isLaw 28 = .ok (.ireturn, 1) := by decide +kernel
theorem ce_X10_isLaw : CeV RX10 yX10_isLaw cX10_isLaw 2 (some .boolean) 1 := ⟨tb_1610, tp_80, tb_11, tb_1611, rfl, by decide, by decide, by decide +kernel⟩
set_option maxHeartbeats 4000000 in
set_option maxRecDepth 20000 in
theorem F_X10_isLaw (l : Launch) (D : va_G) (A : Nat → Prop) (ad : Nat → Nat) (ns : List Nat) (I : MI) (L : ML) (G : MG) (a0 : Int32) (hJ : SGM ns G) (hI : ∀ n k, 1000 ≤ n → n ≠ 1000 ∨ (k ≠ 33 ∧ k ≠ 57) → I n k = 0) : Met l yX10_isLaw (wd yX10_isLaw cX10_isLaw 2 (some .boolean)) ({ frames := 1, cells := 0, slots := 0, locals := 20 }) (va_Pc [.ref (ad 1000), .int a0] (PM D A ad ns I L G)) (va_Qi (fun r u => u = (ad, ns, I, L, G) ∧ r = 0) (BM D A) A) 0 0 A := by
  refine m_ofW (by decide) (Nat.le_of_ble_eq_true rfl) ?_
  intro p e s m below meth c ls args hC hE hM hA hS hl
  obtain ⟨hx, hb, hml, hown, hts, hr, hlocks, hin⟩ := hC
  have k0 : (0 : Int32).toInt = 0 := by decide
  have hl : lv_has ls 2 [(0, .ref (ad (1000))), (1, .int (a0))] := hl
  refine lv_aload_n hx hb dX10_isLaw_0 rfl (lv_at hl 0 rfl) ?_
  refine m_calli (m_runV (1000) (As := []) (rest := []) hx hb hml hown hts hE hM hS hA ce_X10_isTown tb_1441 (C_X10_isTown l D A ad ns I L G hJ) rfl rfl ⟨Nat.le_of_ble_eq_true rfl, Nat.le_of_ble_eq_true rfl⟩ hJ.1 rfl rfl (by decide) rfl hl.1 rfl (Nat.le_of_ble_eq_true rfl) dX10_isLaw_1 ⟨Nat.le_of_ble_eq_true rfl, Nat.le_of_ble_eq_true rfl⟩) hS (fun r1 u H locs hw hM hS => ?_)
  obtain ⟨rfl, b_r1⟩ := hw
  have hM : Mem D A ad ns I L G H := hM
  obtain rfl : r1 = 0 := b_r1.z (by rw [hI 1001 0 (by decide) (by decide)]; decide)
  refine lv_if_eq (tgt := 27) hx hb dX10_isLaw_4 (by decide) (fun c2 => ?_) (fun c2 => ?_)
  · have hc2 := c2
    have q2 := q_eq hc2
    refine lv_iconst (v := (0)) hx hb dX10_isLaw_27 (by decide) ?_
    exact m_zret hx hb hr rfl hlocks hM hS (Nat.le_of_ble_eq_true rfl) (Nat.le_of_ble_eq_true rfl) ⟨rfl, rfl⟩ dX10_isLaw_28
  · exact absurd c2 (by decide)
theorem dX10_isBright_0 : decode cX10_isBright 0 = .ok (.aload_n 0, 1) := by decide +kernel
theorem dX10_isBright_1 : decode cX10_isBright 1 = .ok (.invokevirtual 188, 3) := by decide +kernel
theorem dX10_isBright_4 : decode cX10_isBright 4 = .ok (.ifCond .eq 28, 3) := by decide +kernel
theorem dX10_isBright_32 : decode cX10_isBright 32 = .ok (.iconst 0, 1) := by decide +kernel
theorem dX10_isBright_33 : decode cX10_isBright 33 = .ok (.ireturn, 1) := by decide +kernel
theorem ce_X10_isBright : CeV RX10 yX10_isBright cX10_isBright 2 (some .boolean) 1 := ⟨tb_1700, tp_95, tb_11, tb_1701, rfl, by decide, by decide, by decide +kernel⟩
set_option maxHeartbeats 4000000 in
set_option maxRecDepth 20000 in
theorem F_X10_isBright (l : Launch) (D : va_G) (A : Nat → Prop) (ad : Nat → Nat) (ns : List Nat) (I : MI) (L : ML) (G : MG) (a0 : Int32) (hJ : SGM ns G) (hI : ∀ n k, 1000 ≤ n → n ≠ 1000 ∨ (k ≠ 33 ∧ k ≠ 57) → I n k = 0) : Met l yX10_isBright (wd yX10_isBright cX10_isBright 2 (some .boolean)) ({ frames := 1, cells := 0, slots := 0, locals := 20 }) (va_Pc [.ref (ad 1000), .int a0] (PM D A ad ns I L G)) (va_Qi (fun r u => u = (ad, ns, I, L, G) ∧ r = 0) (BM D A) A) 0 0 A := by
  refine m_ofW (by decide) (Nat.le_of_ble_eq_true rfl) ?_
  intro p e s m below meth c ls args hC hE hM hA hS hl
  obtain ⟨hx, hb, hml, hown, hts, hr, hlocks, hin⟩ := hC
  have k0 : (0 : Int32).toInt = 0 := by decide
  have hl : lv_has ls 2 [(0, .ref (ad (1000))), (1, .int (a0))] := hl
  refine lv_aload_n hx hb dX10_isBright_0 rfl (lv_at hl 0 rfl) ?_
  refine m_calli (m_runV (1000) (As := []) (rest := []) hx hb hml hown hts hE hM hS hA ce_X10_isTown tb_1441 (C_X10_isTown l D A ad ns I L G hJ) rfl rfl ⟨Nat.le_of_ble_eq_true rfl, Nat.le_of_ble_eq_true rfl⟩ hJ.1 rfl rfl (by decide) rfl hl.1 rfl (Nat.le_of_ble_eq_true rfl) dX10_isBright_1 ⟨Nat.le_of_ble_eq_true rfl, Nat.le_of_ble_eq_true rfl⟩) hS (fun r1 u H locs hw hM hS => ?_)
  obtain ⟨rfl, b_r1⟩ := hw
  have hM : Mem D A ad ns I L G H := hM
  obtain rfl : r1 = 0 := b_r1.z (by rw [hI 1001 0 (by decide) (by decide)]; decide)
  refine lv_if_eq (tgt := 32) hx hb dX10_isBright_4 (by decide) (fun c2 => ?_) (fun c2 => ?_)
  · have hc2 := c2
    have q2 := q_eq hc2
    refine lv_iconst (v := (0)) hx hb dX10_isBright_32 (by decide) ?_
    exact m_zret hx hb hr rfl hlocks hM hS (Nat.le_of_ble_eq_true rfl) (Nat.le_of_ble_eq_true rfl) ⟨rfl, rfl⟩ dX10_isBright_33
  · exact absurd c2 (by decide)
theorem dX10_rock_0 : decode cX10_rock 0 = .ok (.aload_n 0, 1) := by decide +kernel
theorem dX10_rock_1 : decode cX10_rock 1 = .ok (.iload_n 1, 1) := by decide +kernel
theorem dX10_rock_2 : decode cX10_rock 2 = .ok (.iload_n 2, 1) := by decide +kernel
theorem dX10_rock_3 : decode cX10_rock 3 = .ok (.iload_n 3, 1) := by decide +kernel
theorem dX10_rock_4 : decode cX10_rock 4 = .ok (.iload 4, 2) := by decide +kernel
theorem dX10_rock_6 : decode cX10_rock 6 = .ok (.invokevirtual 206, 3) := by decide +kernel
theorem dX10_rock_9 : decode cX10_rock 9 = .ok (.ifCond .ne 5, 3) := by decide +kernel
theorem dX10_rock_12 : decode cX10_rock 12 = .ok (.iconst (-1), 1) := by decide +kernel
theorem dX10_rock_13 : decode cX10_rock 13 = .ok (.ireturn, 1) := by decide +kernel
theorem ce_X10_rock : CeV RX10 yX10_rock cX10_rock 9 (some .int) 5 := ⟨tb_1430, tb_1431, tb_11, tb_1432, rfl, by decide, by decide, by decide +kernel⟩
set_option maxHeartbeats 4000000 in
set_option maxRecDepth 20000 in
theorem F_X10_rock (l : Launch) (D : va_G) (A : Nat → Prop) (ad : Nat → Nat) (ns : List Nat) (I : MI) (L : ML) (G : MG) (a0 : Int32) (a1 : Int32) (a2 : Int32) (a3 : Int32) (a4 : Int32) (hJ : SGM ns G) (hI : ∀ n k, 1000 ≤ n → n ≠ 1000 ∨ (k ≠ 33 ∧ k ≠ 57) → I n k = 0) : Met l yX10_rock (wd yX10_rock cX10_rock 9 (some .int)) ({ frames := 3, cells := 0, slots := 0, locals := 66 }) (va_Pc [.ref (ad 1000), .int a0, .int a1, .int a2, .int a3, .int a4] (PM D A ad ns I L G)) (va_Qi (fun r u => u = (ad, ns, I, L, G) ∧ r = -1) (BM D A) A) 0 0 A := by
  refine m_ofW (by decide) (Nat.le_of_ble_eq_true rfl) ?_
  intro p e s m below meth c ls args hC hE hM hA hS hl
  obtain ⟨hx, hb, hml, hown, hts, hr, hlocks, hin⟩ := hC
  have km1 : (-1 : Int32).toInt = -1 := by decide
  have k0 : (0 : Int32).toInt = 0 := by decide
  have hl : lv_has ls 9 [(0, .ref (ad (1000))), (1, .int (a0)), (2, .int (a1)), (3, .int (a2)), (4, .int (a3)), (5, .int (a4))] := hl
  refine lv_aload_n hx hb dX10_rock_0 rfl (lv_at hl 0 rfl) ?_
  refine lv_iload_n hx hb dX10_rock_1 rfl (lv_at hl 1 rfl) ?_
  refine lv_iload_n hx hb dX10_rock_2 rfl (lv_at hl 2 rfl) ?_
  refine lv_iload_n hx hb dX10_rock_3 rfl (lv_at hl 3 rfl) ?_
  refine lv_iload hx hb dX10_rock_4 (lv_at hl 4 rfl) ?_
  refine m_calli (m_runV (1000) (As := [.int (a0), .int (a1), .int (a2), .int (a3)]) (rest := []) hx hb hml hown hts hE hM hS hA ce_X10_isArea tb_1433 (F_X10_isArea l D A ad ns I L G (a0) (a1) (a2) (a3) hJ hI) rfl rfl ⟨Nat.le_of_ble_eq_true rfl, Nat.le_of_ble_eq_true rfl⟩ hJ.1 rfl rfl (by decide) rfl hl.1 rfl (Nat.le_of_ble_eq_true rfl) dX10_rock_6 ⟨Nat.le_of_ble_eq_true rfl, Nat.le_of_ble_eq_true rfl⟩) hS (fun r1 u H locs hw hM hS => ?_)
  obtain ⟨rfl, rfl⟩ := hw
  have hM : Mem D A ad ns I L G H := hM
  refine lv_if_ne (tgt := 14) hx hb dX10_rock_9 (by decide) (fun c2 => ?_) (fun c2 => ?_)
  · exact absurd c2 (by decide)
  · have hc2 := c2
    have q2 := q_eq hc2
    refine lv_iconst (v := (-1)) hx hb dX10_rock_12 (by decide) ?_
    exact m_iret hx hb hr hlocks hM hS (Nat.le_of_ble_eq_true rfl) (Nat.le_of_ble_eq_true rfl) ⟨rfl, rfl⟩ dX10_rock_13
theorem dX10_sun_0 : decode cX10_sun 0 = .ok (.iload_n 3, 1) := by decide +kernel
theorem dX10_sun_1 : decode cX10_sun 1 = .ok (.iconst (-1), 1) := by decide +kernel
theorem dX10_sun_2 : decode cX10_sun 2 = .ok (.if_icmp .ne 12, 3) := by decide +kernel
theorem dX10_sun_5 : decode cX10_sun 5 = .ok (.iload 4, 2) := by decide +kernel
theorem dX10_sun_7 : decode cX10_sun 7 = .ok (.ifCond .ne 7, 3) := by decide +kernel
theorem dX10_sun_10 : decode cX10_sun 10 = .ok (.iconst 1, 1) := by decide +kernel
theorem dX10_sun_11 : decode cX10_sun 11 = .ok (.goto 4, 3) := by decide +kernel
theorem dX10_sun_14 : decode cX10_sun 14 = .ok (.iconst 0, 1) := by decide +kernel
theorem dX10_sun_15 : decode cX10_sun 15 = .ok (.istore 5, 2) := by decide +kernel
theorem dX10_sun_17 : decode cX10_sun 17 = .ok (.aload_n 0, 1) := by decide +kernel
theorem dX10_sun_18 : decode cX10_sun 18 = .ok (.invokevirtual 188, 3) := by decide +kernel
theorem dX10_sun_21 : decode cX10_sun 21 = .ok (.ifCond .eq 57, 3) := by decide +kernel
theorem dX10_sun_78 : decode cX10_sun 78 = .ok (.iconst 0, 1) := by decide +kernel
theorem dX10_sun_79 : decode cX10_sun 79 = .ok (.ireturn, 1) := by decide +kernel
theorem ce_X10_sun : CeV RX10 yX10_sun cX10_sun 6 (some .boolean) 4 := ⟨tb_1446, tb_1447, tb_11, tb_1448, rfl, by decide, by decide, by decide +kernel⟩
set_option maxHeartbeats 4000000 in
set_option maxRecDepth 20000 in
theorem F_X10_sun (l : Launch) (D : va_G) (A : Nat → Prop) (ad : Nat → Nat) (ns : List Nat) (I : MI) (L : ML) (G : MG) (a0 : Int32) (a1 : Int32) (a2 : Int32) (a3 : Int32) (hJ : SGM ns G) (hI : ∀ n k, 1000 ≤ n → n ≠ 1000 ∨ (k ≠ 33 ∧ k ≠ 57) → I n k = 0) : Met l yX10_sun (wd yX10_sun cX10_sun 6 (some .boolean)) ({ frames := 1, cells := 0, slots := 0, locals := 20 }) (va_Pc [.ref (ad 1000), .int a0, .int a1, .int a2, .int a3] (PM D A ad ns I L G)) (va_Qi (fun r u => u = (ad, ns, I, L, G) ∧ r = 0) (BM D A) A) 0 0 A := by
  refine m_ofW (by decide) (Nat.le_of_ble_eq_true rfl) ?_
  intro p e s m below meth c ls args hC hE hM hA hS hl
  obtain ⟨hx, hb, hml, hown, hts, hr, hlocks, hin⟩ := hC
  have km1 : (-1 : Int32).toInt = -1 := by decide
  have k0 : (0 : Int32).toInt = 0 := by decide
  have k1 : (1 : Int32).toInt = 1 := by decide
  have hl : lv_has ls 6 [(0, .ref (ad (1000))), (1, .int (a0)), (2, .int (a1)), (3, .int (a2)), (4, .int (a3))] := hl
  refine lv_iload_n hx hb dX10_sun_0 rfl (lv_at hl 3 rfl) ?_
  refine lv_iconst (v := (-1)) hx hb dX10_sun_1 (by decide) ?_
  refine lv_icmp_ne (tgt := 14) hx hb dX10_sun_2 (by decide) (fun c1 => ?_) (fun c1 => ?_)
  · have hc1 := c1
    have q1 := q_ne hc1
    refine lv_iconst (v := (0)) hx hb dX10_sun_14 (by decide) ?_
    refine lv_istore (lv' := [(5, .int (0)), (0, .ref (ad (1000))), (1, .int (a0)), (2, .int (a1)), (3, .int (a2)), (4, .int (a3))]) hx hb dX10_sun_15 hl (by decide) rfl (fun ls hl => ?_)
    refine lv_aload_n hx hb dX10_sun_17 rfl (lv_at hl 1 rfl) ?_
    refine m_calli (m_runV (1000) (As := []) (rest := []) hx hb hml hown hts hE hM hS hA ce_X10_isTown tb_1441 (C_X10_isTown l D A ad ns I L G hJ) rfl rfl ⟨Nat.le_of_ble_eq_true rfl, Nat.le_of_ble_eq_true rfl⟩ hJ.1 rfl rfl (by decide) rfl hl.1 rfl (Nat.le_of_ble_eq_true rfl) dX10_sun_18 ⟨Nat.le_of_ble_eq_true rfl, Nat.le_of_ble_eq_true rfl⟩) hS (fun r2 u H locs hw hM hS => ?_)
    obtain ⟨rfl, b_r2⟩ := hw
    have hM : Mem D A ad ns I L G H := hM
    obtain rfl : r2 = 0 := b_r2.z (by rw [hI 1001 0 (by decide) (by decide)]; decide)
    refine lv_if_eq (tgt := 78) hx hb dX10_sun_21 (by decide) (fun c3 => ?_) (fun c3 => ?_)
    · have hc3 := c3
      have q3 := q_eq hc3
      refine lv_iconst (v := (0)) hx hb dX10_sun_78 (by decide) ?_
      exact m_zret hx hb hr rfl hlocks hM hS (Nat.le_of_ble_eq_true rfl) (Nat.le_of_ble_eq_true rfl) ⟨rfl, rfl⟩ dX10_sun_79
    · exact absurd c3 (by decide)
  · have hc1 := c1
    have q1 := q_eq hc1
    refine lv_iload hx hb dX10_sun_5 (lv_at hl 4 rfl) ?_
    refine lv_if_ne (tgt := 14) hx hb dX10_sun_7 (by decide) (fun c4 => ?_) (fun c4 => ?_)
    · have hc4 := c4
      have q4 := q_ne hc4
      refine lv_iconst (v := (0)) hx hb dX10_sun_14 (by decide) ?_
      refine lv_istore (lv' := [(5, .int (0)), (0, .ref (ad (1000))), (1, .int (a0)), (2, .int (a1)), (3, .int (a2)), (4, .int (a3))]) hx hb dX10_sun_15 hl (by decide) rfl (fun ls hl => ?_)
      refine lv_aload_n hx hb dX10_sun_17 rfl (lv_at hl 1 rfl) ?_
      refine m_calli (m_runV (1000) (As := []) (rest := []) hx hb hml hown hts hE hM hS hA ce_X10_isTown tb_1441 (C_X10_isTown l D A ad ns I L G hJ) rfl rfl ⟨Nat.le_of_ble_eq_true rfl, Nat.le_of_ble_eq_true rfl⟩ hJ.1 rfl rfl (by decide) rfl hl.1 rfl (Nat.le_of_ble_eq_true rfl) dX10_sun_18 ⟨Nat.le_of_ble_eq_true rfl, Nat.le_of_ble_eq_true rfl⟩) hS (fun r5 u H locs hw hM hS => ?_)
      obtain ⟨rfl, b_r5⟩ := hw
      have hM : Mem D A ad ns I L G H := hM
      obtain rfl : r5 = 0 := b_r5.z (by rw [hI 1001 0 (by decide) (by decide)]; decide)
      refine lv_if_eq (tgt := 78) hx hb dX10_sun_21 (by decide) (fun c6 => ?_) (fun c6 => ?_)
      · have hc6 := c6
        have q6 := q_eq hc6
        refine lv_iconst (v := (0)) hx hb dX10_sun_78 (by decide) ?_
        exact m_zret hx hb hr rfl hlocks hM hS (Nat.le_of_ble_eq_true rfl) (Nat.le_of_ble_eq_true rfl) ⟨rfl, rfl⟩ dX10_sun_79
      · exact absurd c6 (by decide)
    · have hc4 := c4
      have q4 := q_eq hc4
      refine lv_iconst (v := (1)) hx hb dX10_sun_10 (by decide) ?_
      refine lv_goto (tgt := 15) hx hb dX10_sun_11 (by decide) ?_
      refine lv_istore (lv' := [(5, .int (1)), (0, .ref (ad (1000))), (1, .int (a0)), (2, .int (a1)), (3, .int (a2)), (4, .int (a3))]) hx hb dX10_sun_15 hl (by decide) rfl (fun ls hl => ?_)
      refine lv_aload_n hx hb dX10_sun_17 rfl (lv_at hl 1 rfl) ?_
      refine m_calli (m_runV (1000) (As := []) (rest := []) hx hb hml hown hts hE hM hS hA ce_X10_isTown tb_1441 (C_X10_isTown l D A ad ns I L G hJ) rfl rfl ⟨Nat.le_of_ble_eq_true rfl, Nat.le_of_ble_eq_true rfl⟩ hJ.1 rfl rfl (by decide) rfl hl.1 rfl (Nat.le_of_ble_eq_true rfl) dX10_sun_18 ⟨Nat.le_of_ble_eq_true rfl, Nat.le_of_ble_eq_true rfl⟩) hS (fun r7 u H locs hw hM hS => ?_)
      obtain ⟨rfl, b_r7⟩ := hw
      have hM : Mem D A ad ns I L G H := hM
      obtain rfl : r7 = 0 := b_r7.z (by rw [hI 1001 0 (by decide) (by decide)]; decide)
      refine lv_if_eq (tgt := 78) hx hb dX10_sun_21 (by decide) (fun c8 => ?_) (fun c8 => ?_)
      · have hc8 := c8
        have q8 := q_eq hc8
        refine lv_iconst (v := (0)) hx hb dX10_sun_78 (by decide) ?_
        exact m_zret hx hb hr rfl hlocks hM hS (Nat.le_of_ble_eq_true rfl) (Nat.le_of_ble_eq_true rfl) ⟨rfl, rfl⟩ dX10_sun_79
      · exact absurd c8 (by decide)
theorem dX10_mirror_0 : decode cX10_mirror 0 = .ok (.aload_n 0, 1) := by decide +kernel
theorem dX10_mirror_1 : decode cX10_mirror 1 = .ok (.getfield 7, 3) := by decide +kernel
theorem dX10_mirror_4 : decode cX10_mirror 4 = .ok (.bipush 8, 2) := by decide +kernel
theorem dX10_mirror_6 : decode cX10_mirror 6 = .ok (.iaload, 1) := by decide +kernel
theorem dX10_mirror_7 : decode cX10_mirror 7 = .ok (.istore 8, 2) := by decide +kernel
theorem dX10_mirror_9 : decode cX10_mirror 9 = .ok (.aload_n 0, 1) := by decide +kernel
theorem dX10_mirror_10 : decode cX10_mirror 10 = .ok (.iload_n 1, 1) := by decide +kernel
theorem dX10_mirror_11 : decode cX10_mirror 11 = .ok (.iload_n 2, 1) := by decide +kernel
theorem dX10_mirror_12 : decode cX10_mirror 12 = .ok (.invokevirtual 196, 3) := by decide +kernel
theorem dX10_mirror_15 : decode cX10_mirror 15 = .ok (.ifCond .eq 89, 3) := by decide +kernel
theorem dX10_mirror_104 : decode cX10_mirror 104 = .ok (.iconst (-1), 1) := by decide +kernel
theorem dX10_mirror_105 : decode cX10_mirror 105 = .ok (.ireturn, 1) := by decide +kernel
theorem ce_X10_mirror : CeV RX10 yX10_mirror cX10_mirror 9 (some .int) 7 := ⟨tb_1454, tb_1455, tb_11, tb_1456, rfl, by decide, by decide, by decide +kernel⟩
set_option maxHeartbeats 4000000 in
set_option maxRecDepth 20000 in
theorem F_X10_mirror (l : Launch) (D : va_G) (A : Nat → Prop) (ad : Nat → Nat) (ns : List Nat) (I : MI) (L : ML) (G : MG) (a0 : Int32) (a1 : Int32) (a2 : Int32) (a3 : Int32) (a4 : Int32) (a5 : Int32) (a6 : Int32) (hJ : SGM ns G) (hI : ∀ n k, 1000 ≤ n → n ≠ 1000 ∨ (k ≠ 33 ∧ k ≠ 57) → I n k = 0) : Met l yX10_mirror (wd yX10_mirror cX10_mirror 9 (some .int)) ({ frames := 2, cells := 0, slots := 0, locals := 42 }) (va_Pc [.ref (ad 1000), .int a0, .int a1, .int a2, .int a3, .int a4, .int a5, .int a6] (PM D A ad ns I L G)) (va_Qi (fun r u => u = (ad, ns, I, L, G) ∧ r = -1) (BM D A) A) 0 0 A := by
  refine m_ofW (by decide) (Nat.le_of_ble_eq_true rfl) ?_
  intro p e s m below meth c ls args hC hE hM hA hS hl
  obtain ⟨hx, hb, hml, hown, hts, hr, hlocks, hin⟩ := hC
  have km1 : (-1 : Int32).toInt = -1 := by decide
  have k0 : (0 : Int32).toInt = 0 := by decide
  have k8 : (8 : Int32).toInt = 8 := by decide
  have hl : lv_has ls 9 [(0, .ref (ad (1000))), (1, .int (a0)), (2, .int (a1)), (3, .int (a2)), (4, .int (a3)), (5, .int (a4)), (6, .int (a5)), (7, .int (a6))] := hl
  refine lv_aload_n hx hb dX10_mirror_0 rfl (lv_at hl 0 rfl) ?_
  refine m_getr (1000) 1 (1001) hx hb hts hown hE oc10 hM hJ.1 rfl (by decide) rfl (hJ.2 1 (by decide)).2 (by decide) tb_1178 dX10_mirror_1 ?_
  refine lv_bipush (v := (8)) hx hb dX10_mirror_4 (by decide) ?_
  refine m_iald (1001) hx hb hE hM (hJ.2 1 (by decide)).1 rfl (vp_in_iff.mpr (by decide)) dX10_mirror_6 ?_
  rw [show (8 : Int32).toNatClampNeg = 8 from rfl]
  refine lv_istore (lv' := [(8, .int (I (1001) 8)), (0, .ref (ad (1000))), (1, .int (a0)), (2, .int (a1)), (3, .int (a2)), (4, .int (a3)), (5, .int (a4)), (6, .int (a5)), (7, .int (a6))]) hx hb dX10_mirror_7 hl (by decide) rfl (fun ls hl => ?_)
  refine lv_aload_n hx hb dX10_mirror_9 rfl (lv_at hl 1 rfl) ?_
  refine lv_iload_n hx hb dX10_mirror_10 rfl (lv_at hl 2 rfl) ?_
  refine lv_iload_n hx hb dX10_mirror_11 rfl (lv_at hl 3 rfl) ?_
  refine m_calli (m_runV (1000) (As := [.int (a0), .int (a1)]) (rest := []) hx hb hml hown hts hE hM hS hA ce_X10_isCell tb_1437 (F_X10_isCell l D A ad ns I L G (a0) (a1) hJ hI) rfl rfl ⟨Nat.le_of_ble_eq_true rfl, Nat.le_of_ble_eq_true rfl⟩ hJ.1 rfl rfl (by decide) rfl hl.1 rfl (Nat.le_of_ble_eq_true rfl) dX10_mirror_12 ⟨Nat.le_of_ble_eq_true rfl, Nat.le_of_ble_eq_true rfl⟩) hS (fun r1 u H locs hw hM hS => ?_)
  obtain ⟨rfl, rfl⟩ := hw
  have hM : Mem D A ad ns I L G H := hM
  refine lv_if_eq (tgt := 104) hx hb dX10_mirror_15 (by decide) (fun c2 => ?_) (fun c2 => ?_)
  · have hc2 := c2
    have q2 := q_eq hc2
    refine lv_iconst (v := (-1)) hx hb dX10_mirror_104 (by decide) ?_
    exact m_iret hx hb hr hlocks hM hS (Nat.le_of_ble_eq_true rfl) (Nat.le_of_ble_eq_true rfl) ⟨rfl, rfl⟩ dX10_mirror_105
  · exact absurd c2 (by decide)
theorem dX10_sets_0 : decode cX10_sets 0 = .ok (.aload_n 0, 1) := by decide +kernel
theorem dX10_sets_1 : decode cX10_sets 1 = .ok (.iload_n 1, 1) := by decide +kernel
theorem dX10_sets_2 : decode cX10_sets 2 = .ok (.invokevirtual 220, 3) := by decide +kernel
theorem dX10_sets_5 : decode cX10_sets 5 = .ok (.ifCond .eq 68, 3) := by decide +kernel
theorem dX10_sets_73 : decode cX10_sets 73 = .ok (.bipush (-2), 2) := by decide +kernel
theorem dX10_sets_75 : decode cX10_sets 75 = .ok (.ireturn, 1) := by decide +kernel
theorem ce_X10_sets : CeV RX10 yX10_sets cX10_sets 5 (some .int) 3 := ⟨tb_1459, tb_1460, tb_11, tb_1461, rfl, by decide, by decide, by decide +kernel⟩
set_option maxHeartbeats 4000000 in
set_option maxRecDepth 20000 in
theorem F_X10_sets (l : Launch) (D : va_G) (A : Nat → Prop) (ad : Nat → Nat) (ns : List Nat) (I : MI) (L : ML) (G : MG) (a0 : Int32) (a1 : Int32) (a2 : Int32) (hJ : SGM ns G) (hI : ∀ n k, 1000 ≤ n → n ≠ 1000 ∨ (k ≠ 33 ∧ k ≠ 57) → I n k = 0) : Met l yX10_sets (wd yX10_sets cX10_sets 5 (some .int)) ({ frames := 2, cells := 0, slots := 0, locals := 41 }) (va_Pc [.ref (ad 1000), .int a0, .int a1, .int a2] (PM D A ad ns I L G)) (va_Qi (fun r u => u = (ad, ns, I, L, G) ∧ r = -2) (BM D A) A) 0 0 A := by
  refine m_ofW (by decide) (Nat.le_of_ble_eq_true rfl) ?_
  intro p e s m below meth c ls args hC hE hM hA hS hl
  obtain ⟨hx, hb, hml, hown, hts, hr, hlocks, hin⟩ := hC
  have km2 : (-2 : Int32).toInt = -2 := by decide
  have k0 : (0 : Int32).toInt = 0 := by decide
  have hl : lv_has ls 5 [(0, .ref (ad (1000))), (1, .int (a0)), (2, .int (a1)), (3, .int (a2))] := hl
  refine lv_aload_n hx hb dX10_sets_0 rfl (lv_at hl 0 rfl) ?_
  refine lv_iload_n hx hb dX10_sets_1 rfl (lv_at hl 1 rfl) ?_
  refine m_calli (m_runV (1000) (As := [.int (a0)]) (rest := []) hx hb hml hown hts hE hM hS hA ce_X10_isMirror tb_1462 (F_X10_isMirror l D A ad ns I L G (a0) hJ hI) rfl rfl ⟨Nat.le_of_ble_eq_true rfl, Nat.le_of_ble_eq_true rfl⟩ hJ.1 rfl rfl (by decide) rfl hl.1 rfl (Nat.le_of_ble_eq_true rfl) dX10_sets_2 ⟨Nat.le_of_ble_eq_true rfl, Nat.le_of_ble_eq_true rfl⟩) hS (fun r1 u H locs hw hM hS => ?_)
  obtain ⟨rfl, rfl⟩ := hw
  have hM : Mem D A ad ns I L G H := hM
  refine lv_if_eq (tgt := 73) hx hb dX10_sets_5 (by decide) (fun c2 => ?_) (fun c2 => ?_)
  · have hc2 := c2
    have q2 := q_eq hc2
    refine lv_bipush (v := (-2)) hx hb dX10_sets_73 (by decide) ?_
    exact m_iret hx hb hr hlocks hM hS (Nat.le_of_ble_eq_true rfl) (Nat.le_of_ble_eq_true rfl) ⟨rfl, rfl⟩ dX10_sets_75
  · exact absurd c2 (by decide)
theorem dX10_yard_0 : decode cX10_yard 0 = .ok (.aload_n 0, 1) := by decide +kernel
theorem dX10_yard_1 : decode cX10_yard 1 = .ok (.getfield 7, 3) := by decide +kernel
theorem dX10_yard_4 : decode cX10_yard 4 = .ok (.bipush 9, 2) := by decide +kernel
theorem dX10_yard_6 : decode cX10_yard 6 = .ok (.iaload, 1) := by decide +kernel
theorem dX10_yard_7 : decode cX10_yard 7 = .ok (.istore 7, 2) := by decide +kernel
theorem dX10_yard_9 : decode cX10_yard 9 = .ok (.aload_n 0, 1) := by decide +kernel
theorem dX10_yard_10 : decode cX10_yard 10 = .ok (.iload_n 1, 1) := by decide +kernel
theorem dX10_yard_11 : decode cX10_yard 11 = .ok (.iload_n 2, 1) := by decide +kernel
theorem dX10_yard_12 : decode cX10_yard 12 = .ok (.iload_n 3, 1) := by decide +kernel
theorem dX10_yard_13 : decode cX10_yard 13 = .ok (.iload 4, 2) := by decide +kernel
theorem dX10_yard_15 : decode cX10_yard 15 = .ok (.invokevirtual 206, 3) := by decide +kernel
theorem dX10_yard_18 : decode cX10_yard 18 = .ok (.ifCond .eq 36, 3) := by decide +kernel
theorem dX10_yard_54 : decode cX10_yard 54 = .ok (.iconst (-1), 1) := by decide +kernel
theorem dX10_yard_55 : decode cX10_yard 55 = .ok (.ireturn, 1) := by decide +kernel
theorem ce_X10_yard : CeV RX10 yX10_yard cX10_yard 8 (some .int) 6 := ⟨tb_1469, tb_1470, tb_11, tb_1471, rfl, by decide, by decide, by decide +kernel⟩
set_option maxHeartbeats 4000000 in
set_option maxRecDepth 20000 in
theorem F_X10_yard (l : Launch) (D : va_G) (A : Nat → Prop) (ad : Nat → Nat) (ns : List Nat) (I : MI) (L : ML) (G : MG) (a0 : Int32) (a1 : Int32) (a2 : Int32) (a3 : Int32) (a4 : Int32) (a5 : Int32) (hJ : SGM ns G) (hI : ∀ n k, 1000 ≤ n → n ≠ 1000 ∨ (k ≠ 33 ∧ k ≠ 57) → I n k = 0) : Met l yX10_yard (wd yX10_yard cX10_yard 8 (some .int)) ({ frames := 3, cells := 0, slots := 0, locals := 66 }) (va_Pc [.ref (ad 1000), .int a0, .int a1, .int a2, .int a3, .int a4, .int a5] (PM D A ad ns I L G)) (va_Qi (fun r u => u = (ad, ns, I, L, G) ∧ r = -1) (BM D A) A) 0 0 A := by
  refine m_ofW (by decide) (Nat.le_of_ble_eq_true rfl) ?_
  intro p e s m below meth c ls args hC hE hM hA hS hl
  obtain ⟨hx, hb, hml, hown, hts, hr, hlocks, hin⟩ := hC
  have km1 : (-1 : Int32).toInt = -1 := by decide
  have k0 : (0 : Int32).toInt = 0 := by decide
  have k9 : (9 : Int32).toInt = 9 := by decide
  have hl : lv_has ls 8 [(0, .ref (ad (1000))), (1, .int (a0)), (2, .int (a1)), (3, .int (a2)), (4, .int (a3)), (5, .int (a4)), (6, .int (a5))] := hl
  refine lv_aload_n hx hb dX10_yard_0 rfl (lv_at hl 0 rfl) ?_
  refine m_getr (1000) 1 (1001) hx hb hts hown hE oc10 hM hJ.1 rfl (by decide) rfl (hJ.2 1 (by decide)).2 (by decide) tb_1178 dX10_yard_1 ?_
  refine lv_bipush (v := (9)) hx hb dX10_yard_4 (by decide) ?_
  refine m_iald (1001) hx hb hE hM (hJ.2 1 (by decide)).1 rfl (vp_in_iff.mpr (by decide)) dX10_yard_6 ?_
  rw [show (9 : Int32).toNatClampNeg = 9 from rfl]
  refine lv_istore (lv' := [(7, .int (I (1001) 9)), (0, .ref (ad (1000))), (1, .int (a0)), (2, .int (a1)), (3, .int (a2)), (4, .int (a3)), (5, .int (a4)), (6, .int (a5))]) hx hb dX10_yard_7 hl (by decide) rfl (fun ls hl => ?_)
  refine lv_aload_n hx hb dX10_yard_9 rfl (lv_at hl 1 rfl) ?_
  refine lv_iload_n hx hb dX10_yard_10 rfl (lv_at hl 2 rfl) ?_
  refine lv_iload_n hx hb dX10_yard_11 rfl (lv_at hl 3 rfl) ?_
  refine lv_iload_n hx hb dX10_yard_12 rfl (lv_at hl 4 rfl) ?_
  refine lv_iload hx hb dX10_yard_13 (lv_at hl 5 rfl) ?_
  refine m_calli (m_runV (1000) (As := [.int (a0), .int (a1), .int (a2), .int (a3)]) (rest := []) hx hb hml hown hts hE hM hS hA ce_X10_isArea tb_1433 (F_X10_isArea l D A ad ns I L G (a0) (a1) (a2) (a3) hJ hI) rfl rfl ⟨Nat.le_of_ble_eq_true rfl, Nat.le_of_ble_eq_true rfl⟩ hJ.1 rfl rfl (by decide) rfl hl.1 rfl (Nat.le_of_ble_eq_true rfl) dX10_yard_15 ⟨Nat.le_of_ble_eq_true rfl, Nat.le_of_ble_eq_true rfl⟩) hS (fun r1 u H locs hw hM hS => ?_)
  obtain ⟨rfl, rfl⟩ := hw
  have hM : Mem D A ad ns I L G H := hM
  refine lv_if_eq (tgt := 54) hx hb dX10_yard_18 (by decide) (fun c2 => ?_) (fun c2 => ?_)
  · have hc2 := c2
    have q2 := q_eq hc2
    refine lv_iconst (v := (-1)) hx hb dX10_yard_54 (by decide) ?_
    exact m_iret hx hb hr hlocks hM hS (Nat.le_of_ble_eq_true rfl) (Nat.le_of_ble_eq_true rfl) ⟨rfl, rfl⟩ dX10_yard_55
  · exact absurd c2 (by decide)
theorem dX10_eyes_0 : decode cX10_eyes 0 = .ok (.aload_n 0, 1) := by decide +kernel
theorem dX10_eyes_1 : decode cX10_eyes 1 = .ok (.iload_n 1, 1) := by decide +kernel
theorem dX10_eyes_2 : decode cX10_eyes 2 = .ok (.iload_n 2, 1) := by decide +kernel
theorem dX10_eyes_3 : decode cX10_eyes 3 = .ok (.invokevirtual 196, 3) := by decide +kernel
theorem dX10_eyes_6 : decode cX10_eyes 6 = .ok (.ifCond .eq 17, 3) := by decide +kernel
theorem dX10_eyes_23 : decode cX10_eyes 23 = .ok (.bipush (-2), 2) := by decide +kernel
theorem dX10_eyes_25 : decode cX10_eyes 25 = .ok (.ireturn, 1) := by decide +kernel
theorem ce_X10_eyes : CeV RX10 yX10_eyes cX10_eyes 5 (some .int) 3 := ⟨tb_1474, tb_1475, tb_11, tb_1476, rfl, by decide, by decide, by decide +kernel⟩
set_option maxHeartbeats 4000000 in
set_option maxRecDepth 20000 in
theorem F_X10_eyes (l : Launch) (D : va_G) (A : Nat → Prop) (ad : Nat → Nat) (ns : List Nat) (I : MI) (L : ML) (G : MG) (a0 : Int32) (a1 : Int32) (a2 : Int32) (hJ : SGM ns G) (hI : ∀ n k, 1000 ≤ n → n ≠ 1000 ∨ (k ≠ 33 ∧ k ≠ 57) → I n k = 0) : Met l yX10_eyes (wd yX10_eyes cX10_eyes 5 (some .int)) ({ frames := 2, cells := 0, slots := 0, locals := 42 }) (va_Pc [.ref (ad 1000), .int a0, .int a1, .int a2] (PM D A ad ns I L G)) (va_Qi (fun r u => u = (ad, ns, I, L, G) ∧ r = -2) (BM D A) A) 0 0 A := by
  refine m_ofW (by decide) (Nat.le_of_ble_eq_true rfl) ?_
  intro p e s m below meth c ls args hC hE hM hA hS hl
  obtain ⟨hx, hb, hml, hown, hts, hr, hlocks, hin⟩ := hC
  have km2 : (-2 : Int32).toInt = -2 := by decide
  have k0 : (0 : Int32).toInt = 0 := by decide
  have hl : lv_has ls 5 [(0, .ref (ad (1000))), (1, .int (a0)), (2, .int (a1)), (3, .int (a2))] := hl
  refine lv_aload_n hx hb dX10_eyes_0 rfl (lv_at hl 0 rfl) ?_
  refine lv_iload_n hx hb dX10_eyes_1 rfl (lv_at hl 1 rfl) ?_
  refine lv_iload_n hx hb dX10_eyes_2 rfl (lv_at hl 2 rfl) ?_
  refine m_calli (m_runV (1000) (As := [.int (a0), .int (a1)]) (rest := []) hx hb hml hown hts hE hM hS hA ce_X10_isCell tb_1437 (F_X10_isCell l D A ad ns I L G (a0) (a1) hJ hI) rfl rfl ⟨Nat.le_of_ble_eq_true rfl, Nat.le_of_ble_eq_true rfl⟩ hJ.1 rfl rfl (by decide) rfl hl.1 rfl (Nat.le_of_ble_eq_true rfl) dX10_eyes_3 ⟨Nat.le_of_ble_eq_true rfl, Nat.le_of_ble_eq_true rfl⟩) hS (fun r1 u H locs hw hM hS => ?_)
  obtain ⟨rfl, rfl⟩ := hw
  have hM : Mem D A ad ns I L G H := hM
  refine lv_if_eq (tgt := 23) hx hb dX10_eyes_6 (by decide) (fun c2 => ?_) (fun c2 => ?_)
  · have hc2 := c2
    have q2 := q_eq hc2
    refine lv_bipush (v := (-2)) hx hb dX10_eyes_23 (by decide) ?_
    exact m_iret hx hb hr hlocks hM hS (Nat.le_of_ble_eq_true rfl) (Nat.le_of_ble_eq_true rfl) ⟨rfl, rfl⟩ dX10_eyes_25
  · exact absurd c2 (by decide)
theorem dX10_month_0 : decode cX10_month 0 = .ok (.aload_n 0, 1) := by decide +kernel
theorem dX10_month_1 : decode cX10_month 1 = .ok (.invokevirtual 188, 3) := by decide +kernel
theorem dX10_month_4 : decode cX10_month 4 = .ok (.ifCond .eq 15, 3) := by decide +kernel
theorem dX10_month_19 : decode cX10_month 19 = .ok (.iconst (-1), 1) := by decide +kernel
theorem dX10_month_20 : decode cX10_month 20 = .ok (.ireturn, 1) := by decide +kernel
theorem ce_X10_month : CeV RX10 yX10_month cX10_month 3 (some .int) 1 := ⟨tb_1478, tb_1479, tb_11, tb_1480, rfl, by decide, by decide, by decide +kernel⟩
set_option maxHeartbeats 4000000 in
set_option maxRecDepth 20000 in
theorem F_X10_month (l : Launch) (D : va_G) (A : Nat → Prop) (ad : Nat → Nat) (ns : List Nat) (I : MI) (L : ML) (G : MG) (a0 : Int32) (hJ : SGM ns G) (hI : ∀ n k, 1000 ≤ n → n ≠ 1000 ∨ (k ≠ 33 ∧ k ≠ 57) → I n k = 0) : Met l yX10_month (wd yX10_month cX10_month 3 (some .int)) ({ frames := 1, cells := 0, slots := 0, locals := 20 }) (va_Pc [.ref (ad 1000), .int a0] (PM D A ad ns I L G)) (va_Qi (fun r u => u = (ad, ns, I, L, G) ∧ r = -1) (BM D A) A) 0 0 A := by
  refine m_ofW (by decide) (Nat.le_of_ble_eq_true rfl) ?_
  intro p e s m below meth c ls args hC hE hM hA hS hl
  obtain ⟨hx, hb, hml, hown, hts, hr, hlocks, hin⟩ := hC
  have km1 : (-1 : Int32).toInt = -1 := by decide
  have k0 : (0 : Int32).toInt = 0 := by decide
  have hl : lv_has ls 3 [(0, .ref (ad (1000))), (1, .int (a0))] := hl
  refine lv_aload_n hx hb dX10_month_0 rfl (lv_at hl 0 rfl) ?_
  refine m_calli (m_runV (1000) (As := []) (rest := []) hx hb hml hown hts hE hM hS hA ce_X10_isTown tb_1441 (C_X10_isTown l D A ad ns I L G hJ) rfl rfl ⟨Nat.le_of_ble_eq_true rfl, Nat.le_of_ble_eq_true rfl⟩ hJ.1 rfl rfl (by decide) rfl hl.1 rfl (Nat.le_of_ble_eq_true rfl) dX10_month_1 ⟨Nat.le_of_ble_eq_true rfl, Nat.le_of_ble_eq_true rfl⟩) hS (fun r1 u H locs hw hM hS => ?_)
  obtain ⟨rfl, b_r1⟩ := hw
  have hM : Mem D A ad ns I L G H := hM
  obtain rfl : r1 = 0 := b_r1.z (by rw [hI 1001 0 (by decide) (by decide)]; decide)
  refine lv_if_eq (tgt := 19) hx hb dX10_month_4 (by decide) (fun c2 => ?_) (fun c2 => ?_)
  · have hc2 := c2
    have q2 := q_eq hc2
    refine lv_iconst (v := (-1)) hx hb dX10_month_19 (by decide) ?_
    exact m_iret hx hb hr hlocks hM hS (Nat.le_of_ble_eq_true rfl) (Nat.le_of_ble_eq_true rfl) ⟨rfl, rfl⟩ dX10_month_20
  · exact absurd c2 (by decide)
theorem dX10_falls_0 : decode cX10_falls 0 = .ok (.aload_n 0, 1) := by decide +kernel
theorem dX10_falls_1 : decode cX10_falls 1 = .ok (.invokevirtual 188, 3) := by decide +kernel
theorem dX10_falls_4 : decode cX10_falls 4 = .ok (.ifCond .eq 15, 3) := by decide +kernel
theorem dX10_falls_19 : decode cX10_falls 19 = .ok (.iconst (-1), 1) := by decide +kernel
theorem dX10_falls_20 : decode cX10_falls 20 = .ok (.ireturn, 1) := by decide +kernel
theorem ce_X10_falls : CeV RX10 yX10_falls cX10_falls 3 (some .int) 1 := ⟨tb_1482, tb_1483, tb_11, tb_1484, rfl, by decide, by decide, by decide +kernel⟩
set_option maxHeartbeats 4000000 in
set_option maxRecDepth 20000 in
theorem F_X10_falls (l : Launch) (D : va_G) (A : Nat → Prop) (ad : Nat → Nat) (ns : List Nat) (I : MI) (L : ML) (G : MG) (a0 : Int32) (hJ : SGM ns G) (hI : ∀ n k, 1000 ≤ n → n ≠ 1000 ∨ (k ≠ 33 ∧ k ≠ 57) → I n k = 0) : Met l yX10_falls (wd yX10_falls cX10_falls 3 (some .int)) ({ frames := 1, cells := 0, slots := 0, locals := 20 }) (va_Pc [.ref (ad 1000), .int a0] (PM D A ad ns I L G)) (va_Qi (fun r u => u = (ad, ns, I, L, G) ∧ r = -1) (BM D A) A) 0 0 A := by
  refine m_ofW (by decide) (Nat.le_of_ble_eq_true rfl) ?_
  intro p e s m below meth c ls args hC hE hM hA hS hl
  obtain ⟨hx, hb, hml, hown, hts, hr, hlocks, hin⟩ := hC
  have km1 : (-1 : Int32).toInt = -1 := by decide
  have k0 : (0 : Int32).toInt = 0 := by decide
  have hl : lv_has ls 3 [(0, .ref (ad (1000))), (1, .int (a0))] := hl
  refine lv_aload_n hx hb dX10_falls_0 rfl (lv_at hl 0 rfl) ?_
  refine m_calli (m_runV (1000) (As := []) (rest := []) hx hb hml hown hts hE hM hS hA ce_X10_isTown tb_1441 (C_X10_isTown l D A ad ns I L G hJ) rfl rfl ⟨Nat.le_of_ble_eq_true rfl, Nat.le_of_ble_eq_true rfl⟩ hJ.1 rfl rfl (by decide) rfl hl.1 rfl (Nat.le_of_ble_eq_true rfl) dX10_falls_1 ⟨Nat.le_of_ble_eq_true rfl, Nat.le_of_ble_eq_true rfl⟩) hS (fun r1 u H locs hw hM hS => ?_)
  obtain ⟨rfl, b_r1⟩ := hw
  have hM : Mem D A ad ns I L G H := hM
  obtain rfl : r1 = 0 := b_r1.z (by rw [hI 1001 0 (by decide) (by decide)]; decide)
  refine lv_if_eq (tgt := 19) hx hb dX10_falls_4 (by decide) (fun c2 => ?_) (fun c2 => ?_)
  · have hc2 := c2
    have q2 := q_eq hc2
    refine lv_iconst (v := (-1)) hx hb dX10_falls_19 (by decide) ?_
    exact m_iret hx hb hr hlocks hM hS (Nat.le_of_ble_eq_true rfl) (Nat.le_of_ble_eq_true rfl) ⟨rfl, rfl⟩ dX10_falls_20
  · exact absurd c2 (by decide)
theorem dX10_days_0 : decode cX10_days 0 = .ok (.aload_n 0, 1) := by decide +kernel
theorem dX10_days_1 : decode cX10_days 1 = .ok (.iload_n 1, 1) := by decide +kernel
theorem dX10_days_2 : decode cX10_days 2 = .ok (.invokevirtual 458, 3) := by decide +kernel
theorem dX10_days_5 : decode cX10_days 5 = .ok (.ifCond .eq 30, 3) := by decide +kernel
theorem dX10_days_35 : decode cX10_days 35 = .ok (.iconst (-1), 1) := by decide +kernel
theorem dX10_days_36 : decode cX10_days 36 = .ok (.ireturn, 1) := by decide +kernel
theorem ce_X10_days : CeV RX10 yX10_days cX10_days 4 (some .int) 2 := ⟨tb_1605, tb_1606, tb_11, tb_1607, rfl, by decide, by decide, by decide +kernel⟩
set_option maxHeartbeats 4000000 in
set_option maxRecDepth 20000 in
theorem F_X10_days (l : Launch) (D : va_G) (A : Nat → Prop) (ad : Nat → Nat) (ns : List Nat) (I : MI) (L : ML) (G : MG) (a0 : Int32) (a1 : Int32) (hJ : SGM ns G) (hI : ∀ n k, 1000 ≤ n → n ≠ 1000 ∨ (k ≠ 33 ∧ k ≠ 57) → I n k = 0) : Met l yX10_days (wd yX10_days cX10_days 4 (some .int)) ({ frames := 2, cells := 0, slots := 0, locals := 41 }) (va_Pc [.ref (ad 1000), .int a0, .int a1] (PM D A ad ns I L G)) (va_Qi (fun r u => u = (ad, ns, I, L, G) ∧ r = -1) (BM D A) A) 0 0 A := by
  refine m_ofW (by decide) (Nat.le_of_ble_eq_true rfl) ?_
  intro p e s m below meth c ls args hC hE hM hA hS hl
  obtain ⟨hx, hb, hml, hown, hts, hr, hlocks, hin⟩ := hC
  have km1 : (-1 : Int32).toInt = -1 := by decide
  have k0 : (0 : Int32).toInt = 0 := by decide
  have hl : lv_has ls 4 [(0, .ref (ad (1000))), (1, .int (a0)), (2, .int (a1))] := hl
  refine lv_aload_n hx hb dX10_days_0 rfl (lv_at hl 0 rfl) ?_
  refine lv_iload_n hx hb dX10_days_1 rfl (lv_at hl 1 rfl) ?_
  refine m_calli (m_runV (1000) (As := [.int (a0)]) (rest := []) hx hb hml hown hts hE hM hS hA ce_X10_isLaw tb_1608 (F_X10_isLaw l D A ad ns I L G (a0) hJ hI) rfl rfl ⟨Nat.le_of_ble_eq_true rfl, Nat.le_of_ble_eq_true rfl⟩ hJ.1 rfl rfl (by decide) rfl hl.1 rfl (Nat.le_of_ble_eq_true rfl) dX10_days_2 ⟨Nat.le_of_ble_eq_true rfl, Nat.le_of_ble_eq_true rfl⟩) hS (fun r1 u H locs hw hM hS => ?_)
  obtain ⟨rfl, rfl⟩ := hw
  have hM : Mem D A ad ns I L G H := hM
  refine lv_if_eq (tgt := 35) hx hb dX10_days_5 (by decide) (fun c2 => ?_) (fun c2 => ?_)
  · have hc2 := c2
    have q2 := q_eq hc2
    refine lv_iconst (v := (-1)) hx hb dX10_days_35 (by decide) ?_
    exact m_iret hx hb hr hlocks hM hS (Nat.le_of_ble_eq_true rfl) (Nat.le_of_ble_eq_true rfl) ⟨rfl, rfl⟩ dX10_days_36
  · exact absurd c2 (by decide)
theorem dX10_mirrors_0 : decode cX10_mirrors 0 = .ok (.aload_n 0, 1) := by decide +kernel
theorem dX10_mirrors_1 : decode cX10_mirrors 1 = .ok (.iload_n 1, 1) := by decide +kernel
theorem dX10_mirrors_2 : decode cX10_mirrors 2 = .ok (.invokevirtual 220, 3) := by decide +kernel
theorem dX10_mirrors_5 : decode cX10_mirrors 5 = .ok (.ifCond .ne 6, 3) := by decide +kernel
theorem dX10_mirrors_8 : decode cX10_mirrors 8 = .ok (.bipush (-2), 2) := by decide +kernel
theorem dX10_mirrors_10 : decode cX10_mirrors 10 = .ok (.ireturn, 1) := by decide +kernel
theorem ce_X10_mirrors : CeV RX10 yX10_mirrors cX10_mirrors 3 (some .int) 2 := ⟨tb_1679, tb_1680, tb_11, tb_1681, rfl, by decide, by decide, by decide +kernel⟩
set_option maxHeartbeats 4000000 in
set_option maxRecDepth 20000 in
theorem F_X10_mirrors (l : Launch) (D : va_G) (A : Nat → Prop) (ad : Nat → Nat) (ns : List Nat) (I : MI) (L : ML) (G : MG) (a0 : Int32) (a1 : Int32) (hJ : SGM ns G) (hI : ∀ n k, 1000 ≤ n → n ≠ 1000 ∨ (k ≠ 33 ∧ k ≠ 57) → I n k = 0) : Met l yX10_mirrors (wd yX10_mirrors cX10_mirrors 3 (some .int)) ({ frames := 2, cells := 0, slots := 0, locals := 41 }) (va_Pc [.ref (ad 1000), .int a0, .int a1] (PM D A ad ns I L G)) (va_Qi (fun r u => u = (ad, ns, I, L, G) ∧ r = -2) (BM D A) A) 0 0 A := by
  refine m_ofW (by decide) (Nat.le_of_ble_eq_true rfl) ?_
  intro p e s m below meth c ls args hC hE hM hA hS hl
  obtain ⟨hx, hb, hml, hown, hts, hr, hlocks, hin⟩ := hC
  have km2 : (-2 : Int32).toInt = -2 := by decide
  have k0 : (0 : Int32).toInt = 0 := by decide
  have hl : lv_has ls 3 [(0, .ref (ad (1000))), (1, .int (a0)), (2, .int (a1))] := hl
  refine lv_aload_n hx hb dX10_mirrors_0 rfl (lv_at hl 0 rfl) ?_
  refine lv_iload_n hx hb dX10_mirrors_1 rfl (lv_at hl 1 rfl) ?_
  refine m_calli (m_runV (1000) (As := [.int (a0)]) (rest := []) hx hb hml hown hts hE hM hS hA ce_X10_isMirror tb_1462 (F_X10_isMirror l D A ad ns I L G (a0) hJ hI) rfl rfl ⟨Nat.le_of_ble_eq_true rfl, Nat.le_of_ble_eq_true rfl⟩ hJ.1 rfl rfl (by decide) rfl hl.1 rfl (Nat.le_of_ble_eq_true rfl) dX10_mirrors_2 ⟨Nat.le_of_ble_eq_true rfl, Nat.le_of_ble_eq_true rfl⟩) hS (fun r1 u H locs hw hM hS => ?_)
  obtain ⟨rfl, rfl⟩ := hw
  have hM : Mem D A ad ns I L G H := hM
  refine lv_if_ne (tgt := 11) hx hb dX10_mirrors_5 (by decide) (fun c2 => ?_) (fun c2 => ?_)
  · exact absurd c2 (by decide)
  · have hc2 := c2
    have q2 := q_eq hc2
    refine lv_bipush (v := (-2)) hx hb dX10_mirrors_8 (by decide) ?_
    exact m_iret hx hb hr hlocks hM hS (Nat.le_of_ble_eq_true rfl) (Nat.le_of_ble_eq_true rfl) ⟨rfl, rfl⟩ dX10_mirrors_10
theorem dX10_yards_0 : decode cX10_yards 0 = .ok (.aload_n 0, 1) := by decide +kernel
theorem dX10_yards_1 : decode cX10_yards 1 = .ok (.iload_n 1, 1) := by decide +kernel
theorem dX10_yards_2 : decode cX10_yards 2 = .ok (.invokevirtual 469, 3) := by decide +kernel
theorem dX10_yards_5 : decode cX10_yards 5 = .ok (.ifCond .ne 5, 3) := by decide +kernel
theorem dX10_yards_8 : decode cX10_yards 8 = .ok (.iconst (-1), 1) := by decide +kernel
theorem dX10_yards_9 : decode cX10_yards 9 = .ok (.ireturn, 1) := by decide +kernel
theorem ce_X10_yards : CeV RX10 yX10_yards cX10_yards 3 (some .int) 2 := ⟨tb_1683, tb_1684, tb_11, tb_1685, rfl, by decide, by decide, by decide +kernel⟩
set_option maxHeartbeats 4000000 in
set_option maxRecDepth 20000 in
theorem F_X10_yards (l : Launch) (D : va_G) (A : Nat → Prop) (ad : Nat → Nat) (ns : List Nat) (I : MI) (L : ML) (G : MG) (a0 : Int32) (a1 : Int32) (hJ : SGM ns G) (hI : ∀ n k, 1000 ≤ n → n ≠ 1000 ∨ (k ≠ 33 ∧ k ≠ 57) → I n k = 0) : Met l yX10_yards (wd yX10_yards cX10_yards 3 (some .int)) ({ frames := 2, cells := 0, slots := 0, locals := 41 }) (va_Pc [.ref (ad 1000), .int a0, .int a1] (PM D A ad ns I L G)) (va_Qi (fun r u => u = (ad, ns, I, L, G) ∧ r = -1) (BM D A) A) 0 0 A := by
  refine m_ofW (by decide) (Nat.le_of_ble_eq_true rfl) ?_
  intro p e s m below meth c ls args hC hE hM hA hS hl
  obtain ⟨hx, hb, hml, hown, hts, hr, hlocks, hin⟩ := hC
  have km1 : (-1 : Int32).toInt = -1 := by decide
  have k0 : (0 : Int32).toInt = 0 := by decide
  have hl : lv_has ls 3 [(0, .ref (ad (1000))), (1, .int (a0)), (2, .int (a1))] := hl
  refine lv_aload_n hx hb dX10_yards_0 rfl (lv_at hl 0 rfl) ?_
  refine lv_iload_n hx hb dX10_yards_1 rfl (lv_at hl 1 rfl) ?_
  refine m_calli (m_runV (1000) (As := [.int (a0)]) (rest := []) hx hb hml hown hts hE hM hS hA ce_X10_isYard tb_1686 (F_X10_isYard l D A ad ns I L G (a0) hJ hI) rfl rfl ⟨Nat.le_of_ble_eq_true rfl, Nat.le_of_ble_eq_true rfl⟩ hJ.1 rfl rfl (by decide) rfl hl.1 rfl (Nat.le_of_ble_eq_true rfl) dX10_yards_2 ⟨Nat.le_of_ble_eq_true rfl, Nat.le_of_ble_eq_true rfl⟩) hS (fun r1 u H locs hw hM hS => ?_)
  obtain ⟨rfl, rfl⟩ := hw
  have hM : Mem D A ad ns I L G H := hM
  refine lv_if_ne (tgt := 10) hx hb dX10_yards_5 (by decide) (fun c2 => ?_) (fun c2 => ?_)
  · exact absurd c2 (by decide)
  · have hc2 := c2
    have q2 := q_eq hc2
    refine lv_iconst (v := (-1)) hx hb dX10_yards_8 (by decide) ?_
    exact m_iret hx hb hr hlocks hM hS (Nat.le_of_ble_eq_true rfl) (Nat.le_of_ble_eq_true rfl) ⟨rfl, rfl⟩ dX10_yards_9
theorem dX10_cell_0 : decode cX10_cell 0 = .ok (.aload_n 0, 1) := by decide +kernel
theorem dX10_cell_1 : decode cX10_cell 1 = .ok (.iload_n 1, 1) := by decide +kernel
theorem dX10_cell_2 : decode cX10_cell 2 = .ok (.iload_n 2, 1) := by decide +kernel
theorem dX10_cell_3 : decode cX10_cell 3 = .ok (.invokevirtual 196, 3) := by decide +kernel
theorem dX10_cell_6 : decode cX10_cell 6 = .ok (.ifCond .eq 15, 3) := by decide +kernel
theorem dX10_cell_21 : decode cX10_cell 21 = .ok (.bipush (-2), 2) := by decide +kernel
theorem dX10_cell_23 : decode cX10_cell 23 = .ok (.ireturn, 1) := by decide +kernel
theorem ce_X10_cell : CeV RX10 yX10_cell cX10_cell 5 (some .int) 3 := ⟨tb_1691, tb_1692, tb_11, tb_1693, rfl, by decide, by decide, by decide +kernel⟩
set_option maxHeartbeats 4000000 in
set_option maxRecDepth 20000 in
theorem F_X10_cell (l : Launch) (D : va_G) (A : Nat → Prop) (ad : Nat → Nat) (ns : List Nat) (I : MI) (L : ML) (G : MG) (a0 : Int32) (a1 : Int32) (a2 : Int32) (hJ : SGM ns G) (hI : ∀ n k, 1000 ≤ n → n ≠ 1000 ∨ (k ≠ 33 ∧ k ≠ 57) → I n k = 0) : Met l yX10_cell (wd yX10_cell cX10_cell 5 (some .int)) ({ frames := 2, cells := 0, slots := 0, locals := 42 }) (va_Pc [.ref (ad 1000), .int a0, .int a1, .int a2] (PM D A ad ns I L G)) (va_Qi (fun r u => u = (ad, ns, I, L, G) ∧ r = -2) (BM D A) A) 0 0 A := by
  refine m_ofW (by decide) (Nat.le_of_ble_eq_true rfl) ?_
  intro p e s m below meth c ls args hC hE hM hA hS hl
  obtain ⟨hx, hb, hml, hown, hts, hr, hlocks, hin⟩ := hC
  have km2 : (-2 : Int32).toInt = -2 := by decide
  have k0 : (0 : Int32).toInt = 0 := by decide
  have hl : lv_has ls 5 [(0, .ref (ad (1000))), (1, .int (a0)), (2, .int (a1)), (3, .int (a2))] := hl
  refine lv_aload_n hx hb dX10_cell_0 rfl (lv_at hl 0 rfl) ?_
  refine lv_iload_n hx hb dX10_cell_1 rfl (lv_at hl 1 rfl) ?_
  refine lv_iload_n hx hb dX10_cell_2 rfl (lv_at hl 2 rfl) ?_
  refine m_calli (m_runV (1000) (As := [.int (a0), .int (a1)]) (rest := []) hx hb hml hown hts hE hM hS hA ce_X10_isCell tb_1437 (F_X10_isCell l D A ad ns I L G (a0) (a1) hJ hI) rfl rfl ⟨Nat.le_of_ble_eq_true rfl, Nat.le_of_ble_eq_true rfl⟩ hJ.1 rfl rfl (by decide) rfl hl.1 rfl (Nat.le_of_ble_eq_true rfl) dX10_cell_3 ⟨Nat.le_of_ble_eq_true rfl, Nat.le_of_ble_eq_true rfl⟩) hS (fun r1 u H locs hw hM hS => ?_)
  obtain ⟨rfl, rfl⟩ := hw
  have hM : Mem D A ad ns I L G H := hM
  refine lv_if_eq (tgt := 21) hx hb dX10_cell_6 (by decide) (fun c2 => ?_) (fun c2 => ?_)
  · have hc2 := c2
    have q2 := q_eq hc2
    refine lv_bipush (v := (-2)) hx hb dX10_cell_21 (by decide) ?_
    exact m_iret hx hb hr hlocks hM hS (Nat.le_of_ble_eq_true rfl) (Nat.le_of_ble_eq_true rfl) ⟨rfl, rfl⟩ dX10_cell_23
  · exact absurd c2 (by decide)
theorem dX10_gets_0 : decode cX10_gets 0 = .ok (.aload_n 0, 1) := by decide +kernel
theorem dX10_gets_1 : decode cX10_gets 1 = .ok (.iload_n 1, 1) := by decide +kernel
theorem dX10_gets_2 : decode cX10_gets 2 = .ok (.invokevirtual 472, 3) := by decide +kernel
theorem dX10_gets_5 : decode cX10_gets 5 = .ok (.ifCond .eq 11, 3) := by decide +kernel
theorem dX10_gets_16 : decode cX10_gets 16 = .ok (.iconst (-1), 1) := by decide +kernel
theorem dX10_gets_17 : decode cX10_gets 17 = .ok (.ireturn, 1) := by decide +kernel
theorem ce_X10_gets : CeV RX10 yX10_gets cX10_gets 3 (some .int) 2 := ⟨tb_1695, tb_1696, tb_11, tb_1697, rfl, by decide, by decide, by decide +kernel⟩
set_option maxHeartbeats 4000000 in
set_option maxRecDepth 20000 in
theorem F_X10_gets (l : Launch) (D : va_G) (A : Nat → Prop) (ad : Nat → Nat) (ns : List Nat) (I : MI) (L : ML) (G : MG) (a0 : Int32) (a1 : Int32) (hJ : SGM ns G) (hI : ∀ n k, 1000 ≤ n → n ≠ 1000 ∨ (k ≠ 33 ∧ k ≠ 57) → I n k = 0) : Met l yX10_gets (wd yX10_gets cX10_gets 3 (some .int)) ({ frames := 2, cells := 0, slots := 0, locals := 41 }) (va_Pc [.ref (ad 1000), .int a0, .int a1] (PM D A ad ns I L G)) (va_Qi (fun r u => u = (ad, ns, I, L, G) ∧ r = -1) (BM D A) A) 0 0 A := by
  refine m_ofW (by decide) (Nat.le_of_ble_eq_true rfl) ?_
  intro p e s m below meth c ls args hC hE hM hA hS hl
  obtain ⟨hx, hb, hml, hown, hts, hr, hlocks, hin⟩ := hC
  have km1 : (-1 : Int32).toInt = -1 := by decide
  have k0 : (0 : Int32).toInt = 0 := by decide
  have hl : lv_has ls 3 [(0, .ref (ad (1000))), (1, .int (a0)), (2, .int (a1))] := hl
  refine lv_aload_n hx hb dX10_gets_0 rfl (lv_at hl 0 rfl) ?_
  refine lv_iload_n hx hb dX10_gets_1 rfl (lv_at hl 1 rfl) ?_
  refine m_calli (m_runV (1000) (As := [.int (a0)]) (rest := []) hx hb hml hown hts hE hM hS hA ce_X10_isBright tb_1698 (F_X10_isBright l D A ad ns I L G (a0) hJ hI) rfl rfl ⟨Nat.le_of_ble_eq_true rfl, Nat.le_of_ble_eq_true rfl⟩ hJ.1 rfl rfl (by decide) rfl hl.1 rfl (Nat.le_of_ble_eq_true rfl) dX10_gets_2 ⟨Nat.le_of_ble_eq_true rfl, Nat.le_of_ble_eq_true rfl⟩) hS (fun r1 u H locs hw hM hS => ?_)
  obtain ⟨rfl, rfl⟩ := hw
  have hM : Mem D A ad ns I L G H := hM
  refine lv_if_eq (tgt := 16) hx hb dX10_gets_5 (by decide) (fun c2 => ?_) (fun c2 => ?_)
  · have hc2 := c2
    have q2 := q_eq hc2
    refine lv_iconst (v := (-1)) hx hb dX10_gets_16 (by decide) ?_
    exact m_iret hx hb hr hlocks hM hS (Nat.le_of_ble_eq_true rfl) (Nat.le_of_ble_eq_true rfl) ⟨rfl, rfl⟩ dX10_gets_17
  · exact absurd c2 (by decide)
theorem dX10_light_0 : decode cX10_light 0 = .ok (.aload_n 0, 1) := by decide +kernel
theorem dX10_light_1 : decode cX10_light 1 = .ok (.iload_n 1, 1) := by decide +kernel
theorem dX10_light_2 : decode cX10_light 2 = .ok (.invokevirtual 472, 3) := by decide +kernel
theorem dX10_light_5 : decode cX10_light 5 = .ok (.ifCond .eq 15, 3) := by decide +kernel
theorem dX10_light_20 : decode cX10_light 20 = .ok (.iconst (-1), 1) := by decide +kernel
theorem dX10_light_21 : decode cX10_light 21 = .ok (.ireturn, 1) := by decide +kernel
theorem ce_X10_light : CeV RX10 yX10_light cX10_light 3 (some .int) 2 := ⟨tb_1703, tb_1704, tb_11, tb_1705, rfl, by decide, by decide, by decide +kernel⟩
set_option maxHeartbeats 4000000 in
set_option maxRecDepth 20000 in
theorem F_X10_light (l : Launch) (D : va_G) (A : Nat → Prop) (ad : Nat → Nat) (ns : List Nat) (I : MI) (L : ML) (G : MG) (a0 : Int32) (a1 : Int32) (hJ : SGM ns G) (hI : ∀ n k, 1000 ≤ n → n ≠ 1000 ∨ (k ≠ 33 ∧ k ≠ 57) → I n k = 0) : Met l yX10_light (wd yX10_light cX10_light 3 (some .int)) ({ frames := 2, cells := 0, slots := 0, locals := 41 }) (va_Pc [.ref (ad 1000), .int a0, .int a1] (PM D A ad ns I L G)) (va_Qi (fun r u => u = (ad, ns, I, L, G) ∧ r = -1) (BM D A) A) 0 0 A := by
  refine m_ofW (by decide) (Nat.le_of_ble_eq_true rfl) ?_
  intro p e s m below meth c ls args hC hE hM hA hS hl
  obtain ⟨hx, hb, hml, hown, hts, hr, hlocks, hin⟩ := hC
  have km1 : (-1 : Int32).toInt = -1 := by decide
  have k0 : (0 : Int32).toInt = 0 := by decide
  have hl : lv_has ls 3 [(0, .ref (ad (1000))), (1, .int (a0)), (2, .int (a1))] := hl
  refine lv_aload_n hx hb dX10_light_0 rfl (lv_at hl 0 rfl) ?_
  refine lv_iload_n hx hb dX10_light_1 rfl (lv_at hl 1 rfl) ?_
  refine m_calli (m_runV (1000) (As := [.int (a0)]) (rest := []) hx hb hml hown hts hE hM hS hA ce_X10_isBright tb_1698 (F_X10_isBright l D A ad ns I L G (a0) hJ hI) rfl rfl ⟨Nat.le_of_ble_eq_true rfl, Nat.le_of_ble_eq_true rfl⟩ hJ.1 rfl rfl (by decide) rfl hl.1 rfl (Nat.le_of_ble_eq_true rfl) dX10_light_2 ⟨Nat.le_of_ble_eq_true rfl, Nat.le_of_ble_eq_true rfl⟩) hS (fun r1 u H locs hw hM hS => ?_)
  obtain ⟨rfl, rfl⟩ := hw
  have hM : Mem D A ad ns I L G H := hM
  refine lv_if_eq (tgt := 20) hx hb dX10_light_5 (by decide) (fun c2 => ?_) (fun c2 => ?_)
  · have hc2 := c2
    have q2 := q_eq hc2
    refine lv_iconst (v := (-1)) hx hb dX10_light_20 (by decide) ?_
    exact m_iret hx hb hr hlocks hM hS (Nat.le_of_ble_eq_true rfl) (Nat.le_of_ble_eq_true rfl) ⟨rfl, rfl⟩ dX10_light_21
  · exact absurd c2 (by decide)
theorem dX10_passes_0 : decode cX10_passes 0 = .ok (.aload_n 0, 1) := by decide +kernel
theorem dX10_passes_1 : decode cX10_passes 1 = .ok (.iload_n 1, 1) := by decide +kernel
theorem dX10_passes_2 : decode cX10_passes 2 = .ok (.invokevirtual 472, 3) := by decide +kernel
theorem dX10_passes_5 : decode cX10_passes 5 = .ok (.ifCond .eq 12, 3) := by decide +kernel
theorem dX10_passes_17 : decode cX10_passes 17 = .ok (.iconst (-1), 1) := by decide +kernel
theorem dX10_passes_18 : decode cX10_passes 18 = .ok (.ireturn, 1) := by decide +kernel
theorem ce_X10_passes : CeV RX10 yX10_passes cX10_passes 4 (some .int) 3 := ⟨tb_1716, tb_1717, tb_11, tb_1718, rfl, by decide, by decide, by decide +kernel⟩
set_option maxHeartbeats 4000000 in
set_option maxRecDepth 20000 in
theorem F_X10_passes (l : Launch) (D : va_G) (A : Nat → Prop) (ad : Nat → Nat) (ns : List Nat) (I : MI) (L : ML) (G : MG) (a0 : Int32) (a1 : Int32) (a2 : Int32) (hJ : SGM ns G) (hI : ∀ n k, 1000 ≤ n → n ≠ 1000 ∨ (k ≠ 33 ∧ k ≠ 57) → I n k = 0) : Met l yX10_passes (wd yX10_passes cX10_passes 4 (some .int)) ({ frames := 2, cells := 0, slots := 0, locals := 41 }) (va_Pc [.ref (ad 1000), .int a0, .int a1, .int a2] (PM D A ad ns I L G)) (va_Qi (fun r u => u = (ad, ns, I, L, G) ∧ r = -1) (BM D A) A) 0 0 A := by
  refine m_ofW (by decide) (Nat.le_of_ble_eq_true rfl) ?_
  intro p e s m below meth c ls args hC hE hM hA hS hl
  obtain ⟨hx, hb, hml, hown, hts, hr, hlocks, hin⟩ := hC
  have km1 : (-1 : Int32).toInt = -1 := by decide
  have k0 : (0 : Int32).toInt = 0 := by decide
  have hl : lv_has ls 4 [(0, .ref (ad (1000))), (1, .int (a0)), (2, .int (a1)), (3, .int (a2))] := hl
  refine lv_aload_n hx hb dX10_passes_0 rfl (lv_at hl 0 rfl) ?_
  refine lv_iload_n hx hb dX10_passes_1 rfl (lv_at hl 1 rfl) ?_
  refine m_calli (m_runV (1000) (As := [.int (a0)]) (rest := []) hx hb hml hown hts hE hM hS hA ce_X10_isBright tb_1698 (F_X10_isBright l D A ad ns I L G (a0) hJ hI) rfl rfl ⟨Nat.le_of_ble_eq_true rfl, Nat.le_of_ble_eq_true rfl⟩ hJ.1 rfl rfl (by decide) rfl hl.1 rfl (Nat.le_of_ble_eq_true rfl) dX10_passes_2 ⟨Nat.le_of_ble_eq_true rfl, Nat.le_of_ble_eq_true rfl⟩) hS (fun r1 u H locs hw hM hS => ?_)
  obtain ⟨rfl, rfl⟩ := hw
  have hM : Mem D A ad ns I L G H := hM
  refine lv_if_eq (tgt := 17) hx hb dX10_passes_5 (by decide) (fun c2 => ?_) (fun c2 => ?_)
  · have hc2 := c2
    have q2 := q_eq hc2
    refine lv_iconst (v := (-1)) hx hb dX10_passes_17 (by decide) ?_
    exact m_iret hx hb hr hlocks hM hS (Nat.le_of_ble_eq_true rfl) (Nat.le_of_ble_eq_true rfl) ⟨rfl, rfl⟩ dX10_passes_18
  · exact absurd c2 (by decide)
theorem dX10_sees_0 : decode cX10_sees 0 = .ok (.aload_n 0, 1) := by decide +kernel
theorem dX10_sees_1 : decode cX10_sees 1 = .ok (.iload_n 1, 1) := by decide +kernel
theorem dX10_sees_2 : decode cX10_sees 2 = .ok (.invokevirtual 472, 3) := by decide +kernel
theorem dX10_sees_5 : decode cX10_sees 5 = .ok (.ifCond .eq 11, 3) := by decide +kernel
theorem dX10_sees_16 : decode cX10_sees 16 = .ok (.iconst (-1), 1) := by decide +kernel
theorem dX10_sees_17 : decode cX10_sees 17 = .ok (.ireturn, 1) := by decide +kernel
theorem ce_X10_sees : CeV RX10 yX10_sees cX10_sees 6 (some .int) 2 := ⟨tb_1720, tb_1721, tb_11, tb_1722, rfl, by decide, by decide, by decide +kernel⟩
set_option maxHeartbeats 4000000 in
set_option maxRecDepth 20000 in
theorem F_X10_sees (l : Launch) (D : va_G) (A : Nat → Prop) (ad : Nat → Nat) (ns : List Nat) (I : MI) (L : ML) (G : MG) (a0 : Int32) (a1 : Int32) (hJ : SGM ns G) (hI : ∀ n k, 1000 ≤ n → n ≠ 1000 ∨ (k ≠ 33 ∧ k ≠ 57) → I n k = 0) : Met l yX10_sees (wd yX10_sees cX10_sees 6 (some .int)) ({ frames := 2, cells := 0, slots := 0, locals := 41 }) (va_Pc [.ref (ad 1000), .int a0, .int a1] (PM D A ad ns I L G)) (va_Qi (fun r u => u = (ad, ns, I, L, G) ∧ r = -1) (BM D A) A) 0 0 A := by
  refine m_ofW (by decide) (Nat.le_of_ble_eq_true rfl) ?_
  intro p e s m below meth c ls args hC hE hM hA hS hl
  obtain ⟨hx, hb, hml, hown, hts, hr, hlocks, hin⟩ := hC
  have km1 : (-1 : Int32).toInt = -1 := by decide
  have k0 : (0 : Int32).toInt = 0 := by decide
  have hl : lv_has ls 6 [(0, .ref (ad (1000))), (1, .int (a0)), (2, .int (a1))] := hl
  refine lv_aload_n hx hb dX10_sees_0 rfl (lv_at hl 0 rfl) ?_
  refine lv_iload_n hx hb dX10_sees_1 rfl (lv_at hl 1 rfl) ?_
  refine m_calli (m_runV (1000) (As := [.int (a0)]) (rest := []) hx hb hml hown hts hE hM hS hA ce_X10_isBright tb_1698 (F_X10_isBright l D A ad ns I L G (a0) hJ hI) rfl rfl ⟨Nat.le_of_ble_eq_true rfl, Nat.le_of_ble_eq_true rfl⟩ hJ.1 rfl rfl (by decide) rfl hl.1 rfl (Nat.le_of_ble_eq_true rfl) dX10_sees_2 ⟨Nat.le_of_ble_eq_true rfl, Nat.le_of_ble_eq_true rfl⟩) hS (fun r1 u H locs hw hM hS => ?_)
  obtain ⟨rfl, rfl⟩ := hw
  have hM : Mem D A ad ns I L G H := hM
  refine lv_if_eq (tgt := 16) hx hb dX10_sees_5 (by decide) (fun c2 => ?_) (fun c2 => ?_)
  · have hc2 := c2
    have q2 := q_eq hc2
    refine lv_iconst (v := (-1)) hx hb dX10_sees_16 (by decide) ?_
    exact m_iret hx hb hr hlocks hM hS (Nat.le_of_ble_eq_true rfl) (Nat.le_of_ble_eq_true rfl) ⟨rfl, rfl⟩ dX10_sees_17
  · exact absurd c2 (by decide)
theorem dX10_worth_0 : decode cX10_worth 0 = .ok (.aload_n 0, 1) := by decide +kernel
theorem dX10_worth_1 : decode cX10_worth 1 = .ok (.iload_n 1, 1) := by decide +kernel
theorem dX10_worth_2 : decode cX10_worth 2 = .ok (.invokevirtual 472, 3) := by decide +kernel
theorem dX10_worth_5 : decode cX10_worth 5 = .ok (.ifCond .eq 11, 3) := by decide +kernel
theorem dX10_worth_16 : decode cX10_worth 16 = .ok (.ldc_w 487, 3) := by decide +kernel
theorem dX10_worth_19 : decode cX10_worth 19 = .ok (.ireturn, 1) := by decide +kernel
theorem ce_X10_worth : CeV RX10 yX10_worth cX10_worth 5 (some .int) 2 := ⟨tb_1727, tb_1728, tb_11, tb_1729, rfl, by decide, by decide, by decide +kernel⟩
set_option maxHeartbeats 4000000 in
set_option maxRecDepth 20000 in
theorem F_X10_worth (l : Launch) (D : va_G) (A : Nat → Prop) (ad : Nat → Nat) (ns : List Nat) (I : MI) (L : ML) (G : MG) (a0 : Int32) (a1 : Int32) (hJ : SGM ns G) (hI : ∀ n k, 1000 ≤ n → n ≠ 1000 ∨ (k ≠ 33 ∧ k ≠ 57) → I n k = 0) : Met l yX10_worth (wd yX10_worth cX10_worth 5 (some .int)) ({ frames := 2, cells := 0, slots := 0, locals := 41 }) (va_Pc [.ref (ad 1000), .int a0, .int a1] (PM D A ad ns I L G)) (va_Qi (fun r u => u = (ad, ns, I, L, G) ∧ r = -1000000) (BM D A) A) 0 0 A := by
  refine m_ofW (by decide) (Nat.le_of_ble_eq_true rfl) ?_
  intro p e s m below meth c ls args hC hE hM hA hS hl
  obtain ⟨hx, hb, hml, hown, hts, hr, hlocks, hin⟩ := hC
  have km1000000 : (-1000000 : Int32).toInt = -1000000 := by decide
  have k0 : (0 : Int32).toInt = 0 := by decide
  have hl : lv_has ls 5 [(0, .ref (ad (1000))), (1, .int (a0)), (2, .int (a1))] := hl
  refine lv_aload_n hx hb dX10_worth_0 rfl (lv_at hl 0 rfl) ?_
  refine lv_iload_n hx hb dX10_worth_1 rfl (lv_at hl 1 rfl) ?_
  refine m_calli (m_runV (1000) (As := [.int (a0)]) (rest := []) hx hb hml hown hts hE hM hS hA ce_X10_isBright tb_1698 (F_X10_isBright l D A ad ns I L G (a0) hJ hI) rfl rfl ⟨Nat.le_of_ble_eq_true rfl, Nat.le_of_ble_eq_true rfl⟩ hJ.1 rfl rfl (by decide) rfl hl.1 rfl (Nat.le_of_ble_eq_true rfl) dX10_worth_2 ⟨Nat.le_of_ble_eq_true rfl, Nat.le_of_ble_eq_true rfl⟩) hS (fun r1 u H locs hw hM hS => ?_)
  obtain ⟨rfl, rfl⟩ := hw
  have hM : Mem D A ad ns I L G H := hM
  refine lv_if_eq (tgt := 16) hx hb dX10_worth_5 (by decide) (fun c2 => ?_) (fun c2 => ?_)
  · have hc2 := c2
    have q2 := q_eq hc2
    refine lv_ldcw (v := (-1000000)) hx hb hown (hts _ tb_1730) dX10_worth_16 ?_
    exact m_iret hx hb hr hlocks hM hS (Nat.le_of_ble_eq_true rfl) (Nat.le_of_ble_eq_true rfl) ⟨rfl, rfl⟩ dX10_worth_19
  · exact absurd c2 (by decide)
theorem dX10_owned_0 : decode cX10_owned 0 = .ok (.aload_n 0, 1) := by decide +kernel
theorem dX10_owned_1 : decode cX10_owned 1 = .ok (.iload_n 1, 1) := by decide +kernel
theorem dX10_owned_2 : decode cX10_owned 2 = .ok (.invokevirtual 472, 3) := by decide +kernel
theorem dX10_owned_5 : decode cX10_owned 5 = .ok (.ifCond .eq 15, 3) := by decide +kernel
theorem dX10_owned_20 : decode cX10_owned 20 = .ok (.ldc_w 487, 3) := by decide +kernel
theorem dX10_owned_23 : decode cX10_owned 23 = .ok (.ireturn, 1) := by decide +kernel
theorem ce_X10_owned : CeV RX10 yX10_owned cX10_owned 5 (some .int) 2 := ⟨tb_1732, tb_1733, tb_11, tb_1734, rfl, by decide, by decide, by decide +kernel⟩
set_option maxHeartbeats 4000000 in
set_option maxRecDepth 20000 in
theorem F_X10_owned (l : Launch) (D : va_G) (A : Nat → Prop) (ad : Nat → Nat) (ns : List Nat) (I : MI) (L : ML) (G : MG) (a0 : Int32) (a1 : Int32) (hJ : SGM ns G) (hI : ∀ n k, 1000 ≤ n → n ≠ 1000 ∨ (k ≠ 33 ∧ k ≠ 57) → I n k = 0) : Met l yX10_owned (wd yX10_owned cX10_owned 5 (some .int)) ({ frames := 2, cells := 0, slots := 0, locals := 41 }) (va_Pc [.ref (ad 1000), .int a0, .int a1] (PM D A ad ns I L G)) (va_Qi (fun r u => u = (ad, ns, I, L, G) ∧ r = -1000000) (BM D A) A) 0 0 A := by
  refine m_ofW (by decide) (Nat.le_of_ble_eq_true rfl) ?_
  intro p e s m below meth c ls args hC hE hM hA hS hl
  obtain ⟨hx, hb, hml, hown, hts, hr, hlocks, hin⟩ := hC
  have km1000000 : (-1000000 : Int32).toInt = -1000000 := by decide
  have k0 : (0 : Int32).toInt = 0 := by decide
  have hl : lv_has ls 5 [(0, .ref (ad (1000))), (1, .int (a0)), (2, .int (a1))] := hl
  refine lv_aload_n hx hb dX10_owned_0 rfl (lv_at hl 0 rfl) ?_
  refine lv_iload_n hx hb dX10_owned_1 rfl (lv_at hl 1 rfl) ?_
  refine m_calli (m_runV (1000) (As := [.int (a0)]) (rest := []) hx hb hml hown hts hE hM hS hA ce_X10_isBright tb_1698 (F_X10_isBright l D A ad ns I L G (a0) hJ hI) rfl rfl ⟨Nat.le_of_ble_eq_true rfl, Nat.le_of_ble_eq_true rfl⟩ hJ.1 rfl rfl (by decide) rfl hl.1 rfl (Nat.le_of_ble_eq_true rfl) dX10_owned_2 ⟨Nat.le_of_ble_eq_true rfl, Nat.le_of_ble_eq_true rfl⟩) hS (fun r1 u H locs hw hM hS => ?_)
  obtain ⟨rfl, rfl⟩ := hw
  have hM : Mem D A ad ns I L G H := hM
  refine lv_if_eq (tgt := 20) hx hb dX10_owned_5 (by decide) (fun c2 => ?_) (fun c2 => ?_)
  · have hc2 := c2
    have q2 := q_eq hc2
    refine lv_ldcw (v := (-1000000)) hx hb hown (hts _ tb_1730) dX10_owned_20 ?_
    exact m_iret hx hb hr hlocks hM hS (Nat.le_of_ble_eq_true rfl) (Nat.le_of_ble_eq_true rfl) ⟨rfl, rfl⟩ dX10_owned_23
  · exact absurd c2 (by decide)
theorem dX10_aim_0 : decode cX10_aim 0 = .ok (.aload_n 0, 1) := by decide +kernel
theorem dX10_aim_1 : decode cX10_aim 1 = .ok (.iload_n 1, 1) := by decide +kernel
theorem dX10_aim_2 : decode cX10_aim 2 = .ok (.invokevirtual 472, 3) := by decide +kernel
theorem dX10_aim_5 : decode cX10_aim 5 = .ok (.ifCond .eq 38, 3) := by decide +kernel
theorem dX10_aim_43 : decode cX10_aim 43 = .ok (.iconst (-1), 1) := by decide +kernel
theorem dX10_aim_44 : decode cX10_aim 44 = .ok (.ireturn, 1) := by decide +kernel
theorem ce_X10_aim : CeV RX10 yX10_aim cX10_aim 6 (some .int) 4 := ⟨tb_1736, tb_1737, tb_11, tb_1738, rfl, by decide, by decide, by decide +kernel⟩
set_option maxHeartbeats 4000000 in
set_option maxRecDepth 20000 in
theorem F_X10_aim (l : Launch) (D : va_G) (A : Nat → Prop) (ad : Nat → Nat) (ns : List Nat) (I : MI) (L : ML) (G : MG) (a0 : Int32) (a1 : Int32) (a2 : Int32) (a3 : Int32) (hJ : SGM ns G) (hI : ∀ n k, 1000 ≤ n → n ≠ 1000 ∨ (k ≠ 33 ∧ k ≠ 57) → I n k = 0) : Met l yX10_aim (wd yX10_aim cX10_aim 6 (some .int)) ({ frames := 2, cells := 0, slots := 0, locals := 41 }) (va_Pc [.ref (ad 1000), .int a0, .int a1, .int a2, .int a3] (PM D A ad ns I L G)) (va_Qi (fun r u => u = (ad, ns, I, L, G) ∧ r = -1) (BM D A) A) 0 0 A := by
  refine m_ofW (by decide) (Nat.le_of_ble_eq_true rfl) ?_
  intro p e s m below meth c ls args hC hE hM hA hS hl
  obtain ⟨hx, hb, hml, hown, hts, hr, hlocks, hin⟩ := hC
  have km1 : (-1 : Int32).toInt = -1 := by decide
  have k0 : (0 : Int32).toInt = 0 := by decide
  have hl : lv_has ls 6 [(0, .ref (ad (1000))), (1, .int (a0)), (2, .int (a1)), (3, .int (a2)), (4, .int (a3))] := hl
  refine lv_aload_n hx hb dX10_aim_0 rfl (lv_at hl 0 rfl) ?_
  refine lv_iload_n hx hb dX10_aim_1 rfl (lv_at hl 1 rfl) ?_
  refine m_calli (m_runV (1000) (As := [.int (a0)]) (rest := []) hx hb hml hown hts hE hM hS hA ce_X10_isBright tb_1698 (F_X10_isBright l D A ad ns I L G (a0) hJ hI) rfl rfl ⟨Nat.le_of_ble_eq_true rfl, Nat.le_of_ble_eq_true rfl⟩ hJ.1 rfl rfl (by decide) rfl hl.1 rfl (Nat.le_of_ble_eq_true rfl) dX10_aim_2 ⟨Nat.le_of_ble_eq_true rfl, Nat.le_of_ble_eq_true rfl⟩) hS (fun r1 u H locs hw hM hS => ?_)
  obtain ⟨rfl, rfl⟩ := hw
  have hM : Mem D A ad ns I L G H := hM
  refine lv_if_eq (tgt := 43) hx hb dX10_aim_5 (by decide) (fun c2 => ?_) (fun c2 => ?_)
  · have hc2 := c2
    have q2 := q_eq hc2
    refine lv_iconst (v := (-1)) hx hb dX10_aim_43 (by decide) ?_
    exact m_iret hx hb hr hlocks hM hS (Nat.le_of_ble_eq_true rfl) (Nat.le_of_ble_eq_true rfl) ⟨rfl, rfl⟩ dX10_aim_44
  · exact absurd c2 (by decide)
theorem dX10_fair_0 : decode cX10_fair 0 = .ok (.aload_n 0, 1) := by decide +kernel
theorem dX10_fair_1 : decode cX10_fair 1 = .ok (.iload_n 1, 1) := by decide +kernel
theorem dX10_fair_2 : decode cX10_fair 2 = .ok (.invokevirtual 472, 3) := by decide +kernel
theorem dX10_fair_5 : decode cX10_fair 5 = .ok (.ifCond .eq 39, 3) := by decide +kernel
theorem dX10_fair_44 : decode cX10_fair 44 = .ok (.iconst (-1), 1) := by decide +kernel
theorem dX10_fair_45 : decode cX10_fair 45 = .ok (.ireturn, 1) := by decide +kernel
theorem ce_X10_fair : CeV RX10 yX10_fair cX10_fair 5 (some .int) 3 := ⟨tb_1758, tb_1759, tb_11, tb_1760, rfl, by decide, by decide, by decide +kernel⟩
set_option maxHeartbeats 4000000 in
set_option maxRecDepth 20000 in
theorem F_X10_fair (l : Launch) (D : va_G) (A : Nat → Prop) (ad : Nat → Nat) (ns : List Nat) (I : MI) (L : ML) (G : MG) (a0 : Int32) (a1 : Int32) (a2 : Int32) (hJ : SGM ns G) (hI : ∀ n k, 1000 ≤ n → n ≠ 1000 ∨ (k ≠ 33 ∧ k ≠ 57) → I n k = 0) : Met l yX10_fair (wd yX10_fair cX10_fair 5 (some .int)) ({ frames := 2, cells := 0, slots := 0, locals := 41 }) (va_Pc [.ref (ad 1000), .int a0, .int a1, .int a2] (PM D A ad ns I L G)) (va_Qi (fun r u => u = (ad, ns, I, L, G) ∧ r = -1) (BM D A) A) 0 0 A := by
  refine m_ofW (by decide) (Nat.le_of_ble_eq_true rfl) ?_
  intro p e s m below meth c ls args hC hE hM hA hS hl
  obtain ⟨hx, hb, hml, hown, hts, hr, hlocks, hin⟩ := hC
  have km1 : (-1 : Int32).toInt = -1 := by decide
  have k0 : (0 : Int32).toInt = 0 := by decide
  have hl : lv_has ls 5 [(0, .ref (ad (1000))), (1, .int (a0)), (2, .int (a1)), (3, .int (a2))] := hl
  refine lv_aload_n hx hb dX10_fair_0 rfl (lv_at hl 0 rfl) ?_
  refine lv_iload_n hx hb dX10_fair_1 rfl (lv_at hl 1 rfl) ?_
  refine m_calli (m_runV (1000) (As := [.int (a0)]) (rest := []) hx hb hml hown hts hE hM hS hA ce_X10_isBright tb_1698 (F_X10_isBright l D A ad ns I L G (a0) hJ hI) rfl rfl ⟨Nat.le_of_ble_eq_true rfl, Nat.le_of_ble_eq_true rfl⟩ hJ.1 rfl rfl (by decide) rfl hl.1 rfl (Nat.le_of_ble_eq_true rfl) dX10_fair_2 ⟨Nat.le_of_ble_eq_true rfl, Nat.le_of_ble_eq_true rfl⟩) hS (fun r1 u H locs hw hM hS => ?_)
  obtain ⟨rfl, rfl⟩ := hw
  have hM : Mem D A ad ns I L G H := hM
  refine lv_if_eq (tgt := 44) hx hb dX10_fair_5 (by decide) (fun c2 => ?_) (fun c2 => ?_)
  · have hc2 := c2
    have q2 := q_eq hc2
    refine lv_iconst (v := (-1)) hx hb dX10_fair_44 (by decide) ?_
    exact m_iret hx hb hr hlocks hM hS (Nat.le_of_ble_eq_true rfl) (Nat.le_of_ble_eq_true rfl) ⟨rfl, rfl⟩ dX10_fair_45
  · exact absurd c2 (by decide)
theorem dX10_mends_0 : decode cX10_mends 0 = .ok (.aload_n 0, 1) := by decide +kernel
theorem dX10_mends_1 : decode cX10_mends 1 = .ok (.iload_n 1, 1) := by decide +kernel
theorem dX10_mends_2 : decode cX10_mends 2 = .ok (.invokevirtual 472, 3) := by decide +kernel
theorem dX10_mends_5 : decode cX10_mends 5 = .ok (.ifCond .eq 23, 3) := by decide +kernel
theorem dX10_mends_28 : decode cX10_mends 28 = .ok (.iconst (-1), 1) := by decide +kernel
theorem dX10_mends_29 : decode cX10_mends 29 = .ok (.ireturn, 1) := by decide +kernel
theorem ce_X10_mends : CeV RX10 yX10_mends cX10_mends 5 (some .int) 3 := ⟨tb_1762, tb_1763, tb_11, tb_1764, rfl, by decide, by decide, by decide +kernel⟩
set_option maxHeartbeats 4000000 in
set_option maxRecDepth 20000 in
theorem F_X10_mends (l : Launch) (D : va_G) (A : Nat → Prop) (ad : Nat → Nat) (ns : List Nat) (I : MI) (L : ML) (G : MG) (a0 : Int32) (a1 : Int32) (a2 : Int32) (hJ : SGM ns G) (hI : ∀ n k, 1000 ≤ n → n ≠ 1000 ∨ (k ≠ 33 ∧ k ≠ 57) → I n k = 0) : Met l yX10_mends (wd yX10_mends cX10_mends 5 (some .int)) ({ frames := 2, cells := 0, slots := 0, locals := 41 }) (va_Pc [.ref (ad 1000), .int a0, .int a1, .int a2] (PM D A ad ns I L G)) (va_Qi (fun r u => u = (ad, ns, I, L, G) ∧ r = -1) (BM D A) A) 0 0 A := by
  refine m_ofW (by decide) (Nat.le_of_ble_eq_true rfl) ?_
  intro p e s m below meth c ls args hC hE hM hA hS hl
  obtain ⟨hx, hb, hml, hown, hts, hr, hlocks, hin⟩ := hC
  have km1 : (-1 : Int32).toInt = -1 := by decide
  have k0 : (0 : Int32).toInt = 0 := by decide
  have hl : lv_has ls 5 [(0, .ref (ad (1000))), (1, .int (a0)), (2, .int (a1)), (3, .int (a2))] := hl
  refine lv_aload_n hx hb dX10_mends_0 rfl (lv_at hl 0 rfl) ?_
  refine lv_iload_n hx hb dX10_mends_1 rfl (lv_at hl 1 rfl) ?_
  refine m_calli (m_runV (1000) (As := [.int (a0)]) (rest := []) hx hb hml hown hts hE hM hS hA ce_X10_isBright tb_1698 (F_X10_isBright l D A ad ns I L G (a0) hJ hI) rfl rfl ⟨Nat.le_of_ble_eq_true rfl, Nat.le_of_ble_eq_true rfl⟩ hJ.1 rfl rfl (by decide) rfl hl.1 rfl (Nat.le_of_ble_eq_true rfl) dX10_mends_2 ⟨Nat.le_of_ble_eq_true rfl, Nat.le_of_ble_eq_true rfl⟩) hS (fun r1 u H locs hw hM hS => ?_)
  obtain ⟨rfl, rfl⟩ := hw
  have hM : Mem D A ad ns I L G H := hM
  refine lv_if_eq (tgt := 28) hx hb dX10_mends_5 (by decide) (fun c2 => ?_) (fun c2 => ?_)
  · have hc2 := c2
    have q2 := q_eq hc2
    refine lv_iconst (v := (-1)) hx hb dX10_mends_28 (by decide) ?_
    exact m_iret hx hb hr hlocks hM hS (Nat.le_of_ble_eq_true rfl) (Nat.le_of_ble_eq_true rfl) ⟨rfl, rfl⟩ dX10_mends_29
  · exact absurd c2 (by decide)
theorem dX10_second_0 : decode cX10_second 0 = .ok (.aload_n 0, 1) := by decide +kernel
theorem dX10_second_1 : decode cX10_second 1 = .ok (.iload_n 1, 1) := by decide +kernel
theorem dX10_second_2 : decode cX10_second 2 = .ok (.invokevirtual 472, 3) := by decide +kernel
theorem dX10_second_5 : decode cX10_second 5 = .ok (.ifCond .eq 15, 3) := by decide +kernel
theorem dX10_second_20 : decode cX10_second 20 = .ok (.iconst (-1), 1) := by decide +kernel
theorem dX10_second_21 : decode cX10_second 21 = .ok (.ireturn, 1) := by decide +kernel
theorem ce_X10_second : CeV RX10 yX10_second cX10_second 12 (some .int) 2 := ⟨tb_1786, tb_1787, tb_11, tb_1788, rfl, by decide, by decide, by decide +kernel⟩
set_option maxHeartbeats 4000000 in
set_option maxRecDepth 20000 in
theorem F_X10_second (l : Launch) (D : va_G) (A : Nat → Prop) (ad : Nat → Nat) (ns : List Nat) (I : MI) (L : ML) (G : MG) (a0 : Int32) (a1 : Int32) (hJ : SGM ns G) (hI : ∀ n k, 1000 ≤ n → n ≠ 1000 ∨ (k ≠ 33 ∧ k ≠ 57) → I n k = 0) : Met l yX10_second (wd yX10_second cX10_second 12 (some .int)) ({ frames := 2, cells := 0, slots := 0, locals := 41 }) (va_Pc [.ref (ad 1000), .int a0, .int a1] (PM D A ad ns I L G)) (va_Qi (fun r u => u = (ad, ns, I, L, G) ∧ r = -1) (BM D A) A) 0 0 A := by
  refine m_ofW (by decide) (Nat.le_of_ble_eq_true rfl) ?_
  intro p e s m below meth c ls args hC hE hM hA hS hl
  obtain ⟨hx, hb, hml, hown, hts, hr, hlocks, hin⟩ := hC
  have km1 : (-1 : Int32).toInt = -1 := by decide
  have k0 : (0 : Int32).toInt = 0 := by decide
  have hl : lv_has ls 12 [(0, .ref (ad (1000))), (1, .int (a0)), (2, .int (a1))] := hl
  refine lv_aload_n hx hb dX10_second_0 rfl (lv_at hl 0 rfl) ?_
  refine lv_iload_n hx hb dX10_second_1 rfl (lv_at hl 1 rfl) ?_
  refine m_calli (m_runV (1000) (As := [.int (a0)]) (rest := []) hx hb hml hown hts hE hM hS hA ce_X10_isBright tb_1698 (F_X10_isBright l D A ad ns I L G (a0) hJ hI) rfl rfl ⟨Nat.le_of_ble_eq_true rfl, Nat.le_of_ble_eq_true rfl⟩ hJ.1 rfl rfl (by decide) rfl hl.1 rfl (Nat.le_of_ble_eq_true rfl) dX10_second_2 ⟨Nat.le_of_ble_eq_true rfl, Nat.le_of_ble_eq_true rfl⟩) hS (fun r1 u H locs hw hM hS => ?_)
  obtain ⟨rfl, rfl⟩ := hw
  have hM : Mem D A ad ns I L G H := hM
  refine lv_if_eq (tgt := 20) hx hb dX10_second_5 (by decide) (fun c2 => ?_) (fun c2 => ?_)
  · have hc2 := c2
    have q2 := q_eq hc2
    refine lv_iconst (v := (-1)) hx hb dX10_second_20 (by decide) ?_
    exact m_iret hx hb hr hlocks hM hS (Nat.le_of_ble_eq_true rfl) (Nat.le_of_ble_eq_true rfl) ⟨rfl, rfl⟩ dX10_second_21
  · exact absurd c2 (by decide)
theorem dX10_thief_0 : decode cX10_thief 0 = .ok (.aload_n 0, 1) := by decide +kernel
theorem dX10_thief_1 : decode cX10_thief 1 = .ok (.iload_n 1, 1) := by decide +kernel
theorem dX10_thief_2 : decode cX10_thief 2 = .ok (.invokevirtual 472, 3) := by decide +kernel
theorem dX10_thief_5 : decode cX10_thief 5 = .ok (.ifCond .eq 15, 3) := by decide +kernel
theorem dX10_thief_20 : decode cX10_thief 20 = .ok (.iconst (-1), 1) := by decide +kernel
theorem dX10_thief_21 : decode cX10_thief 21 = .ok (.ireturn, 1) := by decide +kernel
theorem ce_X10_thief : CeV RX10 yX10_thief cX10_thief 7 (some .int) 2 := ⟨tb_1791, tb_1792, tb_11, tb_1793, rfl, by decide, by decide, by decide +kernel⟩
set_option maxHeartbeats 4000000 in
set_option maxRecDepth 20000 in
theorem F_X10_thief (l : Launch) (D : va_G) (A : Nat → Prop) (ad : Nat → Nat) (ns : List Nat) (I : MI) (L : ML) (G : MG) (a0 : Int32) (a1 : Int32) (hJ : SGM ns G) (hI : ∀ n k, 1000 ≤ n → n ≠ 1000 ∨ (k ≠ 33 ∧ k ≠ 57) → I n k = 0) : Met l yX10_thief (wd yX10_thief cX10_thief 7 (some .int)) ({ frames := 2, cells := 0, slots := 0, locals := 41 }) (va_Pc [.ref (ad 1000), .int a0, .int a1] (PM D A ad ns I L G)) (va_Qi (fun r u => u = (ad, ns, I, L, G) ∧ r = -1) (BM D A) A) 0 0 A := by
  refine m_ofW (by decide) (Nat.le_of_ble_eq_true rfl) ?_
  intro p e s m below meth c ls args hC hE hM hA hS hl
  obtain ⟨hx, hb, hml, hown, hts, hr, hlocks, hin⟩ := hC
  have km1 : (-1 : Int32).toInt = -1 := by decide
  have k0 : (0 : Int32).toInt = 0 := by decide
  have hl : lv_has ls 7 [(0, .ref (ad (1000))), (1, .int (a0)), (2, .int (a1))] := hl
  refine lv_aload_n hx hb dX10_thief_0 rfl (lv_at hl 0 rfl) ?_
  refine lv_iload_n hx hb dX10_thief_1 rfl (lv_at hl 1 rfl) ?_
  refine m_calli (m_runV (1000) (As := [.int (a0)]) (rest := []) hx hb hml hown hts hE hM hS hA ce_X10_isBright tb_1698 (F_X10_isBright l D A ad ns I L G (a0) hJ hI) rfl rfl ⟨Nat.le_of_ble_eq_true rfl, Nat.le_of_ble_eq_true rfl⟩ hJ.1 rfl rfl (by decide) rfl hl.1 rfl (Nat.le_of_ble_eq_true rfl) dX10_thief_2 ⟨Nat.le_of_ble_eq_true rfl, Nat.le_of_ble_eq_true rfl⟩) hS (fun r1 u H locs hw hM hS => ?_)
  obtain ⟨rfl, rfl⟩ := hw
  have hM : Mem D A ad ns I L G H := hM
  refine lv_if_eq (tgt := 20) hx hb dX10_thief_5 (by decide) (fun c2 => ?_) (fun c2 => ?_)
  · have hc2 := c2
    have q2 := q_eq hc2
    refine lv_iconst (v := (-1)) hx hb dX10_thief_20 (by decide) ?_
    exact m_iret hx hb hr hlocks hM hS (Nat.le_of_ble_eq_true rfl) (Nat.le_of_ble_eq_true rfl) ⟨rfl, rfl⟩ dX10_thief_21
  · exact absurd c2 (by decide)
theorem dX10_dusty_0 : decode cX10_dusty 0 = .ok (.aload_n 0, 1) := by decide +kernel
theorem dX10_dusty_1 : decode cX10_dusty 1 = .ok (.iload_n 1, 1) := by decide +kernel
theorem dX10_dusty_2 : decode cX10_dusty 2 = .ok (.invokevirtual 472, 3) := by decide +kernel
theorem dX10_dusty_5 : decode cX10_dusty 5 = .ok (.ifCond .eq 32, 3) := by decide +kernel
theorem dX10_dusty_37 : decode cX10_dusty 37 = .ok (.iconst (-1), 1) := by decide +kernel
theorem dX10_dusty_38 : decode cX10_dusty 38 = .ok (.ireturn, 1) := by decide +kernel
theorem ce_X10_dusty : CeV RX10 yX10_dusty cX10_dusty 8 (some .int) 4 := ⟨tb_1799, tb_1800, tb_11, tb_1801, rfl, by decide, by decide, by decide +kernel⟩
set_option maxHeartbeats 4000000 in
set_option maxRecDepth 20000 in
theorem F_X10_dusty (l : Launch) (D : va_G) (A : Nat → Prop) (ad : Nat → Nat) (ns : List Nat) (I : MI) (L : ML) (G : MG) (a0 : Int32) (a1 : Int32) (a2 : Int32) (a3 : Int32) (hJ : SGM ns G) (hI : ∀ n k, 1000 ≤ n → n ≠ 1000 ∨ (k ≠ 33 ∧ k ≠ 57) → I n k = 0) : Met l yX10_dusty (wd yX10_dusty cX10_dusty 8 (some .int)) ({ frames := 2, cells := 0, slots := 0, locals := 41 }) (va_Pc [.ref (ad 1000), .int a0, .int a1, .int a2, .int a3] (PM D A ad ns I L G)) (va_Qi (fun r u => u = (ad, ns, I, L, G) ∧ r = -1) (BM D A) A) 0 0 A := by
  refine m_ofW (by decide) (Nat.le_of_ble_eq_true rfl) ?_
  intro p e s m below meth c ls args hC hE hM hA hS hl
  obtain ⟨hx, hb, hml, hown, hts, hr, hlocks, hin⟩ := hC
  have km1 : (-1 : Int32).toInt = -1 := by decide
  have k0 : (0 : Int32).toInt = 0 := by decide
  have hl : lv_has ls 8 [(0, .ref (ad (1000))), (1, .int (a0)), (2, .int (a1)), (3, .int (a2)), (4, .int (a3))] := hl
  refine lv_aload_n hx hb dX10_dusty_0 rfl (lv_at hl 0 rfl) ?_
  refine lv_iload_n hx hb dX10_dusty_1 rfl (lv_at hl 1 rfl) ?_
  refine m_calli (m_runV (1000) (As := [.int (a0)]) (rest := []) hx hb hml hown hts hE hM hS hA ce_X10_isBright tb_1698 (F_X10_isBright l D A ad ns I L G (a0) hJ hI) rfl rfl ⟨Nat.le_of_ble_eq_true rfl, Nat.le_of_ble_eq_true rfl⟩ hJ.1 rfl rfl (by decide) rfl hl.1 rfl (Nat.le_of_ble_eq_true rfl) dX10_dusty_2 ⟨Nat.le_of_ble_eq_true rfl, Nat.le_of_ble_eq_true rfl⟩) hS (fun r1 u H locs hw hM hS => ?_)
  obtain ⟨rfl, rfl⟩ := hw
  have hM : Mem D A ad ns I L G H := hM
  refine lv_if_eq (tgt := 37) hx hb dX10_dusty_5 (by decide) (fun c2 => ?_) (fun c2 => ?_)
  · have hc2 := c2
    have q2 := q_eq hc2
    refine lv_iconst (v := (-1)) hx hb dX10_dusty_37 (by decide) ?_
    exact m_iret hx hb hr hlocks hM hS (Nat.le_of_ble_eq_true rfl) (Nat.le_of_ble_eq_true rfl) ⟨rfl, rfl⟩ dX10_dusty_38
  · exact absurd c2 (by decide)
theorem dX10_dark_0 : decode cX10_dark 0 = .ok (.aload_n 0, 1) := by decide +kernel
theorem dX10_dark_1 : decode cX10_dark 1 = .ok (.iload_n 1, 1) := by decide +kernel
theorem dX10_dark_2 : decode cX10_dark 2 = .ok (.invokevirtual 458, 3) := by decide +kernel
theorem dX10_dark_5 : decode cX10_dark 5 = .ok (.ifCond .eq 23, 3) := by decide +kernel
theorem dX10_dark_28 : decode cX10_dark 28 = .ok (.iconst (-1), 1) := by decide +kernel
theorem dX10_dark_29 : decode cX10_dark 29 = .ok (.ireturn, 1) := by decide +kernel
theorem ce_X10_dark : CeV RX10 yX10_dark cX10_dark 6 (some .int) 3 := ⟨tb_1803, tb_1804, tb_11, tb_1805, rfl, by decide, by decide, by decide +kernel⟩
set_option maxHeartbeats 4000000 in
set_option maxRecDepth 20000 in
theorem F_X10_dark (l : Launch) (D : va_G) (A : Nat → Prop) (ad : Nat → Nat) (ns : List Nat) (I : MI) (L : ML) (G : MG) (a0 : Int32) (a1 : Int32) (a2 : Int32) (hJ : SGM ns G) (hI : ∀ n k, 1000 ≤ n → n ≠ 1000 ∨ (k ≠ 33 ∧ k ≠ 57) → I n k = 0) : Met l yX10_dark (wd yX10_dark cX10_dark 6 (some .int)) ({ frames := 2, cells := 0, slots := 0, locals := 41 }) (va_Pc [.ref (ad 1000), .int a0, .int a1, .int a2] (PM D A ad ns I L G)) (va_Qi (fun r u => u = (ad, ns, I, L, G) ∧ r = -1) (BM D A) A) 0 0 A := by
  refine m_ofW (by decide) (Nat.le_of_ble_eq_true rfl) ?_
  intro p e s m below meth c ls args hC hE hM hA hS hl
  obtain ⟨hx, hb, hml, hown, hts, hr, hlocks, hin⟩ := hC
  have km1 : (-1 : Int32).toInt = -1 := by decide
  have k0 : (0 : Int32).toInt = 0 := by decide
  have hl : lv_has ls 6 [(0, .ref (ad (1000))), (1, .int (a0)), (2, .int (a1)), (3, .int (a2))] := hl
  refine lv_aload_n hx hb dX10_dark_0 rfl (lv_at hl 0 rfl) ?_
  refine lv_iload_n hx hb dX10_dark_1 rfl (lv_at hl 1 rfl) ?_
  refine m_calli (m_runV (1000) (As := [.int (a0)]) (rest := []) hx hb hml hown hts hE hM hS hA ce_X10_isLaw tb_1608 (F_X10_isLaw l D A ad ns I L G (a0) hJ hI) rfl rfl ⟨Nat.le_of_ble_eq_true rfl, Nat.le_of_ble_eq_true rfl⟩ hJ.1 rfl rfl (by decide) rfl hl.1 rfl (Nat.le_of_ble_eq_true rfl) dX10_dark_2 ⟨Nat.le_of_ble_eq_true rfl, Nat.le_of_ble_eq_true rfl⟩) hS (fun r1 u H locs hw hM hS => ?_)
  obtain ⟨rfl, rfl⟩ := hw
  have hM : Mem D A ad ns I L G H := hM
  refine lv_if_eq (tgt := 28) hx hb dX10_dark_5 (by decide) (fun c2 => ?_) (fun c2 => ?_)
  · have hc2 := c2
    have q2 := q_eq hc2
    refine lv_iconst (v := (-1)) hx hb dX10_dark_28 (by decide) ?_
    exact m_iret hx hb hr hlocks hM hS (Nat.le_of_ble_eq_true rfl) (Nat.le_of_ble_eq_true rfl) ⟨rfl, rfl⟩ dX10_dark_29
  · exact absurd c2 (by decide)
theorem dX10_ahead_0 : decode cX10_ahead 0 = .ok (.aload_n 0, 1) := by decide +kernel
theorem dX10_ahead_1 : decode cX10_ahead 1 = .ok (.iload_n 1, 1) := by decide +kernel
theorem dX10_ahead_2 : decode cX10_ahead 2 = .ok (.invokevirtual 458, 3) := by decide +kernel
theorem dX10_ahead_5 : decode cX10_ahead 5 = .ok (.ifCond .eq 36, 3) := by decide +kernel
theorem dX10_ahead_41 : decode cX10_ahead 41 = .ok (.bipush (-3), 2) := by decide +kernel
theorem dX10_ahead_43 : decode cX10_ahead 43 = .ok (.ireturn, 1) := by decide +kernel
theorem ce_X10_ahead : CeV RX10 yX10_ahead cX10_ahead 5 (some .int) 3 := ⟨tb_1815, tb_1816, tb_11, tb_1817, rfl, by decide, by decide, by decide +kernel⟩
set_option maxHeartbeats 4000000 in
set_option maxRecDepth 20000 in
theorem F_X10_ahead (l : Launch) (D : va_G) (A : Nat → Prop) (ad : Nat → Nat) (ns : List Nat) (I : MI) (L : ML) (G : MG) (a0 : Int32) (a1 : Int32) (a2 : Int32) (hJ : SGM ns G) (hI : ∀ n k, 1000 ≤ n → n ≠ 1000 ∨ (k ≠ 33 ∧ k ≠ 57) → I n k = 0) : Met l yX10_ahead (wd yX10_ahead cX10_ahead 5 (some .int)) ({ frames := 2, cells := 0, slots := 0, locals := 41 }) (va_Pc [.ref (ad 1000), .int a0, .int a1, .int a2] (PM D A ad ns I L G)) (va_Qi (fun r u => u = (ad, ns, I, L, G) ∧ r = -3) (BM D A) A) 0 0 A := by
  refine m_ofW (by decide) (Nat.le_of_ble_eq_true rfl) ?_
  intro p e s m below meth c ls args hC hE hM hA hS hl
  obtain ⟨hx, hb, hml, hown, hts, hr, hlocks, hin⟩ := hC
  have km3 : (-3 : Int32).toInt = -3 := by decide
  have k0 : (0 : Int32).toInt = 0 := by decide
  have hl : lv_has ls 5 [(0, .ref (ad (1000))), (1, .int (a0)), (2, .int (a1)), (3, .int (a2))] := hl
  refine lv_aload_n hx hb dX10_ahead_0 rfl (lv_at hl 0 rfl) ?_
  refine lv_iload_n hx hb dX10_ahead_1 rfl (lv_at hl 1 rfl) ?_
  refine m_calli (m_runV (1000) (As := [.int (a0)]) (rest := []) hx hb hml hown hts hE hM hS hA ce_X10_isLaw tb_1608 (F_X10_isLaw l D A ad ns I L G (a0) hJ hI) rfl rfl ⟨Nat.le_of_ble_eq_true rfl, Nat.le_of_ble_eq_true rfl⟩ hJ.1 rfl rfl (by decide) rfl hl.1 rfl (Nat.le_of_ble_eq_true rfl) dX10_ahead_2 ⟨Nat.le_of_ble_eq_true rfl, Nat.le_of_ble_eq_true rfl⟩) hS (fun r1 u H locs hw hM hS => ?_)
  obtain ⟨rfl, rfl⟩ := hw
  have hM : Mem D A ad ns I L G H := hM
  refine lv_if_eq (tgt := 41) hx hb dX10_ahead_5 (by decide) (fun c2 => ?_) (fun c2 => ?_)
  · have hc2 := c2
    have q2 := q_eq hc2
    refine lv_bipush (v := (-3)) hx hb dX10_ahead_41 (by decide) ?_
    exact m_iret hx hb hr hlocks hM hS (Nat.le_of_ble_eq_true rfl) (Nat.le_of_ble_eq_true rfl) ⟨rfl, rfl⟩ dX10_ahead_43
  · exact absurd c2 (by decide)
theorem dX10_image_0 : decode cX10_image 0 = .ok (.iload_n 1, 1) := by decide +kernel
theorem dX10_image_1 : decode cX10_image 1 = .ok (.i2l, 1) := by decide +kernel
theorem dX10_image_2 : decode cX10_image 2 = .ok (.lconst 0, 1) := by decide +kernel
theorem dX10_image_3 : decode cX10_image 3 = .ok (.ldc2_w 224, 3) := by decide +kernel
theorem dX10_image_6 : decode cX10_image 6 = .ok (.invokestatic 192, 3) := by decide +kernel
theorem dX10_image_9 : decode cX10_image 9 = .ok (.ifCond .eq 10, 3) := by decide +kernel
theorem dX10_image_12 : decode cX10_image 12 = .ok (.aload_n 0, 1) := by decide +kernel
theorem dX10_image_13 : decode cX10_image 13 = .ok (.invokevirtual 188, 3) := by decide +kernel
theorem dX10_image_16 : decode cX10_image 16 = .ok (.ifCond .ne 5, 3) := by decide +kernel
theorem dX10_image_19 : decode cX10_image 19 = .ok (.iconst (-1), 1) := by decide +kernel
theorem dX10_image_20 : decode cX10_image 20 = .ok (.ireturn, 1) := by decide +kernel
theorem ce_X10_image : CeV RX10 yX10_image cX10_image 2 (some .int) 1 := ⟨tb_1825, tb_1826, tb_11, tb_1827, rfl, by decide, by decide, by decide +kernel⟩
set_option maxHeartbeats 4000000 in
set_option maxRecDepth 20000 in
theorem F_X10_image (l : Launch) (D : va_G) (A : Nat → Prop) (ad : Nat → Nat) (ns : List Nat) (I : MI) (L : ML) (G : MG) (a0 : Int32) (hJ : SGM ns G) (hI : ∀ n k, 1000 ≤ n → n ≠ 1000 ∨ (k ≠ 33 ∧ k ≠ 57) → I n k = 0) : Met l yX10_image (wd yX10_image cX10_image 2 (some .int)) ({ frames := 1, cells := 0, slots := 0, locals := 25 }) (va_Pc [.ref (ad 1000), .int a0] (PM D A ad ns I L G)) (va_Qi (fun r u => u = (ad, ns, I, L, G) ∧ r = -1) (BM D A) A) 0 0 A := by
  refine m_ofW (by decide) (Nat.le_of_ble_eq_true rfl) ?_
  intro p e s m below meth c ls args hC hE hM hA hS hl
  obtain ⟨hx, hb, hml, hown, hts, hr, hlocks, hin⟩ := hC
  have km1 : (-1 : Int32).toInt = -1 := by decide
  have k0 : (0 : Int32).toInt = 0 := by decide
  have kl0 : (0 : Int64).toInt = 0 := by decide
  have kl3 : (3 : Int64).toInt = 3 := by decide
  have hl : lv_has ls 2 [(0, .ref (ad (1000))), (1, .int (a0))] := hl
  refine lv_iload_n hx hb dX10_image_0 rfl (lv_at hl 1 rfl) ?_
  refine lv_i2l hx hb dX10_image_1 rfl ?_
  refine lv_topl (fun v1 ev1 => ?_)
  have tv1 := q_i2l ev1
  refine lv_lconst (v := 0) hx hb dX10_image_2 (by decide) ?_
  refine lv_ldc2 (v := (3)) hx hb hown (hts _ tb_1466) dX10_image_3 ?_
  refine m_calli (m_runS (As := [.long (v1), .long (0), .long ((3 : Int64))]) (rest := []) hx hb hml hown hts hE hM hS hA ce_X10_in tb_1425 (C_X10_in l D A ad ns I L G (v1) (0) ((3 : Int64))) rfl rfl ⟨Nat.le_of_ble_eq_true rfl, Nat.le_of_ble_eq_true rfl⟩  rfl hl.1 rfl (Nat.le_of_ble_eq_true rfl) dX10_image_6 ⟨Nat.le_of_ble_eq_true rfl, Nat.le_of_ble_eq_true rfl⟩) hS (fun r2 u H locs hw hM hS => ?_)
  obtain ⟨rfl, b_r2⟩ := hw
  have hM : Mem D A ad ns I L G H := hM
  refine lv_if_eq (tgt := 19) hx hb dX10_image_9 (by decide) (fun c3 => ?_) (fun c3 => ?_)
  · have hc3 := c3
    have q3 := b_r2.f hc3
    refine lv_iconst (v := (-1)) hx hb dX10_image_19 (by decide) ?_
    exact m_iret hx hb hr hlocks hM hS (Nat.le_of_ble_eq_true rfl) (Nat.le_of_ble_eq_true rfl) ⟨rfl, rfl⟩ dX10_image_20
  · have hc3 := c3
    have q3 := b_r2.t hc3
    refine lv_aload_n hx hb dX10_image_12 rfl (lv_at hl 0 rfl) ?_
    refine m_calli (m_runV (1000) (As := []) (rest := []) hx hb hml hown hts hE hM hS hA ce_X10_isTown tb_1441 (C_X10_isTown l D A ad ns I L G hJ) rfl rfl ⟨Nat.le_of_ble_eq_true rfl, Nat.le_of_ble_eq_true rfl⟩ hJ.1 rfl rfl (by decide) rfl hl.1 rfl (Nat.le_of_ble_eq_true rfl) dX10_image_13 ⟨Nat.le_of_ble_eq_true rfl, Nat.le_of_ble_eq_true rfl⟩) hS (fun r4 u H locs hw hM hS => ?_)
    obtain ⟨rfl, b_r4⟩ := hw
    have hM : Mem D A ad ns I L G H := hM
    obtain rfl : r4 = 0 := b_r4.z (by rw [hI 1001 0 (by decide) (by decide)]; decide)
    refine lv_if_ne (tgt := 21) hx hb dX10_image_16 (by decide) (fun c5 => ?_) (fun c5 => ?_)
    · exact absurd c5 (by decide)
    · have hc5 := c5
      have q5 := q_eq hc5
      refine lv_iconst (v := (-1)) hx hb dX10_image_19 (by decide) ?_
      exact m_iret hx hb hr hlocks hM hS (Nat.le_of_ble_eq_true rfl) (Nat.le_of_ble_eq_true rfl) ⟨rfl, rfl⟩ dX10_image_20
theorem dX10_back_0 : decode cX10_back 0 = .ok (.iload_n 1, 1) := by decide +kernel
theorem dX10_back_1 : decode cX10_back 1 = .ok (.i2l, 1) := by decide +kernel
theorem dX10_back_2 : decode cX10_back 2 = .ok (.lconst 0, 1) := by decide +kernel
theorem dX10_back_3 : decode cX10_back 3 = .ok (.ldc2_w 224, 3) := by decide +kernel
theorem dX10_back_6 : decode cX10_back 6 = .ok (.invokestatic 192, 3) := by decide +kernel
theorem dX10_back_9 : decode cX10_back 9 = .ok (.ifCond .eq 12, 3) := by decide +kernel
theorem dX10_back_12 : decode cX10_back 12 = .ok (.aload_n 0, 1) := by decide +kernel
theorem dX10_back_13 : decode cX10_back 13 = .ok (.getfield 182, 3) := by decide +kernel
theorem dX10_back_16 : decode cX10_back 16 = .ok (.iload_n 1, 1) := by decide +kernel
theorem dX10_back_17 : decode cX10_back 17 = .ok (.baload, 1) := by decide +kernel
theorem dX10_back_18 : decode cX10_back 18 = .ok (.ifCond .ne 5, 3) := by decide +kernel
theorem dX10_back_21 : decode cX10_back 21 = .ok (.iconst (-1), 1) := by decide +kernel
theorem dX10_back_22 : decode cX10_back 22 = .ok (.ireturn, 1) := by decide +kernel
theorem ce_X10_back : CeV RX10 yX10_back cX10_back 2 (some .int) 1 := ⟨tb_1837, tb_1838, tb_11, tb_1839, rfl, by decide, by decide, by decide +kernel⟩
set_option maxHeartbeats 4000000 in
set_option maxRecDepth 20000 in
theorem F_X10_back (l : Launch) (D : va_G) (A : Nat → Prop) (ad : Nat → Nat) (ns : List Nat) (I : MI) (L : ML) (G : MG) (a0 : Int32) (hJ : SGM ns G) (hI : ∀ n k, 1000 ≤ n → n ≠ 1000 ∨ (k ≠ 33 ∧ k ≠ 57) → I n k = 0) : Met l yX10_back (wd yX10_back cX10_back 2 (some .int)) ({ frames := 1, cells := 0, slots := 0, locals := 25 }) (va_Pc [.ref (ad 1000), .int a0] (PM D A ad ns I L G)) (va_Qi (fun r u => u = (ad, ns, I, L, G) ∧ r = -1) (BM D A) A) 0 0 A := by
  refine m_ofW (by decide) (Nat.le_of_ble_eq_true rfl) ?_
  intro p e s m below meth c ls args hC hE hM hA hS hl
  obtain ⟨hx, hb, hml, hown, hts, hr, hlocks, hin⟩ := hC
  have km1 : (-1 : Int32).toInt = -1 := by decide
  have k0 : (0 : Int32).toInt = 0 := by decide
  have kl0 : (0 : Int64).toInt = 0 := by decide
  have kl3 : (3 : Int64).toInt = 3 := by decide
  have hl : lv_has ls 2 [(0, .ref (ad (1000))), (1, .int (a0))] := hl
  refine lv_iload_n hx hb dX10_back_0 rfl (lv_at hl 1 rfl) ?_
  refine lv_i2l hx hb dX10_back_1 rfl ?_
  refine lv_topl (fun v1 ev1 => ?_)
  have tv1 := q_i2l ev1
  refine lv_lconst (v := 0) hx hb dX10_back_2 (by decide) ?_
  refine lv_ldc2 (v := (3)) hx hb hown (hts _ tb_1466) dX10_back_3 ?_
  refine m_calli (m_runS (As := [.long (v1), .long (0), .long ((3 : Int64))]) (rest := []) hx hb hml hown hts hE hM hS hA ce_X10_in tb_1425 (C_X10_in l D A ad ns I L G (v1) (0) ((3 : Int64))) rfl rfl ⟨Nat.le_of_ble_eq_true rfl, Nat.le_of_ble_eq_true rfl⟩  rfl hl.1 rfl (Nat.le_of_ble_eq_true rfl) dX10_back_6 ⟨Nat.le_of_ble_eq_true rfl, Nat.le_of_ble_eq_true rfl⟩) hS (fun r2 u H locs hw hM hS => ?_)
  obtain ⟨rfl, b_r2⟩ := hw
  have hM : Mem D A ad ns I L G H := hM
  refine lv_if_eq (tgt := 21) hx hb dX10_back_9 (by decide) (fun c3 => ?_) (fun c3 => ?_)
  · have hc3 := c3
    have q3 := b_r2.f hc3
    refine lv_iconst (v := (-1)) hx hb dX10_back_21 (by decide) ?_
    exact m_iret hx hb hr hlocks hM hS (Nat.le_of_ble_eq_true rfl) (Nat.le_of_ble_eq_true rfl) ⟨rfl, rfl⟩ dX10_back_22
  · have hc3 := c3
    have q3 := b_r2.t hc3
    refine lv_aload_n hx hb dX10_back_12 rfl (lv_at hl 0 rfl) ?_
    refine m_getr (1000) 77 (1077) hx hb hts hown hE oc10 hM hJ.1 rfl (by decide) rfl (hJ.2 77 (by decide)).2 (by decide) tb_1254 dX10_back_13 ?_
    refine lv_iload_n hx hb dX10_back_16 rfl (lv_at hl 1 rfl) ?_
    refine m_zald (1077) hx hb hE hM (hJ.2 77 (by decide)).1 rfl (vp_in_iff.mpr (by omega)) dX10_back_17 ?_
    rw [hI 1077 _ (by decide) (Or.inl (by decide))]
    refine lv_if_ne (tgt := 23) hx hb dX10_back_18 (by decide) (fun c4 => ?_) (fun c4 => ?_)
    · exact absurd c4 (by decide)
    · have hc4 := c4
      have q4 := q_eq hc4
      refine lv_iconst (v := (-1)) hx hb dX10_back_21 (by decide) ?_
      exact m_iret hx hb hr hlocks hM hS (Nat.le_of_ble_eq_true rfl) (Nat.le_of_ble_eq_true rfl) ⟨rfl, rfl⟩ dX10_back_22
