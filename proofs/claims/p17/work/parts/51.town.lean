def Lit (b : Nat) (I : MI) (h : Int32) : Prop := (0 ≤ h.toInt ∧ h.toInt < 24) ∧ (I (b + 5) (I b 5 * 24 + h).toNatClampNeg).toInt ≠ -1
theorem Lit.kp {R P : List (Nat × Nat)} {I I2 : MI} {b : Nat} {h : Int32} (hl : Lit b I h) (hK : Kp R P I I2) (hm : (inR R (b + 5) || P.any (fun q => q.1 == b + 5) || inR R b || P.contains (b, 5)) = false) : Lit b I2 h := by
  simp only [Bool.or_eq_false_iff] at hm
  refine ⟨hl.1, ?_⟩
  rw [hK.getA (b + 5) (by simp only [Bool.or_eq_false_iff]; exact ⟨hm.1.1.1, hm.1.1.2⟩), hK.get b 5 (by simp only [Bool.or_eq_false_iff]; exact ⟨hm.1.2, hm.2⟩)]
  exact hl.2
theorem dX9_isWithin_0 : decode cX9_isWithin 0 = .ok (.iload_n 0, 1) := by decide +kernel
theorem dX9_isWithin_1 : decode cX9_isWithin 1 = .ok (.iload_n 1, 1) := by decide +kernel
theorem dX9_isWithin_2 : decode cX9_isWithin 2 = .ok (.if_icmp .lt 12, 3) := by decide +kernel
theorem dX9_isWithin_5 : decode cX9_isWithin 5 = .ok (.iload_n 0, 1) := by decide +kernel
theorem dX9_isWithin_6 : decode cX9_isWithin 6 = .ok (.iload_n 2, 1) := by decide +kernel
theorem dX9_isWithin_7 : decode cX9_isWithin 7 = .ok (.if_icmp .gt 7, 3) := by decide +kernel
theorem dX9_isWithin_10 : decode cX9_isWithin 10 = .ok (.iconst 1, 1) := by decide +kernel
theorem dX9_isWithin_11 : decode cX9_isWithin 11 = .ok (.goto 4, 3) := by decide +kernel
theorem dX9_isWithin_14 : decode cX9_isWithin 14 = .ok (.iconst 0, 1) := by decide +kernel
theorem dX9_isWithin_15 : decode cX9_isWithin 15 = .ok (.ireturn, 1) := by decide +kernel
theorem ce_X9_isWithin : CeS yX9_isWithin cX9_isWithin 3 (some .boolean) 3 := ⟨tb_452, tb_1, tb_453, by decide, by decide, by decide +kernel⟩
set_option maxHeartbeats 4000000 in
set_option maxRecDepth 20000 in
theorem V_X9_isWithin (l : Launch) (D : va_G) (A : Nat → Prop) (ad : Nat → Nat) (ns : List Nat) (I : MI) (L : ML) (G : MG) (a0 : Int32) (a1 : Int32) (a2 : Int32) (hI : INV I) : Met l yX9_isWithin (wd yX9_isWithin cX9_isWithin 3 (some .boolean)) ({ frames := 0, cells := 0, slots := 0, locals := 0 }) (va_Pc [.int a0, .int a1, .int a2] (PM D A ad ns I L G)) (va_Qi (fun r u => u = (ad, ns, I, L, G) ∧ (Bo r (a1.toInt ≤ a0.toInt ∧ a0.toInt ≤ a2.toInt))) (BM D A) A) 0 0 A := by
  refine m_ofW (by decide) (Nat.le_of_ble_eq_true rfl) ?_
  intro p e s m below meth c ls args hC hE hM hA hS hl
  obtain ⟨hx, hb, hml, hown, hts, hr, hlocks, hin⟩ := hC
  have k0 : (0 : Int32).toInt = 0 := by decide
  have k1 : (1 : Int32).toInt = 1 := by decide
  have hl : lv_has ls 3 [(0, .int (a0)), (1, .int (a1)), (2, .int (a2))] := hl
  refine lv_iload_n hx hb dX9_isWithin_0 rfl (lv_at hl 0 rfl) ?_
  refine lv_iload_n hx hb dX9_isWithin_1 rfl (lv_at hl 1 rfl) ?_
  refine lv_icmp_lt (tgt := 14) hx hb dX9_isWithin_2 (by decide) (fun c1 => ?_) (fun c1 => ?_)
  · have hc1 := c1
    have q1 := q_lt hc1
    refine lv_iconst (v := (0)) hx hb dX9_isWithin_14 (by decide) ?_
    exact m_zret hx hb hr rfl hlocks hM hS (Nat.le_of_ble_eq_true rfl) (Nat.le_of_ble_eq_true rfl) ⟨rfl, (Bo.n (by omega))⟩ dX9_isWithin_15
  · have hc1 := c1
    have q1 := q_nlt hc1
    refine lv_iload_n hx hb dX9_isWithin_5 rfl (lv_at hl 0 rfl) ?_
    refine lv_iload_n hx hb dX9_isWithin_6 rfl (lv_at hl 2 rfl) ?_
    refine lv_icmp_gt (tgt := 14) hx hb dX9_isWithin_7 (by decide) (fun c2 => ?_) (fun c2 => ?_)
    · have hc2 := c2
      have q2 := q_lt hc2
      refine lv_iconst (v := (0)) hx hb dX9_isWithin_14 (by decide) ?_
      exact m_zret hx hb hr rfl hlocks hM hS (Nat.le_of_ble_eq_true rfl) (Nat.le_of_ble_eq_true rfl) ⟨rfl, (Bo.n (by omega))⟩ dX9_isWithin_15
    · have hc2 := c2
      have q2 := q_nlt hc2
      refine lv_iconst (v := (1)) hx hb dX9_isWithin_10 (by decide) ?_
      refine lv_goto (tgt := 15) hx hb dX9_isWithin_11 (by decide) ?_
      exact m_zret hx hb hr rfl hlocks hM hS (Nat.le_of_ble_eq_true rfl) (Nat.le_of_ble_eq_true rfl) ⟨rfl, (Bo.y (by omega))⟩ dX9_isWithin_15
theorem dX9_cellOf_0 : decode cX9_cellOf 0 = .ok (.bipush 24, 2) := by decide +kernel
theorem dX9_cellOf_2 : decode cX9_cellOf 2 = .ok (.iload_n 1, 1) := by decide +kernel
theorem dX9_cellOf_3 : decode cX9_cellOf 3 = .ok (.imul, 1) := by decide +kernel
theorem dX9_cellOf_4 : decode cX9_cellOf 4 = .ok (.iload_n 0, 1) := by decide +kernel
theorem dX9_cellOf_5 : decode cX9_cellOf 5 = .ok (.iadd, 1) := by decide +kernel
theorem dX9_cellOf_6 : decode cX9_cellOf 6 = .ok (.ireturn, 1) := by decide +kernel
theorem ce_X9_cellOf : CeS yX9_cellOf cX9_cellOf 2 (some .int) 2 := ⟨tb_478, tb_1, tb_479, by decide, by decide, by decide +kernel⟩
set_option maxHeartbeats 4000000 in
set_option maxRecDepth 20000 in
theorem V_X9_cellOf (l : Launch) (D : va_G) (A : Nat → Prop) (ad : Nat → Nat) (ns : List Nat) (I : MI) (L : ML) (G : MG) (a0 : Int32) (a1 : Int32) (hI : INV I) (ha0 : 0 ≤ a0.toInt ∧ a0.toInt ≤ 23) (ha1 : 0 ≤ a1.toInt ∧ a1.toInt ≤ 23) : Met l yX9_cellOf (wd yX9_cellOf cX9_cellOf 2 (some .int)) ({ frames := 0, cells := 0, slots := 0, locals := 0 }) (va_Pc [.int a0, .int a1] (PM D A ad ns I L G)) (va_Qi (fun r u => u = (ad, ns, I, L, G) ∧ (r.toInt = 24 * a1.toInt + a0.toInt)) (BM D A) A) 0 0 A := by
  refine m_ofW (by decide) (Nat.le_of_ble_eq_true rfl) ?_
  intro p e s m below meth c ls args hC hE hM hA hS hl
  obtain ⟨hx, hb, hml, hown, hts, hr, hlocks, hin⟩ := hC
  have k0 : (0 : Int32).toInt = 0 := by decide
  have k24 : (24 : Int32).toInt = 24 := by decide
  have hl : lv_has ls 2 [(0, .int (a0)), (1, .int (a1))] := hl
  refine lv_bipush (v := (24)) hx hb dX9_cellOf_0 (by decide) ?_
  refine lv_iload_n hx hb dX9_cellOf_2 rfl (lv_at hl 1 rfl) ?_
  refine lv_imul hx hb dX9_cellOf_3 ?_
  refine lv_topi (fun v1 ev1 => ?_)
  have tv1 := a_mulL (c := 24) ev1 (by decide) (by omega) (by omega)
  refine lv_iload_n hx hb dX9_cellOf_4 rfl (lv_at hl 0 rfl) ?_
  refine lv_iadd hx hb dX9_cellOf_5 ?_
  refine lv_topi (fun v2 ev2 => ?_)
  have tv2 := a_add ev2 (by omega) (by omega)
  exact m_iret hx hb hr hlocks hM hS (Nat.le_of_ble_eq_true rfl) (Nat.le_of_ble_eq_true rfl) ⟨rfl, (by first | omega | decide)⟩ dX9_cellOf_6
theorem dX9_shareOf_0 : decode cX9_shareOf 0 = .ok (.iload_n 0, 1) := by decide +kernel
theorem dX9_shareOf_1 : decode cX9_shareOf 1 = .ok (.iload_n 1, 1) := by decide +kernel
theorem dX9_shareOf_2 : decode cX9_shareOf 2 = .ok (.imul, 1) := by decide +kernel
theorem dX9_shareOf_3 : decode cX9_shareOf 3 = .ok (.sipush 1000, 3) := by decide +kernel
theorem dX9_shareOf_6 : decode cX9_shareOf 6 = .ok (.idiv, 1) := by decide +kernel
theorem dX9_shareOf_7 : decode cX9_shareOf 7 = .ok (.ireturn, 1) := by decide +kernel
theorem ce_X9_shareOf : CeS yX9_shareOf cX9_shareOf 2 (some .int) 2 := ⟨tb_828, tb_1, tb_829, by decide, by decide, by decide +kernel⟩
set_option maxHeartbeats 4000000 in
set_option maxRecDepth 20000 in
theorem V_X9_shareOf (l : Launch) (D : va_G) (A : Nat → Prop) (ad : Nat → Nat) (ns : List Nat) (I : MI) (L : ML) (G : MG) (a0 : Int32) (a1 : Int32) (hI : INV I) : Met l yX9_shareOf (wd yX9_shareOf cX9_shareOf 2 (some .int)) ({ frames := 0, cells := 0, slots := 0, locals := 0 }) (va_Pc [.int a0, .int a1] (PM D A ad ns I L G)) (va_Qi (fun r u => u = (ad, ns, I, L, G) ∧ (True)) (BM D A) A) 0 0 A := by
  refine m_ofW (by decide) (Nat.le_of_ble_eq_true rfl) ?_
  intro p e s m below meth c ls args hC hE hM hA hS hl
  obtain ⟨hx, hb, hml, hown, hts, hr, hlocks, hin⟩ := hC
  have k0 : (0 : Int32).toInt = 0 := by decide
  have k1000 : (1000 : Int32).toInt = 1000 := by decide
  have hl : lv_has ls 2 [(0, .int (a0)), (1, .int (a1))] := hl
  refine lv_iload_n hx hb dX9_shareOf_0 rfl (lv_at hl 0 rfl) ?_
  refine lv_iload_n hx hb dX9_shareOf_1 rfl (lv_at hl 1 rfl) ?_
  refine lv_imul hx hb dX9_shareOf_2 ?_
  refine lv_topi (fun v1 ev1 => ?_)
  refine lv_sipush (v := (1000)) hx hb dX9_shareOf_3 (by decide) ?_
  refine lv_idiv hx hb dX9_shareOf_6 (by decide) ?_
  refine lv_topi (fun v2 ev2 => ?_)
  exact m_iret hx hb hr hlocks hM hS (Nat.le_of_ble_eq_true rfl) (Nat.le_of_ble_eq_true rfl) ⟨rfl, trivial⟩ dX9_shareOf_7
theorem dX8_isBegun_0 : decode cX8_isBegun 0 = .ok (.aload_n 0, 1) := by decide +kernel
theorem dX8_isBegun_1 : decode cX8_isBegun 1 = .ok (.getfield 36, 3) := by decide +kernel
theorem dX8_isBegun_4 : decode cX8_isBegun 4 = .ok (.ifCond .le 7, 3) := by decide +kernel
theorem dX8_isBegun_7 : decode cX8_isBegun 7 = .ok (.iconst 1, 1) := by decide +kernel
theorem dX8_isBegun_8 : decode cX8_isBegun 8 = .ok (.goto 4, 3) := by decide +kernel
theorem dX8_isBegun_11 : decode cX8_isBegun 11 = .ok (.iconst 0, 1) := by decide +kernel
theorem dX8_isBegun_12 : decode cX8_isBegun 12 = .ok (.ireturn, 1) := by decide +kernel
theorem ce_X8_isBegun : CeV RX8 yX8_isBegun cX8_isBegun 1 (some .boolean) 0 := ⟨tb_485, tb_486, tb_2, tb_487, rfl, by decide, by decide, by decide +kernel⟩
set_option maxHeartbeats 4000000 in
set_option maxRecDepth 20000 in
theorem V_X8_isBegun_100 (l : Launch) (D : va_G) (A : Nat → Prop) (ad : Nat → Nat) (ns : List Nat) (I : MI) (L : ML) (G : MG) (hG : SGC ns G) (hI : INV I) : Met l yX8_isBegun (wd yX8_isBegun cX8_isBegun 1 (some .boolean)) ({ frames := 0, cells := 0, slots := 0, locals := 0 }) (va_Pc [.ref (ad (100))] (PM D A ad ns I L G)) (va_Qi (fun r u => u = (ad, ns, I, L, G) ∧ (Bo r (0 < (I 100 0).toInt))) (BM D A) A) 0 0 A := by
  refine m_ofW (by decide) (Nat.le_of_ble_eq_true rfl) ?_
  intro p e s m below meth c ls args hC hE hM hA hS hl
  obtain ⟨hx, hb, hml, hown, hts, hr, hlocks, hin⟩ := hC
  have k0 : (0 : Int32).toInt = 0 := by decide
  have k1 : (1 : Int32).toInt = 1 := by decide
  have hl : lv_has ls 1 [(0, .ref (ad (100)))] := hl
  refine lv_aload_n hx hb dX8_isBegun_0 rfl (lv_at hl 0 rfl) ?_
  refine m_geti (100) 0 hx hb hts hown hE oc8 hM (hG.1 100 (by decide)) rfl (by decide) rfl tb_34 dX8_isBegun_1 ?_
  have g1 := hI.get (100) 0 (lo := 0) (hi := 24) rfl
  refine lv_if_le (tgt := 11) hx hb dX8_isBegun_4 (by decide) (fun c2 => ?_) (fun c2 => ?_)
  · have hc2 := c2
    have q2 := q_le hc2
    refine lv_iconst (v := (0)) hx hb dX8_isBegun_11 (by decide) ?_
    exact m_zret hx hb hr rfl hlocks hM hS (Nat.le_of_ble_eq_true rfl) (Nat.le_of_ble_eq_true rfl) ⟨rfl, (Bo.n (by omega))⟩ dX8_isBegun_12
  · have hc2 := c2
    have q2 := q_nle hc2
    refine lv_iconst (v := (1)) hx hb dX8_isBegun_7 (by decide) ?_
    refine lv_goto (tgt := 12) hx hb dX8_isBegun_8 (by decide) ?_
    exact m_zret hx hb hr rfl hlocks hM hS (Nat.le_of_ble_eq_true rfl) (Nat.le_of_ble_eq_true rfl) ⟨rfl, (Bo.y (by omega))⟩ dX8_isBegun_12
theorem dX8_hasCell_0 : decode cX8_hasCell 0 = .ok (.iload_n 1, 1) := by decide +kernel
theorem dX8_hasCell_1 : decode cX8_hasCell 1 = .ok (.ifCond .lt 27, 3) := by decide +kernel
theorem dX8_hasCell_4 : decode cX8_hasCell 4 = .ok (.iload_n 1, 1) := by decide +kernel
theorem dX8_hasCell_5 : decode cX8_hasCell 5 = .ok (.aload_n 0, 1) := by decide +kernel
theorem dX8_hasCell_6 : decode cX8_hasCell 6 = .ok (.getfield 36, 3) := by decide +kernel
theorem dX8_hasCell_9 : decode cX8_hasCell 9 = .ok (.if_icmp .ge 19, 3) := by decide +kernel
theorem dX8_hasCell_12 : decode cX8_hasCell 12 = .ok (.iload_n 2, 1) := by decide +kernel
theorem dX8_hasCell_13 : decode cX8_hasCell 13 = .ok (.ifCond .lt 15, 3) := by decide +kernel
theorem dX8_hasCell_16 : decode cX8_hasCell 16 = .ok (.iload_n 2, 1) := by decide +kernel
theorem dX8_hasCell_17 : decode cX8_hasCell 17 = .ok (.aload_n 0, 1) := by decide +kernel
theorem dX8_hasCell_18 : decode cX8_hasCell 18 = .ok (.getfield 40, 3) := by decide +kernel
theorem dX8_hasCell_21 : decode cX8_hasCell 21 = .ok (.if_icmp .ge 7, 3) := by decide +kernel
theorem dX8_hasCell_24 : decode cX8_hasCell 24 = .ok (.iconst 1, 1) := by decide +kernel
theorem dX8_hasCell_25 : decode cX8_hasCell 25 = .ok (.goto 4, 3) := by decide +kernel
theorem dX8_hasCell_28 : decode cX8_hasCell 28 = .ok (.iconst 0, 1) := by decide +kernel
theorem dX8_hasCell_29 : decode cX8_hasCell 29 = .ok (.ireturn, 1) := by decide +kernel
theorem ce_X8_hasCell : CeV RX8 yX8_hasCell cX8_hasCell 3 (some .boolean) 2 := ⟨tb_470, tb_471, tb_2, tb_472, rfl, by decide, by decide, by decide +kernel⟩
set_option maxHeartbeats 4000000 in
set_option maxRecDepth 20000 in
theorem V_X8_hasCell_100 (l : Launch) (D : va_G) (A : Nat → Prop) (ad : Nat → Nat) (ns : List Nat) (I : MI) (L : ML) (G : MG) (a0 : Int32) (a1 : Int32) (hG : SGC ns G) (hI : INV I) : Met l yX8_hasCell (wd yX8_hasCell cX8_hasCell 3 (some .boolean)) ({ frames := 0, cells := 0, slots := 0, locals := 0 }) (va_Pc [.ref (ad (100)), .int a0, .int a1] (PM D A ad ns I L G)) (va_Qi (fun r u => u = (ad, ns, I, L, G) ∧ (Bo r (0 ≤ a0.toInt ∧ a0.toInt < (I 100 0).toInt ∧ 0 ≤ a1.toInt ∧ a1.toInt < (I 100 1).toInt))) (BM D A) A) 0 0 A := by
  refine m_ofW (by decide) (Nat.le_of_ble_eq_true rfl) ?_
  intro p e s m below meth c ls args hC hE hM hA hS hl
  obtain ⟨hx, hb, hml, hown, hts, hr, hlocks, hin⟩ := hC
  have k0 : (0 : Int32).toInt = 0 := by decide
  have k1 : (1 : Int32).toInt = 1 := by decide
  have hl : lv_has ls 3 [(0, .ref (ad (100))), (1, .int (a0)), (2, .int (a1))] := hl
  refine lv_iload_n hx hb dX8_hasCell_0 rfl (lv_at hl 1 rfl) ?_
  refine lv_if_lt (tgt := 28) hx hb dX8_hasCell_1 (by decide) (fun c1 => ?_) (fun c1 => ?_)
  · have hc1 := c1
    have q1 := q_lt hc1
    refine lv_iconst (v := (0)) hx hb dX8_hasCell_28 (by decide) ?_
    exact m_zret hx hb hr rfl hlocks hM hS (Nat.le_of_ble_eq_true rfl) (Nat.le_of_ble_eq_true rfl) ⟨rfl, (Bo.n (by omega))⟩ dX8_hasCell_29
  · have hc1 := c1
    have q1 := q_nlt hc1
    refine lv_iload_n hx hb dX8_hasCell_4 rfl (lv_at hl 1 rfl) ?_
    refine lv_aload_n hx hb dX8_hasCell_5 rfl (lv_at hl 0 rfl) ?_
    refine m_geti (100) 0 hx hb hts hown hE oc8 hM (hG.1 100 (by decide)) rfl (by decide) rfl tb_34 dX8_hasCell_6 ?_
    have g2 := hI.get (100) 0 (lo := 0) (hi := 24) rfl
    refine lv_icmp_ge (tgt := 28) hx hb dX8_hasCell_9 (by decide) (fun c3 => ?_) (fun c3 => ?_)
    · have hc3 := c3
      have q3 := q_le hc3
      refine lv_iconst (v := (0)) hx hb dX8_hasCell_28 (by decide) ?_
      exact m_zret hx hb hr rfl hlocks hM hS (Nat.le_of_ble_eq_true rfl) (Nat.le_of_ble_eq_true rfl) ⟨rfl, (Bo.n (by omega))⟩ dX8_hasCell_29
    · have hc3 := c3
      have q3 := q_nle hc3
      refine lv_iload_n hx hb dX8_hasCell_12 rfl (lv_at hl 2 rfl) ?_
      refine lv_if_lt (tgt := 28) hx hb dX8_hasCell_13 (by decide) (fun c4 => ?_) (fun c4 => ?_)
      · have hc4 := c4
        have q4 := q_lt hc4
        refine lv_iconst (v := (0)) hx hb dX8_hasCell_28 (by decide) ?_
        exact m_zret hx hb hr rfl hlocks hM hS (Nat.le_of_ble_eq_true rfl) (Nat.le_of_ble_eq_true rfl) ⟨rfl, (Bo.n (by omega))⟩ dX8_hasCell_29
      · have hc4 := c4
        have q4 := q_nlt hc4
        refine lv_iload_n hx hb dX8_hasCell_16 rfl (lv_at hl 2 rfl) ?_
        refine lv_aload_n hx hb dX8_hasCell_17 rfl (lv_at hl 0 rfl) ?_
        refine m_geti (100) 1 hx hb hts hown hE oc8 hM (hG.1 100 (by decide)) rfl (by decide) rfl tb_37 dX8_hasCell_18 ?_
        have g5 := hI.get (100) 1 (lo := 0) (hi := 24) rfl
        refine lv_icmp_ge (tgt := 28) hx hb dX8_hasCell_21 (by decide) (fun c6 => ?_) (fun c6 => ?_)
        · have hc6 := c6
          have q6 := q_le hc6
          refine lv_iconst (v := (0)) hx hb dX8_hasCell_28 (by decide) ?_
          exact m_zret hx hb hr rfl hlocks hM hS (Nat.le_of_ble_eq_true rfl) (Nat.le_of_ble_eq_true rfl) ⟨rfl, (Bo.n (by omega))⟩ dX8_hasCell_29
        · have hc6 := c6
          have q6 := q_nle hc6
          refine lv_iconst (v := (1)) hx hb dX8_hasCell_24 (by decide) ?_
          refine lv_goto (tgt := 29) hx hb dX8_hasCell_25 (by decide) ?_
          exact m_zret hx hb hr rfl hlocks hM hS (Nat.le_of_ble_eq_true rfl) (Nat.le_of_ble_eq_true rfl) ⟨rfl, (Bo.y (by omega))⟩ dX8_hasCell_29
theorem dX8_hasRectangle_0 : decode cX8_hasRectangle 0 = .ok (.aload_n 0, 1) := by decide +kernel
theorem dX8_hasRectangle_1 : decode cX8_hasRectangle 1 = .ok (.iload_n 1, 1) := by decide +kernel
theorem dX8_hasRectangle_2 : decode cX8_hasRectangle 2 = .ok (.iload_n 2, 1) := by decide +kernel
theorem dX8_hasRectangle_3 : decode cX8_hasRectangle 3 = .ok (.invokevirtual 79, 3) := by decide +kernel
theorem dX8_hasRectangle_6 : decode cX8_hasRectangle 6 = .ok (.ifCond .eq 28, 3) := by decide +kernel
theorem dX8_hasRectangle_9 : decode cX8_hasRectangle 9 = .ok (.aload_n 0, 1) := by decide +kernel
theorem dX8_hasRectangle_10 : decode cX8_hasRectangle 10 = .ok (.iload_n 3, 1) := by decide +kernel
theorem dX8_hasRectangle_11 : decode cX8_hasRectangle 11 = .ok (.iload 4, 2) := by decide +kernel
theorem dX8_hasRectangle_13 : decode cX8_hasRectangle 13 = .ok (.invokevirtual 79, 3) := by decide +kernel
theorem dX8_hasRectangle_16 : decode cX8_hasRectangle 16 = .ok (.ifCond .eq 18, 3) := by decide +kernel
theorem dX8_hasRectangle_19 : decode cX8_hasRectangle 19 = .ok (.iload_n 1, 1) := by decide +kernel
theorem dX8_hasRectangle_20 : decode cX8_hasRectangle 20 = .ok (.iload_n 3, 1) := by decide +kernel
theorem dX8_hasRectangle_21 : decode cX8_hasRectangle 21 = .ok (.if_icmp .gt 13, 3) := by decide +kernel
theorem dX8_hasRectangle_24 : decode cX8_hasRectangle 24 = .ok (.iload_n 2, 1) := by decide +kernel
theorem dX8_hasRectangle_25 : decode cX8_hasRectangle 25 = .ok (.iload 4, 2) := by decide +kernel
theorem dX8_hasRectangle_27 : decode cX8_hasRectangle 27 = .ok (.if_icmp .gt 7, 3) := by decide +kernel
theorem dX8_hasRectangle_30 : decode cX8_hasRectangle 30 = .ok (.iconst 1, 1) := by decide +kernel
theorem dX8_hasRectangle_31 : decode cX8_hasRectangle 31 = .ok (.goto 4, 3) := by decide +kernel
theorem dX8_hasRectangle_34 : decode cX8_hasRectangle 34 = .ok (.iconst 0, 1) := by decide +kernel
theorem dX8_hasRectangle_35 : decode cX8_hasRectangle 35 = .ok (.ireturn, 1) := by decide +kernel
theorem ce_X8_hasRectangle : CeV RX8 yX8_hasRectangle cX8_hasRectangle 5 (some .boolean) 4 := ⟨tb_466, tb_467, tb_2, tb_468, rfl, by decide, by decide, by decide +kernel⟩
set_option maxHeartbeats 4000000 in
set_option maxRecDepth 20000 in
theorem V_X8_hasRectangle_100 (l : Launch) (D : va_G) (A : Nat → Prop) (ad : Nat → Nat) (ns : List Nat) (I : MI) (L : ML) (G : MG) (a0 : Int32) (a1 : Int32) (a2 : Int32) (a3 : Int32) (hG : SGC ns G) (hI : INV I) : Met l yX8_hasRectangle (wd yX8_hasRectangle cX8_hasRectangle 5 (some .boolean)) ({ frames := 1, cells := 0, slots := 0, locals := 22 }) (va_Pc [.ref (ad (100)), .int a0, .int a1, .int a2, .int a3] (PM D A ad ns I L G)) (va_Qi (fun r u => u = (ad, ns, I, L, G) ∧ (Bo r ((0 ≤ a0.toInt ∧ a0.toInt < (I 100 0).toInt ∧ 0 ≤ a1.toInt ∧ a1.toInt < (I 100 1).toInt) ∧ (0 ≤ a2.toInt ∧ a2.toInt < (I 100 0).toInt ∧ 0 ≤ a3.toInt ∧ a3.toInt < (I 100 1).toInt) ∧ a0.toInt ≤ a2.toInt ∧ a1.toInt ≤ a3.toInt))) (BM D A) A) 0 0 A := by
  refine m_ofW (by decide) (Nat.le_of_ble_eq_true rfl) ?_
  intro p e s m below meth c ls args hC hE hM hA hS hl
  obtain ⟨hx, hb, hml, hown, hts, hr, hlocks, hin⟩ := hC
  have k0 : (0 : Int32).toInt = 0 := by decide
  have k1 : (1 : Int32).toInt = 1 := by decide
  have hl : lv_has ls 5 [(0, .ref (ad (100))), (1, .int (a0)), (2, .int (a1)), (3, .int (a2)), (4, .int (a3))] := hl
  refine lv_aload_n hx hb dX8_hasRectangle_0 rfl (lv_at hl 0 rfl) ?_
  refine lv_iload_n hx hb dX8_hasRectangle_1 rfl (lv_at hl 1 rfl) ?_
  refine lv_iload_n hx hb dX8_hasRectangle_2 rfl (lv_at hl 2 rfl) ?_
  refine m_calli (m_runV (100) (As := [.int (a0), .int (a1)]) (rest := []) hx hb hml hown hts hE hM hS hA ce_X8_hasCell tb_469 (V_X8_hasCell_100 l D A ad ns I L G (a0) (a1) hG hI) rfl rfl ⟨Nat.le_of_ble_eq_true rfl, Nat.le_of_ble_eq_true rfl⟩ (hG.1 100 (by decide)) rfl rfl (by decide) rfl hl.1 rfl (Nat.le_of_ble_eq_true rfl) dX8_hasRectangle_3 ⟨Nat.le_of_ble_eq_true rfl, Nat.le_of_ble_eq_true rfl⟩) hS (fun r1 u H locs hw hM hS => ?_)
  obtain ⟨rfl, xr1⟩ := hw
  have hM : Mem D A ad ns I L G H := hM
  have yr1 := bo01 xr1
  have g2 := hI.get 100 0 (lo := 0) (hi := 24) rfl
  have g3 := hI.get 100 1 (lo := 0) (hi := 24) rfl
  refine lv_if_eq (tgt := 34) hx hb dX8_hasRectangle_6 (by decide) (fun c4 => ?_) (fun c4 => ?_)
  · have hc4 := c4
    have q4 := xr1.f hc4
    refine lv_iconst (v := (0)) hx hb dX8_hasRectangle_34 (by decide) ?_
    exact m_zret hx hb hr rfl hlocks hM hS (Nat.le_of_ble_eq_true rfl) (Nat.le_of_ble_eq_true rfl) ⟨rfl, (Bo.n (by omega))⟩ dX8_hasRectangle_35
  · have hc4 := c4
    have q4 := xr1.t hc4
    refine lv_aload_n hx hb dX8_hasRectangle_9 rfl (lv_at hl 0 rfl) ?_
    refine lv_iload_n hx hb dX8_hasRectangle_10 rfl (lv_at hl 3 rfl) ?_
    refine lv_iload hx hb dX8_hasRectangle_11 (lv_at hl 4 rfl) ?_
    refine m_calli (m_runV (100) (As := [.int (a2), .int (a3)]) (rest := []) hx hb hml hown hts hE hM hS hA ce_X8_hasCell tb_469 (V_X8_hasCell_100 l D A ad ns I L G (a2) (a3) hG hI) rfl rfl ⟨Nat.le_of_ble_eq_true rfl, Nat.le_of_ble_eq_true rfl⟩ (hG.1 100 (by decide)) rfl rfl (by decide) rfl hl.1 rfl (Nat.le_of_ble_eq_true rfl) dX8_hasRectangle_13 ⟨Nat.le_of_ble_eq_true rfl, Nat.le_of_ble_eq_true rfl⟩) hS (fun r5 u H locs hw hM hS => ?_)
    obtain ⟨rfl, xr5⟩ := hw
    have hM : Mem D A ad ns I L G H := hM
    have yr5 := bo01 xr5
    have g6 := hI.get 100 0 (lo := 0) (hi := 24) rfl
    have g7 := hI.get 100 1 (lo := 0) (hi := 24) rfl
    refine lv_if_eq (tgt := 34) hx hb dX8_hasRectangle_16 (by decide) (fun c8 => ?_) (fun c8 => ?_)
    · have hc8 := c8
      have q8 := xr5.f hc8
      refine lv_iconst (v := (0)) hx hb dX8_hasRectangle_34 (by decide) ?_
      exact m_zret hx hb hr rfl hlocks hM hS (Nat.le_of_ble_eq_true rfl) (Nat.le_of_ble_eq_true rfl) ⟨rfl, (Bo.n (by omega))⟩ dX8_hasRectangle_35
    · have hc8 := c8
      have q8 := xr5.t hc8
      refine lv_iload_n hx hb dX8_hasRectangle_19 rfl (lv_at hl 1 rfl) ?_
      refine lv_iload_n hx hb dX8_hasRectangle_20 rfl (lv_at hl 3 rfl) ?_
      refine lv_icmp_gt (tgt := 34) hx hb dX8_hasRectangle_21 (by decide) (fun c9 => ?_) (fun c9 => ?_)
      · have hc9 := c9
        have q9 := q_lt hc9
        refine lv_iconst (v := (0)) hx hb dX8_hasRectangle_34 (by decide) ?_
        exact m_zret hx hb hr rfl hlocks hM hS (Nat.le_of_ble_eq_true rfl) (Nat.le_of_ble_eq_true rfl) ⟨rfl, (Bo.n (by omega))⟩ dX8_hasRectangle_35
      · have hc9 := c9
        have q9 := q_nlt hc9
        refine lv_iload_n hx hb dX8_hasRectangle_24 rfl (lv_at hl 2 rfl) ?_
        refine lv_iload hx hb dX8_hasRectangle_25 (lv_at hl 4 rfl) ?_
        refine lv_icmp_gt (tgt := 34) hx hb dX8_hasRectangle_27 (by decide) (fun c10 => ?_) (fun c10 => ?_)
        · have hc10 := c10
          have q10 := q_lt hc10
          refine lv_iconst (v := (0)) hx hb dX8_hasRectangle_34 (by decide) ?_
          exact m_zret hx hb hr rfl hlocks hM hS (Nat.le_of_ble_eq_true rfl) (Nat.le_of_ble_eq_true rfl) ⟨rfl, (Bo.n (by omega))⟩ dX8_hasRectangle_35
        · have hc10 := c10
          have q10 := q_nlt hc10
          refine lv_iconst (v := (1)) hx hb dX8_hasRectangle_30 (by decide) ?_
          refine lv_goto (tgt := 35) hx hb dX8_hasRectangle_31 (by decide) ?_
          exact m_zret hx hb hr rfl hlocks hM hS (Nat.le_of_ble_eq_true rfl) (Nat.le_of_ble_eq_true rfl) ⟨rfl, (Bo.y (by omega))⟩ dX8_hasRectangle_35
theorem dX8_isOpen_0 : decode cX8_isOpen 0 = .ok (.iload_n 1, 1) := by decide +kernel
theorem dX8_isOpen_1 : decode cX8_isOpen 1 = .ok (.ifCond .lt 41, 3) := by decide +kernel
theorem dX8_isOpen_4 : decode cX8_isOpen 4 = .ok (.iload_n 1, 1) := by decide +kernel
theorem dX8_isOpen_5 : decode cX8_isOpen 5 = .ok (.aload_n 0, 1) := by decide +kernel
theorem dX8_isOpen_6 : decode cX8_isOpen 6 = .ok (.getfield 36, 3) := by decide +kernel
theorem dX8_isOpen_9 : decode cX8_isOpen 9 = .ok (.if_icmp .ge 33, 3) := by decide +kernel
theorem dX8_isOpen_12 : decode cX8_isOpen 12 = .ok (.iload_n 2, 1) := by decide +kernel
theorem dX8_isOpen_13 : decode cX8_isOpen 13 = .ok (.ifCond .lt 29, 3) := by decide +kernel
theorem dX8_isOpen_16 : decode cX8_isOpen 16 = .ok (.iload_n 2, 1) := by decide +kernel
theorem dX8_isOpen_17 : decode cX8_isOpen 17 = .ok (.aload_n 0, 1) := by decide +kernel
theorem dX8_isOpen_18 : decode cX8_isOpen 18 = .ok (.getfield 40, 3) := by decide +kernel
theorem dX8_isOpen_21 : decode cX8_isOpen 21 = .ok (.if_icmp .ge 21, 3) := by decide +kernel
theorem dX8_isOpen_24 : decode cX8_isOpen 24 = .ok (.aload_n 0, 1) := by decide +kernel
theorem dX8_isOpen_25 : decode cX8_isOpen 25 = .ok (.getfield 9, 3) := by decide +kernel
theorem dX8_isOpen_28 : decode cX8_isOpen 28 = .ok (.bipush 24, 2) := by decide +kernel
theorem dX8_isOpen_30 : decode cX8_isOpen 30 = .ok (.iload_n 2, 1) := by decide +kernel
theorem dX8_isOpen_31 : decode cX8_isOpen 31 = .ok (.imul, 1) := by decide +kernel
theorem dX8_isOpen_32 : decode cX8_isOpen 32 = .ok (.iload_n 1, 1) := by decide +kernel
theorem dX8_isOpen_33 : decode cX8_isOpen 33 = .ok (.iadd, 1) := by decide +kernel
theorem dX8_isOpen_34 : decode cX8_isOpen 34 = .ok (.iaload, 1) := by decide +kernel
theorem dX8_isOpen_35 : decode cX8_isOpen 35 = .ok (.ifCond .ne 7, 3) := by decide +kernel
theorem dX8_isOpen_38 : decode cX8_isOpen 38 = .ok (.iconst 1, 1) := by decide +kernel
theorem dX8_isOpen_39 : decode cX8_isOpen 39 = .ok (.goto 4, 3) := by decide +kernel
theorem dX8_isOpen_42 : decode cX8_isOpen 42 = .ok (.iconst 0, 1) := by decide +kernel
theorem dX8_isOpen_43 : decode cX8_isOpen 43 = .ok (.ireturn, 1) := by decide +kernel
theorem ce_X8_isOpen : CeV RX8 yX8_isOpen cX8_isOpen 3 (some .boolean) 2 := ⟨tb_819, tb_820, tb_2, tb_821, rfl, by decide, by decide, by decide +kernel⟩
set_option maxHeartbeats 4000000 in
set_option maxRecDepth 20000 in
theorem V_X8_isOpen_100 (l : Launch) (D : va_G) (A : Nat → Prop) (ad : Nat → Nat) (ns : List Nat) (I : MI) (L : ML) (G : MG) (a0 : Int32) (a1 : Int32) (hG : SGC ns G) (hI : INV I) : Met l yX8_isOpen (wd yX8_isOpen cX8_isOpen 3 (some .boolean)) ({ frames := 0, cells := 0, slots := 0, locals := 0 }) (va_Pc [.ref (ad (100)), .int a0, .int a1] (PM D A ad ns I L G)) (va_Qi (fun r u => u = (ad, ns, I, L, G) ∧ ((r.toInt = 0 ∨ (0 ≤ a0.toInt ∧ a0.toInt < (I 100 0).toInt ∧ 0 ≤ a1.toInt ∧ a1.toInt < (I 100 1).toInt)) ∧ 0 ≤ r.toInt ∧ r.toInt ≤ 1)) (BM D A) A) 0 0 A := by
  refine m_ofW (by decide) (Nat.le_of_ble_eq_true rfl) ?_
  intro p e s m below meth c ls args hC hE hM hA hS hl
  obtain ⟨hx, hb, hml, hown, hts, hr, hlocks, hin⟩ := hC
  have k0 : (0 : Int32).toInt = 0 := by decide
  have k1 : (1 : Int32).toInt = 1 := by decide
  have k24 : (24 : Int32).toInt = 24 := by decide
  have hl : lv_has ls 3 [(0, .ref (ad (100))), (1, .int (a0)), (2, .int (a1))] := hl
  refine lv_iload_n hx hb dX8_isOpen_0 rfl (lv_at hl 1 rfl) ?_
  refine lv_if_lt (tgt := 42) hx hb dX8_isOpen_1 (by decide) (fun c1 => ?_) (fun c1 => ?_)
  · have hc1 := c1
    have q1 := q_lt hc1
    refine lv_iconst (v := (0)) hx hb dX8_isOpen_42 (by decide) ?_
    exact m_zret hx hb hr rfl hlocks hM hS (Nat.le_of_ble_eq_true rfl) (Nat.le_of_ble_eq_true rfl) ⟨rfl, (by first | omega | decide)⟩ dX8_isOpen_43
  · have hc1 := c1
    have q1 := q_nlt hc1
    refine lv_iload_n hx hb dX8_isOpen_4 rfl (lv_at hl 1 rfl) ?_
    refine lv_aload_n hx hb dX8_isOpen_5 rfl (lv_at hl 0 rfl) ?_
    refine m_geti (100) 0 hx hb hts hown hE oc8 hM (hG.1 100 (by decide)) rfl (by decide) rfl tb_34 dX8_isOpen_6 ?_
    have g2 := hI.get (100) 0 (lo := 0) (hi := 24) rfl
    refine lv_icmp_ge (tgt := 42) hx hb dX8_isOpen_9 (by decide) (fun c3 => ?_) (fun c3 => ?_)
    · have hc3 := c3
      have q3 := q_le hc3
      refine lv_iconst (v := (0)) hx hb dX8_isOpen_42 (by decide) ?_
      exact m_zret hx hb hr rfl hlocks hM hS (Nat.le_of_ble_eq_true rfl) (Nat.le_of_ble_eq_true rfl) ⟨rfl, (by first | omega | decide)⟩ dX8_isOpen_43
    · have hc3 := c3
      have q3 := q_nle hc3
      refine lv_iload_n hx hb dX8_isOpen_12 rfl (lv_at hl 2 rfl) ?_
      refine lv_if_lt (tgt := 42) hx hb dX8_isOpen_13 (by decide) (fun c4 => ?_) (fun c4 => ?_)
      · have hc4 := c4
        have q4 := q_lt hc4
        refine lv_iconst (v := (0)) hx hb dX8_isOpen_42 (by decide) ?_
        exact m_zret hx hb hr rfl hlocks hM hS (Nat.le_of_ble_eq_true rfl) (Nat.le_of_ble_eq_true rfl) ⟨rfl, (by first | omega | decide)⟩ dX8_isOpen_43
      · have hc4 := c4
        have q4 := q_nlt hc4
        refine lv_iload_n hx hb dX8_isOpen_16 rfl (lv_at hl 2 rfl) ?_
        refine lv_aload_n hx hb dX8_isOpen_17 rfl (lv_at hl 0 rfl) ?_
        refine m_geti (100) 1 hx hb hts hown hE oc8 hM (hG.1 100 (by decide)) rfl (by decide) rfl tb_37 dX8_isOpen_18 ?_
        have g5 := hI.get (100) 1 (lo := 0) (hi := 24) rfl
        refine lv_icmp_ge (tgt := 42) hx hb dX8_isOpen_21 (by decide) (fun c6 => ?_) (fun c6 => ?_)
        · have hc6 := c6
          have q6 := q_le hc6
          refine lv_iconst (v := (0)) hx hb dX8_isOpen_42 (by decide) ?_
          exact m_zret hx hb hr rfl hlocks hM hS (Nat.le_of_ble_eq_true rfl) (Nat.le_of_ble_eq_true rfl) ⟨rfl, (by first | omega | decide)⟩ dX8_isOpen_43
        · have hc6 := c6
          have q6 := q_nle hc6
          refine lv_aload_n hx hb dX8_isOpen_24 rfl (lv_at hl 0 rfl) ?_
          refine m_getr (100) 10 (101) hx hb hts hown hE oc8 hM (hG.1 100 (by decide)) rfl (by decide) rfl (hG.2 (100, 10, 101) (by decide)) (by decide) tb_66 dX8_isOpen_25 ?_
          refine lv_bipush (v := (24)) hx hb dX8_isOpen_28 (by decide) ?_
          refine lv_iload_n hx hb dX8_isOpen_30 rfl (lv_at hl 2 rfl) ?_
          refine lv_imul hx hb dX8_isOpen_31 ?_
          refine lv_topi (fun v7 ev7 => ?_)
          have tv7 := a_mulL (c := 24) ev7 (by decide) (by omega) (by omega)
          refine lv_iload_n hx hb dX8_isOpen_32 rfl (lv_at hl 1 rfl) ?_
          refine lv_iadd hx hb dX8_isOpen_33 ?_
          refine lv_topi (fun v8 ev8 => ?_)
          have tv8 := a_add ev8 (by omega) (by omega)
          refine m_iald (101) hx hb hE hM (hG.1 101 (by decide)) rfl (vp_in_iff.mpr (by omega)) dX8_isOpen_34 ?_
          refine lv_if_ne (tgt := 42) hx hb dX8_isOpen_35 (by decide) (fun c9 => ?_) (fun c9 => ?_)
          · have hc9 := c9
            have q9 := q_ne hc9
            refine lv_iconst (v := (0)) hx hb dX8_isOpen_42 (by decide) ?_
            exact m_zret hx hb hr rfl hlocks hM hS (Nat.le_of_ble_eq_true rfl) (Nat.le_of_ble_eq_true rfl) ⟨rfl, (by first | omega | decide)⟩ dX8_isOpen_43
          · have hc9 := c9
            have q9 := q_eq hc9
            refine lv_iconst (v := (1)) hx hb dX8_isOpen_38 (by decide) ?_
            refine lv_goto (tgt := 43) hx hb dX8_isOpen_39 (by decide) ?_
            exact m_zret hx hb hr rfl hlocks hM hS (Nat.le_of_ble_eq_true rfl) (Nat.le_of_ble_eq_true rfl) ⟨rfl, (by first | omega | decide)⟩ dX8_isOpen_43
theorem dX8_hasMirror_0 : decode cX8_hasMirror 0 = .ok (.iload_n 1, 1) := by decide +kernel
theorem dX8_hasMirror_1 : decode cX8_hasMirror 1 = .ok (.ifCond .lt 15, 3) := by decide +kernel
theorem dX8_hasMirror_4 : decode cX8_hasMirror 4 = .ok (.iload_n 1, 1) := by decide +kernel
theorem dX8_hasMirror_5 : decode cX8_hasMirror 5 = .ok (.aload_n 0, 1) := by decide +kernel
theorem dX8_hasMirror_6 : decode cX8_hasMirror 6 = .ok (.getfield 61, 3) := by decide +kernel
theorem dX8_hasMirror_9 : decode cX8_hasMirror 9 = .ok (.if_icmp .ge 7, 3) := by decide +kernel
theorem dX8_hasMirror_12 : decode cX8_hasMirror 12 = .ok (.iconst 1, 1) := by decide +kernel
theorem dX8_hasMirror_13 : decode cX8_hasMirror 13 = .ok (.goto 4, 3) := by decide +kernel
theorem dX8_hasMirror_16 : decode cX8_hasMirror 16 = .ok (.iconst 0, 1) := by decide +kernel
theorem dX8_hasMirror_17 : decode cX8_hasMirror 17 = .ok (.ireturn, 1) := by decide +kernel
theorem ce_X8_hasMirror : CeV RX8 yX8_hasMirror cX8_hasMirror 2 (some .boolean) 1 := ⟨tb_509, tb_510, tb_2, tb_511, rfl, by decide, by decide, by decide +kernel⟩
set_option maxHeartbeats 4000000 in
set_option maxRecDepth 20000 in
theorem V_X8_hasMirror_100 (l : Launch) (D : va_G) (A : Nat → Prop) (ad : Nat → Nat) (ns : List Nat) (I : MI) (L : ML) (G : MG) (a0 : Int32) (hG : SGC ns G) (hI : INV I) : Met l yX8_hasMirror (wd yX8_hasMirror cX8_hasMirror 2 (some .boolean)) ({ frames := 0, cells := 0, slots := 0, locals := 0 }) (va_Pc [.ref (ad (100)), .int a0] (PM D A ad ns I L G)) (va_Qi (fun r u => u = (ad, ns, I, L, G) ∧ (Bo r (0 ≤ a0.toInt ∧ a0.toInt < (I 100 8).toInt))) (BM D A) A) 0 0 A := by
  refine m_ofW (by decide) (Nat.le_of_ble_eq_true rfl) ?_
  intro p e s m below meth c ls args hC hE hM hA hS hl
  obtain ⟨hx, hb, hml, hown, hts, hr, hlocks, hin⟩ := hC
  have k0 : (0 : Int32).toInt = 0 := by decide
  have k1 : (1 : Int32).toInt = 1 := by decide
  have hl : lv_has ls 2 [(0, .ref (ad (100))), (1, .int (a0))] := hl
  refine lv_iload_n hx hb dX8_hasMirror_0 rfl (lv_at hl 1 rfl) ?_
  refine lv_if_lt (tgt := 16) hx hb dX8_hasMirror_1 (by decide) (fun c1 => ?_) (fun c1 => ?_)
  · have hc1 := c1
    have q1 := q_lt hc1
    refine lv_iconst (v := (0)) hx hb dX8_hasMirror_16 (by decide) ?_
    exact m_zret hx hb hr rfl hlocks hM hS (Nat.le_of_ble_eq_true rfl) (Nat.le_of_ble_eq_true rfl) ⟨rfl, (Bo.n (by omega))⟩ dX8_hasMirror_17
  · have hc1 := c1
    have q1 := q_nlt hc1
    refine lv_iload_n hx hb dX8_hasMirror_4 rfl (lv_at hl 1 rfl) ?_
    refine lv_aload_n hx hb dX8_hasMirror_5 rfl (lv_at hl 0 rfl) ?_
    refine m_geti (100) 8 hx hb hts hown hE oc8 hM (hG.1 100 (by decide)) rfl (by decide) rfl tb_59 dX8_hasMirror_6 ?_
    have g2 := hI.get (100) 8 (lo := 0) (hi := 24) rfl
    refine lv_icmp_ge (tgt := 16) hx hb dX8_hasMirror_9 (by decide) (fun c3 => ?_) (fun c3 => ?_)
    · have hc3 := c3
      have q3 := q_le hc3
      refine lv_iconst (v := (0)) hx hb dX8_hasMirror_16 (by decide) ?_
      exact m_zret hx hb hr rfl hlocks hM hS (Nat.le_of_ble_eq_true rfl) (Nat.le_of_ble_eq_true rfl) ⟨rfl, (Bo.n (by omega))⟩ dX8_hasMirror_17
    · have hc3 := c3
      have q3 := q_nle hc3
      refine lv_iconst (v := (1)) hx hb dX8_hasMirror_12 (by decide) ?_
      refine lv_goto (tgt := 17) hx hb dX8_hasMirror_13 (by decide) ?_
      exact m_zret hx hb hr rfl hlocks hM hS (Nat.le_of_ble_eq_true rfl) (Nat.le_of_ble_eq_true rfl) ⟨rfl, (Bo.y (by omega))⟩ dX8_hasMirror_17
theorem dX8_hasYard_0 : decode cX8_hasYard 0 = .ok (.iload_n 1, 1) := by decide +kernel
theorem dX8_hasYard_1 : decode cX8_hasYard 1 = .ok (.ifCond .lt 15, 3) := by decide +kernel
theorem dX8_hasYard_4 : decode cX8_hasYard 4 = .ok (.iload_n 1, 1) := by decide +kernel
theorem dX8_hasYard_5 : decode cX8_hasYard 5 = .ok (.aload_n 0, 1) := by decide +kernel
theorem dX8_hasYard_6 : decode cX8_hasYard 6 = .ok (.getfield 64, 3) := by decide +kernel
theorem dX8_hasYard_9 : decode cX8_hasYard 9 = .ok (.if_icmp .ge 7, 3) := by decide +kernel
theorem dX8_hasYard_12 : decode cX8_hasYard 12 = .ok (.iconst 1, 1) := by decide +kernel
theorem dX8_hasYard_13 : decode cX8_hasYard 13 = .ok (.goto 4, 3) := by decide +kernel
theorem dX8_hasYard_16 : decode cX8_hasYard 16 = .ok (.iconst 0, 1) := by decide +kernel
theorem dX8_hasYard_17 : decode cX8_hasYard 17 = .ok (.ireturn, 1) := by decide +kernel
theorem ce_X8_hasYard : CeV RX8 yX8_hasYard cX8_hasYard 2 (some .boolean) 1 := ⟨tb_894, tb_895, tb_2, tb_896, rfl, by decide, by decide, by decide +kernel⟩
set_option maxHeartbeats 4000000 in
set_option maxRecDepth 20000 in
theorem V_X8_hasYard_100 (l : Launch) (D : va_G) (A : Nat → Prop) (ad : Nat → Nat) (ns : List Nat) (I : MI) (L : ML) (G : MG) (a0 : Int32) (hG : SGC ns G) (hI : INV I) : Met l yX8_hasYard (wd yX8_hasYard cX8_hasYard 2 (some .boolean)) ({ frames := 0, cells := 0, slots := 0, locals := 0 }) (va_Pc [.ref (ad (100)), .int a0] (PM D A ad ns I L G)) (va_Qi (fun r u => u = (ad, ns, I, L, G) ∧ (Bo r (0 ≤ a0.toInt ∧ a0.toInt < (I 100 9).toInt))) (BM D A) A) 0 0 A := by
  refine m_ofW (by decide) (Nat.le_of_ble_eq_true rfl) ?_
  intro p e s m below meth c ls args hC hE hM hA hS hl
  obtain ⟨hx, hb, hml, hown, hts, hr, hlocks, hin⟩ := hC
  have k0 : (0 : Int32).toInt = 0 := by decide
  have k1 : (1 : Int32).toInt = 1 := by decide
  have hl : lv_has ls 2 [(0, .ref (ad (100))), (1, .int (a0))] := hl
  refine lv_iload_n hx hb dX8_hasYard_0 rfl (lv_at hl 1 rfl) ?_
  refine lv_if_lt (tgt := 16) hx hb dX8_hasYard_1 (by decide) (fun c1 => ?_) (fun c1 => ?_)
  · have hc1 := c1
    have q1 := q_lt hc1
    refine lv_iconst (v := (0)) hx hb dX8_hasYard_16 (by decide) ?_
    exact m_zret hx hb hr rfl hlocks hM hS (Nat.le_of_ble_eq_true rfl) (Nat.le_of_ble_eq_true rfl) ⟨rfl, (Bo.n (by omega))⟩ dX8_hasYard_17
  · have hc1 := c1
    have q1 := q_nlt hc1
    refine lv_iload_n hx hb dX8_hasYard_4 rfl (lv_at hl 1 rfl) ?_
    refine lv_aload_n hx hb dX8_hasYard_5 rfl (lv_at hl 0 rfl) ?_
    refine m_geti (100) 9 hx hb hts hown hE oc8 hM (hG.1 100 (by decide)) rfl (by decide) rfl tb_63 dX8_hasYard_6 ?_
    have g2 := hI.get (100) 9 (lo := 0) (hi := 8) rfl
    refine lv_icmp_ge (tgt := 16) hx hb dX8_hasYard_9 (by decide) (fun c3 => ?_) (fun c3 => ?_)
    · have hc3 := c3
      have q3 := q_le hc3
      refine lv_iconst (v := (0)) hx hb dX8_hasYard_16 (by decide) ?_
      exact m_zret hx hb hr rfl hlocks hM hS (Nat.le_of_ble_eq_true rfl) (Nat.le_of_ble_eq_true rfl) ⟨rfl, (Bo.n (by omega))⟩ dX8_hasYard_17
    · have hc3 := c3
      have q3 := q_nle hc3
      refine lv_iconst (v := (1)) hx hb dX8_hasYard_12 (by decide) ?_
      refine lv_goto (tgt := 17) hx hb dX8_hasYard_13 (by decide) ?_
      exact m_zret hx hb hr rfl hlocks hM hS (Nat.le_of_ble_eq_true rfl) (Nat.le_of_ble_eq_true rfl) ⟨rfl, (Bo.y (by omega))⟩ dX8_hasYard_17
theorem dX8_isLit_0 : decode cX8_isLit 0 = .ok (.aload_n 0, 1) := by decide +kernel
theorem dX8_isLit_1 : decode cX8_isLit 1 = .ok (.getfield 36, 3) := by decide +kernel
theorem dX8_isLit_4 : decode cX8_isLit 4 = .ok (.ifCond .le 35, 3) := by decide +kernel
theorem dX8_isLit_7 : decode cX8_isLit 7 = .ok (.iload_n 1, 1) := by decide +kernel
theorem dX8_isLit_8 : decode cX8_isLit 8 = .ok (.ifCond .lt 31, 3) := by decide +kernel
theorem dX8_isLit_11 : decode cX8_isLit 11 = .ok (.iload_n 1, 1) := by decide +kernel
theorem dX8_isLit_12 : decode cX8_isLit 12 = .ok (.bipush 24, 2) := by decide +kernel
theorem dX8_isLit_14 : decode cX8_isLit 14 = .ok (.if_icmp .ge 25, 3) := by decide +kernel
theorem dX8_isLit_17 : decode cX8_isLit 17 = .ok (.aload_n 0, 1) := by decide +kernel
theorem dX8_isLit_18 : decode cX8_isLit 18 = .ok (.getfield 24, 3) := by decide +kernel
theorem dX8_isLit_21 : decode cX8_isLit 21 = .ok (.aload_n 0, 1) := by decide +kernel
theorem dX8_isLit_22 : decode cX8_isLit 22 = .ok (.getfield 52, 3) := by decide +kernel
theorem dX8_isLit_25 : decode cX8_isLit 25 = .ok (.bipush 24, 2) := by decide +kernel
theorem dX8_isLit_27 : decode cX8_isLit 27 = .ok (.imul, 1) := by decide +kernel
theorem dX8_isLit_28 : decode cX8_isLit 28 = .ok (.iload_n 1, 1) := by decide +kernel
theorem dX8_isLit_29 : decode cX8_isLit 29 = .ok (.iadd, 1) := by decide +kernel
theorem dX8_isLit_30 : decode cX8_isLit 30 = .ok (.iaload, 1) := by decide +kernel
theorem dX8_isLit_31 : decode cX8_isLit 31 = .ok (.iconst (-1), 1) := by decide +kernel
theorem dX8_isLit_32 : decode cX8_isLit 32 = .ok (.if_icmp .eq 7, 3) := by decide +kernel
theorem dX8_isLit_35 : decode cX8_isLit 35 = .ok (.iconst 1, 1) := by decide +kernel
theorem dX8_isLit_36 : decode cX8_isLit 36 = .ok (.goto 4, 3) := by decide +kernel
theorem dX8_isLit_39 : decode cX8_isLit 39 = .ok (.iconst 0, 1) := by decide +kernel
theorem dX8_isLit_40 : decode cX8_isLit 40 = .ok (.ireturn, 1) := by decide +kernel
theorem ce_X8_isLit : CeV RX8 yX8_isLit cX8_isLit 2 (some .boolean) 1 := ⟨tb_768, tb_769, tb_2, tb_770, rfl, by decide, by decide, by decide +kernel⟩
set_option maxHeartbeats 4000000 in
set_option maxRecDepth 20000 in
theorem V_X8_isLit_100 (l : Launch) (D : va_G) (A : Nat → Prop) (ad : Nat → Nat) (ns : List Nat) (I : MI) (L : ML) (G : MG) (a0 : Int32) (hG : SGC ns G) (hI : INV I) : Met l yX8_isLit (wd yX8_isLit cX8_isLit 2 (some .boolean)) ({ frames := 0, cells := 0, slots := 0, locals := 0 }) (va_Pc [.ref (ad (100)), .int a0] (PM D A ad ns I L G)) (va_Qi (fun r u => u = (ad, ns, I, L, G) ∧ (Bo r (0 < (I 100 0).toInt ∧ Lit 100 I a0))) (BM D A) A) 0 0 A := by
  refine m_ofW (by decide) (Nat.le_of_ble_eq_true rfl) ?_
  intro p e s m below meth c ls args hC hE hM hA hS hl
  obtain ⟨hx, hb, hml, hown, hts, hr, hlocks, hin⟩ := hC
  have km1 : (-1 : Int32).toInt = -1 := by decide
  have k0 : (0 : Int32).toInt = 0 := by decide
  have k1 : (1 : Int32).toInt = 1 := by decide
  have k24 : (24 : Int32).toInt = 24 := by decide
  have hl : lv_has ls 2 [(0, .ref (ad (100))), (1, .int (a0))] := hl
  refine lv_aload_n hx hb dX8_isLit_0 rfl (lv_at hl 0 rfl) ?_
  refine m_geti (100) 0 hx hb hts hown hE oc8 hM (hG.1 100 (by decide)) rfl (by decide) rfl tb_34 dX8_isLit_1 ?_
  have g1 := hI.get (100) 0 (lo := 0) (hi := 24) rfl
  refine lv_if_le (tgt := 39) hx hb dX8_isLit_4 (by decide) (fun c2 => ?_) (fun c2 => ?_)
  · have hc2 := c2
    have q2 := q_le hc2
    refine lv_iconst (v := (0)) hx hb dX8_isLit_39 (by decide) ?_
    exact m_zret hx hb hr rfl hlocks hM hS (Nat.le_of_ble_eq_true rfl) (Nat.le_of_ble_eq_true rfl) ⟨rfl, (by exact Bo.n (by simp only [Lit, Nat.reduceAdd]; omega))⟩ dX8_isLit_40
  · have hc2 := c2
    have q2 := q_nle hc2
    refine lv_iload_n hx hb dX8_isLit_7 rfl (lv_at hl 1 rfl) ?_
    refine lv_if_lt (tgt := 39) hx hb dX8_isLit_8 (by decide) (fun c3 => ?_) (fun c3 => ?_)
    · have hc3 := c3
      have q3 := q_lt hc3
      refine lv_iconst (v := (0)) hx hb dX8_isLit_39 (by decide) ?_
      exact m_zret hx hb hr rfl hlocks hM hS (Nat.le_of_ble_eq_true rfl) (Nat.le_of_ble_eq_true rfl) ⟨rfl, (by exact Bo.n (by simp only [Lit, Nat.reduceAdd]; omega))⟩ dX8_isLit_40
    · have hc3 := c3
      have q3 := q_nlt hc3
      refine lv_iload_n hx hb dX8_isLit_11 rfl (lv_at hl 1 rfl) ?_
      refine lv_bipush (v := (24)) hx hb dX8_isLit_12 (by decide) ?_
      refine lv_icmp_ge (tgt := 39) hx hb dX8_isLit_14 (by decide) (fun c4 => ?_) (fun c4 => ?_)
      · have hc4 := c4
        have q4 := q_le hc4
        refine lv_iconst (v := (0)) hx hb dX8_isLit_39 (by decide) ?_
        exact m_zret hx hb hr rfl hlocks hM hS (Nat.le_of_ble_eq_true rfl) (Nat.le_of_ble_eq_true rfl) ⟨rfl, (by exact Bo.n (by simp only [Lit, Nat.reduceAdd]; omega))⟩ dX8_isLit_40
      · have hc4 := c4
        have q4 := q_nle hc4
        refine lv_aload_n hx hb dX8_isLit_17 rfl (lv_at hl 0 rfl) ?_
        refine m_getr (100) 14 (105) hx hb hts hown hE oc8 hM (hG.1 100 (by decide)) rfl (by decide) rfl (hG.2 (100, 14, 105) (by decide)) (by decide) tb_78 dX8_isLit_18 ?_
        refine lv_aload_n hx hb dX8_isLit_21 rfl (lv_at hl 0 rfl) ?_
        refine m_geti (100) 5 hx hb hts hown hE oc8 hM (hG.1 100 (by decide)) rfl (by decide) rfl tb_51 dX8_isLit_22 ?_
        have g5 := hI.get (100) 5 (lo := 0) (hi := 11) rfl
        refine lv_bipush (v := (24)) hx hb dX8_isLit_25 (by decide) ?_
        refine lv_imul hx hb dX8_isLit_27 ?_
        refine lv_topi (fun v6 ev6 => ?_)
        have tv6 := a_mulR (c := 24) ev6 (by decide) (by omega) (by omega)
        refine lv_iload_n hx hb dX8_isLit_28 rfl (lv_at hl 1 rfl) ?_
        refine lv_iadd hx hb dX8_isLit_29 ?_
        refine lv_topi (fun v7 ev7 => ?_)
        have tv7 := a_add ev7 (by omega) (by omega)
        refine m_iald (105) hx hb hE hM (hG.1 105 (by decide)) rfl (vp_in_iff.mpr (by omega)) dX8_isLit_30 ?_
        have g8 := hI.get (105) ((v7).toNatClampNeg) (lo := -1) (hi := 7) rfl
        refine lv_iconst (v := (-1)) hx hb dX8_isLit_31 (by decide) ?_
        refine lv_icmp_eq (tgt := 39) hx hb dX8_isLit_32 (by decide) (fun c9 => ?_) (fun c9 => ?_)
        · have hc9 := c9
          have q9 := q_eq hc9
          refine lv_iconst (v := (0)) hx hb dX8_isLit_39 (by decide) ?_
          exact m_zret hx hb hr rfl hlocks hM hS (Nat.le_of_ble_eq_true rfl) (Nat.le_of_ble_eq_true rfl) ⟨rfl, (by subst ev7; subst ev6; exact Bo.n (by simp only [Lit, Nat.reduceAdd]; omega))⟩ dX8_isLit_40
        · have hc9 := c9
          have q9 := q_ne hc9
          refine lv_iconst (v := (1)) hx hb dX8_isLit_35 (by decide) ?_
          refine lv_goto (tgt := 40) hx hb dX8_isLit_36 (by decide) ?_
          exact m_zret hx hb hr rfl hlocks hM hS (Nat.le_of_ble_eq_true rfl) (Nat.le_of_ble_eq_true rfl) ⟨rfl, (by subst ev7; subst ev6; exact Bo.y (by simp only [Lit, Nat.reduceAdd]; omega))⟩ dX8_isLit_40
theorem dX8_wayOf_0 : decode cX8_wayOf 0 = .ok (.aload_n 0, 1) := by decide +kernel
theorem dX8_wayOf_1 : decode cX8_wayOf 1 = .ok (.getfield 24, 3) := by decide +kernel
theorem dX8_wayOf_4 : decode cX8_wayOf 4 = .ok (.aload_n 0, 1) := by decide +kernel
theorem dX8_wayOf_5 : decode cX8_wayOf 5 = .ok (.getfield 52, 3) := by decide +kernel
theorem dX8_wayOf_8 : decode cX8_wayOf 8 = .ok (.bipush 24, 2) := by decide +kernel
theorem dX8_wayOf_10 : decode cX8_wayOf 10 = .ok (.imul, 1) := by decide +kernel
theorem dX8_wayOf_11 : decode cX8_wayOf 11 = .ok (.iload_n 1, 1) := by decide +kernel
theorem dX8_wayOf_12 : decode cX8_wayOf 12 = .ok (.iadd, 1) := by decide +kernel
theorem dX8_wayOf_13 : decode cX8_wayOf 13 = .ok (.iaload, 1) := by decide +kernel
theorem dX8_wayOf_14 : decode cX8_wayOf 14 = .ok (.ireturn, 1) := by decide +kernel
theorem ce_X8_wayOf : CeV RX8 yX8_wayOf cX8_wayOf 2 (some .int) 1 := ⟨tb_772, tb_773, tb_2, tb_774, rfl, by decide, by decide, by decide +kernel⟩
set_option maxHeartbeats 4000000 in
set_option maxRecDepth 20000 in
theorem V_X8_wayOf_100 (l : Launch) (D : va_G) (A : Nat → Prop) (ad : Nat → Nat) (ns : List Nat) (I : MI) (L : ML) (G : MG) (a0 : Int32) (hG : SGC ns G) (hI : INV I) (ha0 : 0 ≤ a0.toInt ∧ a0.toInt ≤ 23) : Met l yX8_wayOf (wd yX8_wayOf cX8_wayOf 2 (some .int)) ({ frames := 0, cells := 0, slots := 0, locals := 0 }) (va_Pc [.ref (ad (100)), .int a0] (PM D A ad ns I L G)) (va_Qi (fun r u => u = (ad, ns, I, L, G) ∧ (r = I 105 (I 100 5 * 24 + a0).toNatClampNeg)) (BM D A) A) 0 0 A := by
  refine m_ofW (by decide) (Nat.le_of_ble_eq_true rfl) ?_
  intro p e s m below meth c ls args hC hE hM hA hS hl
  obtain ⟨hx, hb, hml, hown, hts, hr, hlocks, hin⟩ := hC
  have k0 : (0 : Int32).toInt = 0 := by decide
  have k24 : (24 : Int32).toInt = 24 := by decide
  have hl : lv_has ls 2 [(0, .ref (ad (100))), (1, .int (a0))] := hl
  refine lv_aload_n hx hb dX8_wayOf_0 rfl (lv_at hl 0 rfl) ?_
  refine m_getr (100) 14 (105) hx hb hts hown hE oc8 hM (hG.1 100 (by decide)) rfl (by decide) rfl (hG.2 (100, 14, 105) (by decide)) (by decide) tb_78 dX8_wayOf_1 ?_
  refine lv_aload_n hx hb dX8_wayOf_4 rfl (lv_at hl 0 rfl) ?_
  refine m_geti (100) 5 hx hb hts hown hE oc8 hM (hG.1 100 (by decide)) rfl (by decide) rfl tb_51 dX8_wayOf_5 ?_
  have g1 := hI.get (100) 5 (lo := 0) (hi := 11) rfl
  refine lv_bipush (v := (24)) hx hb dX8_wayOf_8 (by decide) ?_
  refine lv_imul hx hb dX8_wayOf_10 ?_
  refine lv_topi (fun v2 ev2 => ?_)
  have tv2 := a_mulR (c := 24) ev2 (by decide) (by omega) (by omega)
  refine lv_iload_n hx hb dX8_wayOf_11 rfl (lv_at hl 1 rfl) ?_
  refine lv_iadd hx hb dX8_wayOf_12 ?_
  refine lv_topi (fun v3 ev3 => ?_)
  have tv3 := a_add ev3 (by omega) (by omega)
  refine m_iald (105) hx hb hE hM (hG.1 105 (by decide)) rfl (vp_in_iff.mpr (by omega)) dX8_wayOf_13 ?_
  have g4 := hI.get (105) ((v3).toNatClampNeg) (lo := -1) (hi := 7) rfl
  exact m_iret hx hb hr hlocks hM hS (Nat.le_of_ble_eq_true rfl) (Nat.le_of_ble_eq_true rfl) ⟨rfl, (by subst ev3; subst ev2; rfl)⟩ dX8_wayOf_14
theorem dX8_strengthOf_0 : decode cX8_strengthOf 0 = .ok (.aload_n 0, 1) := by decide +kernel
theorem dX8_strengthOf_1 : decode cX8_strengthOf 1 = .ok (.getfield 27, 3) := by decide +kernel
theorem dX8_strengthOf_4 : decode cX8_strengthOf 4 = .ok (.aload_n 0, 1) := by decide +kernel
theorem dX8_strengthOf_5 : decode cX8_strengthOf 5 = .ok (.getfield 52, 3) := by decide +kernel
theorem dX8_strengthOf_8 : decode cX8_strengthOf 8 = .ok (.bipush 24, 2) := by decide +kernel
theorem dX8_strengthOf_10 : decode cX8_strengthOf 10 = .ok (.imul, 1) := by decide +kernel
theorem dX8_strengthOf_11 : decode cX8_strengthOf 11 = .ok (.iload_n 1, 1) := by decide +kernel
theorem dX8_strengthOf_12 : decode cX8_strengthOf 12 = .ok (.iadd, 1) := by decide +kernel
theorem dX8_strengthOf_13 : decode cX8_strengthOf 13 = .ok (.iaload, 1) := by decide +kernel
theorem dX8_strengthOf_14 : decode cX8_strengthOf 14 = .ok (.ireturn, 1) := by decide +kernel
theorem ce_X8_strengthOf : CeV RX8 yX8_strengthOf cX8_strengthOf 2 (some .int) 1 := ⟨tb_811, tb_812, tb_2, tb_813, rfl, by decide, by decide, by decide +kernel⟩
set_option maxHeartbeats 4000000 in
set_option maxRecDepth 20000 in
theorem V_X8_strengthOf_100 (l : Launch) (D : va_G) (A : Nat → Prop) (ad : Nat → Nat) (ns : List Nat) (I : MI) (L : ML) (G : MG) (a0 : Int32) (hG : SGC ns G) (hI : INV I) (ha0 : 0 ≤ a0.toInt ∧ a0.toInt ≤ 23) : Met l yX8_strengthOf (wd yX8_strengthOf cX8_strengthOf 2 (some .int)) ({ frames := 0, cells := 0, slots := 0, locals := 0 }) (va_Pc [.ref (ad (100)), .int a0] (PM D A ad ns I L G)) (va_Qi (fun r u => u = (ad, ns, I, L, G) ∧ (True)) (BM D A) A) 0 0 A := by
  refine m_ofW (by decide) (Nat.le_of_ble_eq_true rfl) ?_
  intro p e s m below meth c ls args hC hE hM hA hS hl
  obtain ⟨hx, hb, hml, hown, hts, hr, hlocks, hin⟩ := hC
  have k0 : (0 : Int32).toInt = 0 := by decide
  have k24 : (24 : Int32).toInt = 24 := by decide
  have hl : lv_has ls 2 [(0, .ref (ad (100))), (1, .int (a0))] := hl
  refine lv_aload_n hx hb dX8_strengthOf_0 rfl (lv_at hl 0 rfl) ?_
  refine m_getr (100) 15 (106) hx hb hts hown hE oc8 hM (hG.1 100 (by decide)) rfl (by decide) rfl (hG.2 (100, 15, 106) (by decide)) (by decide) tb_80 dX8_strengthOf_1 ?_
  refine lv_aload_n hx hb dX8_strengthOf_4 rfl (lv_at hl 0 rfl) ?_
  refine m_geti (100) 5 hx hb hts hown hE oc8 hM (hG.1 100 (by decide)) rfl (by decide) rfl tb_51 dX8_strengthOf_5 ?_
  have g1 := hI.get (100) 5 (lo := 0) (hi := 11) rfl
  refine lv_bipush (v := (24)) hx hb dX8_strengthOf_8 (by decide) ?_
  refine lv_imul hx hb dX8_strengthOf_10 ?_
  refine lv_topi (fun v2 ev2 => ?_)
  have tv2 := a_mulR (c := 24) ev2 (by decide) (by omega) (by omega)
  refine lv_iload_n hx hb dX8_strengthOf_11 rfl (lv_at hl 1 rfl) ?_
  refine lv_iadd hx hb dX8_strengthOf_12 ?_
  refine lv_topi (fun v3 ev3 => ?_)
  have tv3 := a_add ev3 (by omega) (by omega)
  refine m_iald (106) hx hb hE hM (hG.1 106 (by decide)) rfl (vp_in_iff.mpr (by omega)) dX8_strengthOf_13 ?_
  exact m_iret hx hb hr hlocks hM hS (Nat.le_of_ble_eq_true rfl) (Nat.le_of_ble_eq_true rfl) ⟨rfl, trivial⟩ dX8_strengthOf_14
theorem dX8_setWay_0 : decode cX8_setWay 0 = .ok (.aload_n 0, 1) := by decide +kernel
theorem dX8_setWay_1 : decode cX8_setWay 1 = .ok (.getfield 24, 3) := by decide +kernel
theorem dX8_setWay_4 : decode cX8_setWay 4 = .ok (.aload_n 0, 1) := by decide +kernel
theorem dX8_setWay_5 : decode cX8_setWay 5 = .ok (.getfield 52, 3) := by decide +kernel
theorem dX8_setWay_8 : decode cX8_setWay 8 = .ok (.bipush 24, 2) := by decide +kernel
theorem dX8_setWay_10 : decode cX8_setWay 10 = .ok (.imul, 1) := by decide +kernel
theorem dX8_setWay_11 : decode cX8_setWay 11 = .ok (.iload_n 1, 1) := by decide +kernel
theorem dX8_setWay_12 : decode cX8_setWay 12 = .ok (.iadd, 1) := by decide +kernel
theorem dX8_setWay_13 : decode cX8_setWay 13 = .ok (.iload_n 2, 1) := by decide +kernel
theorem dX8_setWay_14 : decode cX8_setWay 14 = .ok (.iastore, 1) := by decide +kernel
theorem dX8_setWay_15 : decode cX8_setWay 15 = .ok (.return_, 1) := by decide +kernel
theorem ce_X8_setWay : CeV RX8 yX8_setWay cX8_setWay 3 none 2 := ⟨tb_1080, tb_1081, tb_2, tb_1082, rfl, by decide, by decide, by decide +kernel⟩
set_option maxHeartbeats 4000000 in
set_option maxRecDepth 20000 in
theorem V_X8_setWay_100 (l : Launch) (D : va_G) (A : Nat → Prop) (ad : Nat → Nat) (ns : List Nat) (I : MI) (L : ML) (G : MG) (a0 : Int32) (a1 : Int32) (hG : SGC ns G) (hI : INV I) (ha0 : 0 ≤ a0.toInt ∧ a0.toInt ≤ 23) (ha1 : -1 ≤ a1.toInt ∧ a1.toInt ≤ 7) : Met l yX8_setWay (wd yX8_setWay cX8_setWay 3 none) ({ frames := 0, cells := 0, slots := 0, locals := 0 }) (va_Pc [.ref (ad (100)), .int a0, .int a1] (PM D A ad ns I L G)) (va_Qv (fun u => ∃ I2 L2, u = (ad, ns, I2, L2, G) ∧ INV I2 ∧ Kp [(105, 106)] [] I I2 ∧ (a1.toInt = -1 ∨ Lit 100 I2 a0)) (BM D A) A) 0 0 A := by
  refine m_ofW (by decide) (Nat.le_of_ble_eq_true rfl) ?_
  intro p e s m below meth c ls args hC hE hM hA hS hl
  obtain ⟨hx, hb, hml, hown, hts, hr, hlocks, hin⟩ := hC
  have k0 : (0 : Int32).toInt = 0 := by decide
  have k24 : (24 : Int32).toInt = 24 := by decide
  have hK : Kp [(105, 106)] [] I I := Kp.rf
  have hl : lv_has ls 3 [(0, .ref (ad (100))), (1, .int (a0)), (2, .int (a1))] := hl
  refine lv_aload_n hx hb dX8_setWay_0 rfl (lv_at hl 0 rfl) ?_
  refine m_getr (100) 14 (105) hx hb hts hown hE oc8 hM (hG.1 100 (by decide)) rfl (by decide) rfl (hG.2 (100, 14, 105) (by decide)) (by decide) tb_78 dX8_setWay_1 ?_
  refine lv_aload_n hx hb dX8_setWay_4 rfl (lv_at hl 0 rfl) ?_
  refine m_geti (100) 5 hx hb hts hown hE oc8 hM (hG.1 100 (by decide)) rfl (by decide) rfl tb_51 dX8_setWay_5 ?_
  have g1 := hI.get (100) 5 (lo := 0) (hi := 11) rfl
  refine lv_bipush (v := (24)) hx hb dX8_setWay_8 (by decide) ?_
  refine lv_imul hx hb dX8_setWay_10 ?_
  refine lv_topi (fun v2 ev2 => ?_)
  have tv2 := a_mulR (c := 24) ev2 (by decide) (by omega) (by omega)
  refine lv_iload_n hx hb dX8_setWay_11 rfl (lv_at hl 1 rfl) ?_
  refine lv_iadd hx hb dX8_setWay_12 ?_
  refine lv_topi (fun v3 ev3 => ?_)
  have tv3 := a_add ev3 (by omega) (by omega)
  refine lv_iload_n hx hb dX8_setWay_13 rfl (lv_at hl 2 rfl) ?_
  refine m_iast (105) hx hb hE hM hS (hG.1 105 (by decide)) rfl (vp_in_iff.mpr (by omega)) dX8_setWay_14 (fun H locs I4 eI4 hM hS => ?_)
  subst eI4
  have hI := hI.put (n := 105) (k := ((v3).toNatClampNeg)) (v := a1) (lo := -1) (hi := 7) rfl (by first | omega | decide)
  have hK := hK.put (n := 105) (k := ((v3).toNatClampNeg)) (v := a1) (by first | rfl | simp [inR])
  exact m_vret hx hb hr hlocks hM hS (Nat.le_of_ble_eq_true rfl) (Nat.le_of_ble_eq_true rfl) ⟨_, _, rfl, hI, hK, (if hz : a1.toInt = -1 then Or.inl hz else Or.inr (by subst ev3; subst ev2; exact ⟨by omega, by simp [u2_v, hz]⟩))⟩ dX8_setWay_15
theorem dX8_ofMirror_0 : decode cX8_ofMirror 0 = .ok (.aload_n 0, 1) := by decide +kernel
theorem dX8_ofMirror_1 : decode cX8_ofMirror 1 = .ok (.getfield 30, 3) := by decide +kernel
theorem dX8_ofMirror_4 : decode cX8_ofMirror 4 = .ok (.iload_n 2, 1) := by decide +kernel
theorem dX8_ofMirror_5 : decode cX8_ofMirror 5 = .ok (.bipush 24, 2) := by decide +kernel
theorem dX8_ofMirror_7 : decode cX8_ofMirror 7 = .ok (.imul, 1) := by decide +kernel
theorem dX8_ofMirror_8 : decode cX8_ofMirror 8 = .ok (.iload_n 1, 1) := by decide +kernel
theorem dX8_ofMirror_9 : decode cX8_ofMirror 9 = .ok (.iadd, 1) := by decide +kernel
theorem dX8_ofMirror_10 : decode cX8_ofMirror 10 = .ok (.iaload, 1) := by decide +kernel
theorem dX8_ofMirror_11 : decode cX8_ofMirror 11 = .ok (.ireturn, 1) := by decide +kernel
theorem ce_X8_ofMirror : CeV RX8 yX8_ofMirror cX8_ofMirror 3 (some .int) 2 := ⟨tb_517, tb_518, tb_2, tb_519, rfl, by decide, by decide, by decide +kernel⟩
set_option maxHeartbeats 4000000 in
set_option maxRecDepth 20000 in
theorem V_X8_ofMirror_100 (l : Launch) (D : va_G) (A : Nat → Prop) (ad : Nat → Nat) (ns : List Nat) (I : MI) (L : ML) (G : MG) (a0 : Int32) (a1 : Int32) (hG : SGC ns G) (hI : INV I) (ha0 : 0 ≤ a0.toInt ∧ a0.toInt ≤ 23) (ha1 : 0 ≤ a1.toInt ∧ a1.toInt ≤ 9) : Met l yX8_ofMirror (wd yX8_ofMirror cX8_ofMirror 3 (some .int)) ({ frames := 0, cells := 0, slots := 0, locals := 0 }) (va_Pc [.ref (ad (100)), .int a0, .int a1] (PM D A ad ns I L G)) (va_Qi (fun r u => u = (ad, ns, I, L, G) ∧ (True)) (BM D A) A) 0 0 A := by
  refine m_ofW (by decide) (Nat.le_of_ble_eq_true rfl) ?_
  intro p e s m below meth c ls args hC hE hM hA hS hl
  obtain ⟨hx, hb, hml, hown, hts, hr, hlocks, hin⟩ := hC
  have k0 : (0 : Int32).toInt = 0 := by decide
  have k24 : (24 : Int32).toInt = 24 := by decide
  have hl : lv_has ls 3 [(0, .ref (ad (100))), (1, .int (a0)), (2, .int (a1))] := hl
  refine lv_aload_n hx hb dX8_ofMirror_0 rfl (lv_at hl 0 rfl) ?_
  refine m_getr (100) 16 (107) hx hb hts hown hE oc8 hM (hG.1 100 (by decide)) rfl (by decide) rfl (hG.2 (100, 16, 107) (by decide)) (by decide) tb_82 dX8_ofMirror_1 ?_
  refine lv_iload_n hx hb dX8_ofMirror_4 rfl (lv_at hl 2 rfl) ?_
  refine lv_bipush (v := (24)) hx hb dX8_ofMirror_5 (by decide) ?_
  refine lv_imul hx hb dX8_ofMirror_7 ?_
  refine lv_topi (fun v1 ev1 => ?_)
  have tv1 := a_mulR (c := 24) ev1 (by decide) (by omega) (by omega)
  refine lv_iload_n hx hb dX8_ofMirror_8 rfl (lv_at hl 1 rfl) ?_
  refine lv_iadd hx hb dX8_ofMirror_9 ?_
  refine lv_topi (fun v2 ev2 => ?_)
  have tv2 := a_add ev2 (by omega) (by omega)
  refine m_iald (107) hx hb hE hM (hG.1 107 (by decide)) rfl (vp_in_iff.mpr (by omega)) dX8_ofMirror_10 ?_
  exact m_iret hx hb hr hlocks hM hS (Nat.le_of_ble_eq_true rfl) (Nat.le_of_ble_eq_true rfl) ⟨rfl, trivial⟩ dX8_ofMirror_11
theorem dX8_setMirror_0 : decode cX8_setMirror 0 = .ok (.aload_n 0, 1) := by decide +kernel
theorem dX8_setMirror_1 : decode cX8_setMirror 1 = .ok (.getfield 30, 3) := by decide +kernel
theorem dX8_setMirror_4 : decode cX8_setMirror 4 = .ok (.iload_n 2, 1) := by decide +kernel
theorem dX8_setMirror_5 : decode cX8_setMirror 5 = .ok (.bipush 24, 2) := by decide +kernel
theorem dX8_setMirror_7 : decode cX8_setMirror 7 = .ok (.imul, 1) := by decide +kernel
theorem dX8_setMirror_8 : decode cX8_setMirror 8 = .ok (.iload_n 1, 1) := by decide +kernel
theorem dX8_setMirror_9 : decode cX8_setMirror 9 = .ok (.iadd, 1) := by decide +kernel
theorem dX8_setMirror_10 : decode cX8_setMirror 10 = .ok (.iload_n 3, 1) := by decide +kernel
theorem dX8_setMirror_11 : decode cX8_setMirror 11 = .ok (.iastore, 1) := by decide +kernel
theorem dX8_setMirror_12 : decode cX8_setMirror 12 = .ok (.return_, 1) := by decide +kernel
theorem ce_X8_setMirror : CeV RX8 yX8_setMirror cX8_setMirror 4 none 3 := ⟨tb_500, tb_501, tb_2, tb_502, rfl, by decide, by decide, by decide +kernel⟩
set_option maxHeartbeats 4000000 in
set_option maxRecDepth 20000 in
theorem V_X8_setMirror_100 (l : Launch) (D : va_G) (A : Nat → Prop) (ad : Nat → Nat) (ns : List Nat) (I : MI) (L : ML) (G : MG) (a0 : Int32) (a1 : Int32) (a2 : Int32) (hG : SGC ns G) (hI : INV I) (ha0 : 0 ≤ a0.toInt ∧ a0.toInt ≤ 23) (ha1 : 0 ≤ a1.toInt ∧ a1.toInt ≤ 9) : Met l yX8_setMirror (wd yX8_setMirror cX8_setMirror 4 none) ({ frames := 0, cells := 0, slots := 0, locals := 0 }) (va_Pc [.ref (ad (100)), .int a0, .int a1, .int a2] (PM D A ad ns I L G)) (va_Qv (fun u => ∃ I2 L2, u = (ad, ns, I2, L2, G) ∧ INV I2 ∧ Kp [(107, 108)] [] I I2) (BM D A) A) 0 0 A := by
  refine m_ofW (by decide) (Nat.le_of_ble_eq_true rfl) ?_
  intro p e s m below meth c ls args hC hE hM hA hS hl
  obtain ⟨hx, hb, hml, hown, hts, hr, hlocks, hin⟩ := hC
  have k0 : (0 : Int32).toInt = 0 := by decide
  have k24 : (24 : Int32).toInt = 24 := by decide
  have hK : Kp [(107, 108)] [] I I := Kp.rf
  have hl : lv_has ls 4 [(0, .ref (ad (100))), (1, .int (a0)), (2, .int (a1)), (3, .int (a2))] := hl
  refine lv_aload_n hx hb dX8_setMirror_0 rfl (lv_at hl 0 rfl) ?_
  refine m_getr (100) 16 (107) hx hb hts hown hE oc8 hM (hG.1 100 (by decide)) rfl (by decide) rfl (hG.2 (100, 16, 107) (by decide)) (by decide) tb_82 dX8_setMirror_1 ?_
  refine lv_iload_n hx hb dX8_setMirror_4 rfl (lv_at hl 2 rfl) ?_
  refine lv_bipush (v := (24)) hx hb dX8_setMirror_5 (by decide) ?_
  refine lv_imul hx hb dX8_setMirror_7 ?_
  refine lv_topi (fun v1 ev1 => ?_)
  have tv1 := a_mulR (c := 24) ev1 (by decide) (by omega) (by omega)
  refine lv_iload_n hx hb dX8_setMirror_8 rfl (lv_at hl 1 rfl) ?_
  refine lv_iadd hx hb dX8_setMirror_9 ?_
  refine lv_topi (fun v2 ev2 => ?_)
  have tv2 := a_add ev2 (by omega) (by omega)
  refine lv_iload_n hx hb dX8_setMirror_10 rfl (lv_at hl 3 rfl) ?_
  refine m_iast (107) hx hb hE hM hS (hG.1 107 (by decide)) rfl (vp_in_iff.mpr (by omega)) dX8_setMirror_11 (fun H locs I3 eI3 hM hS => ?_)
  subst eI3
  have hI := hI.putF (n := 107) (k := ((v2).toNatClampNeg)) (v := a2) rfl
  have hK := hK.put (n := 107) (k := ((v2).toNatClampNeg)) (v := a2) (by first | rfl | simp [inR])
  exact m_vret hx hb hr hlocks hM hS (Nat.le_of_ble_eq_true rfl) (Nat.le_of_ble_eq_true rfl) ⟨_, _, rfl, hI, hK⟩ dX8_setMirror_12
theorem dX8_ofYard_0 : decode cX8_ofYard 0 = .ok (.aload_n 0, 1) := by decide +kernel
theorem dX8_ofYard_1 : decode cX8_ofYard 1 = .ok (.getfield 33, 3) := by decide +kernel
theorem dX8_ofYard_4 : decode cX8_ofYard 4 = .ok (.iload_n 2, 1) := by decide +kernel
theorem dX8_ofYard_5 : decode cX8_ofYard 5 = .ok (.bipush 8, 2) := by decide +kernel
theorem dX8_ofYard_7 : decode cX8_ofYard 7 = .ok (.imul, 1) := by decide +kernel
theorem dX8_ofYard_8 : decode cX8_ofYard 8 = .ok (.iload_n 1, 1) := by decide +kernel
theorem dX8_ofYard_9 : decode cX8_ofYard 9 = .ok (.iadd, 1) := by decide +kernel
theorem dX8_ofYard_10 : decode cX8_ofYard 10 = .ok (.iaload, 1) := by decide +kernel
theorem dX8_ofYard_11 : decode cX8_ofYard 11 = .ok (.ireturn, 1) := by decide +kernel
theorem ce_X8_ofYard : CeV RX8 yX8_ofYard cX8_ofYard 3 (some .int) 2 := ⟨tb_835, tb_836, tb_2, tb_837, rfl, by decide, by decide, by decide +kernel⟩
set_option maxHeartbeats 4000000 in
set_option maxRecDepth 20000 in
theorem V_X8_ofYard_100 (l : Launch) (D : va_G) (A : Nat → Prop) (ad : Nat → Nat) (ns : List Nat) (I : MI) (L : ML) (G : MG) (a0 : Int32) (a1 : Int32) (hG : SGC ns G) (hI : INV I) (ha0 : 0 ≤ a0.toInt ∧ a0.toInt ≤ 7) (ha1 : 0 ≤ a1.toInt ∧ a1.toInt ≤ 6) : Met l yX8_ofYard (wd yX8_ofYard cX8_ofYard 3 (some .int)) ({ frames := 0, cells := 0, slots := 0, locals := 0 }) (va_Pc [.ref (ad (100)), .int a0, .int a1] (PM D A ad ns I L G)) (va_Qi (fun r u => u = (ad, ns, I, L, G) ∧ (True)) (BM D A) A) 0 0 A := by
  refine m_ofW (by decide) (Nat.le_of_ble_eq_true rfl) ?_
  intro p e s m below meth c ls args hC hE hM hA hS hl
  obtain ⟨hx, hb, hml, hown, hts, hr, hlocks, hin⟩ := hC
  have k0 : (0 : Int32).toInt = 0 := by decide
  have k8 : (8 : Int32).toInt = 8 := by decide
  have hl : lv_has ls 3 [(0, .ref (ad (100))), (1, .int (a0)), (2, .int (a1))] := hl
  refine lv_aload_n hx hb dX8_ofYard_0 rfl (lv_at hl 0 rfl) ?_
  refine m_getr (100) 17 (108) hx hb hts hown hE oc8 hM (hG.1 100 (by decide)) rfl (by decide) rfl (hG.2 (100, 17, 108) (by decide)) (by decide) tb_83 dX8_ofYard_1 ?_
  refine lv_iload_n hx hb dX8_ofYard_4 rfl (lv_at hl 2 rfl) ?_
  refine lv_bipush (v := (8)) hx hb dX8_ofYard_5 (by decide) ?_
  refine lv_imul hx hb dX8_ofYard_7 ?_
  refine lv_topi (fun v1 ev1 => ?_)
  have tv1 := a_mulR (c := 8) ev1 (by decide) (by omega) (by omega)
  refine lv_iload_n hx hb dX8_ofYard_8 rfl (lv_at hl 1 rfl) ?_
  refine lv_iadd hx hb dX8_ofYard_9 ?_
  refine lv_topi (fun v2 ev2 => ?_)
  have tv2 := a_add ev2 (by omega) (by omega)
  refine m_iald (108) hx hb hE hM (hG.1 108 (by decide)) rfl (vp_in_iff.mpr (by omega)) dX8_ofYard_10 ?_
  exact m_iret hx hb hr hlocks hM hS (Nat.le_of_ble_eq_true rfl) (Nat.le_of_ble_eq_true rfl) ⟨rfl, trivial⟩ dX8_ofYard_11
theorem dX8_setYard_0 : decode cX8_setYard 0 = .ok (.aload_n 0, 1) := by decide +kernel
theorem dX8_setYard_1 : decode cX8_setYard 1 = .ok (.getfield 33, 3) := by decide +kernel
theorem dX8_setYard_4 : decode cX8_setYard 4 = .ok (.iload_n 2, 1) := by decide +kernel
theorem dX8_setYard_5 : decode cX8_setYard 5 = .ok (.bipush 8, 2) := by decide +kernel
theorem dX8_setYard_7 : decode cX8_setYard 7 = .ok (.imul, 1) := by decide +kernel
theorem dX8_setYard_8 : decode cX8_setYard 8 = .ok (.iload_n 1, 1) := by decide +kernel
theorem dX8_setYard_9 : decode cX8_setYard 9 = .ok (.iadd, 1) := by decide +kernel
theorem dX8_setYard_10 : decode cX8_setYard 10 = .ok (.iload_n 3, 1) := by decide +kernel
theorem dX8_setYard_11 : decode cX8_setYard 11 = .ok (.iastore, 1) := by decide +kernel
theorem dX8_setYard_12 : decode cX8_setYard 12 = .ok (.return_, 1) := by decide +kernel
theorem ce_X8_setYard : CeV RX8 yX8_setYard cX8_setYard 4 none 3 := ⟨tb_530, tb_531, tb_2, tb_532, rfl, by decide, by decide, by decide +kernel⟩
set_option maxHeartbeats 4000000 in
set_option maxRecDepth 20000 in
theorem V_X8_setYard_100 (l : Launch) (D : va_G) (A : Nat → Prop) (ad : Nat → Nat) (ns : List Nat) (I : MI) (L : ML) (G : MG) (a0 : Int32) (a1 : Int32) (a2 : Int32) (hG : SGC ns G) (hI : INV I) (ha0 : 0 ≤ a0.toInt ∧ a0.toInt ≤ 7) (ha1 : 0 ≤ a1.toInt ∧ a1.toInt ≤ 6) : Met l yX8_setYard (wd yX8_setYard cX8_setYard 4 none) ({ frames := 0, cells := 0, slots := 0, locals := 0 }) (va_Pc [.ref (ad (100)), .int a0, .int a1, .int a2] (PM D A ad ns I L G)) (va_Qv (fun u => ∃ I2 L2, u = (ad, ns, I2, L2, G) ∧ INV I2 ∧ Kp [(108, 109)] [] I I2) (BM D A) A) 0 0 A := by
  refine m_ofW (by decide) (Nat.le_of_ble_eq_true rfl) ?_
  intro p e s m below meth c ls args hC hE hM hA hS hl
  obtain ⟨hx, hb, hml, hown, hts, hr, hlocks, hin⟩ := hC
  have k0 : (0 : Int32).toInt = 0 := by decide
  have k8 : (8 : Int32).toInt = 8 := by decide
  have hK : Kp [(108, 109)] [] I I := Kp.rf
  have hl : lv_has ls 4 [(0, .ref (ad (100))), (1, .int (a0)), (2, .int (a1)), (3, .int (a2))] := hl
  refine lv_aload_n hx hb dX8_setYard_0 rfl (lv_at hl 0 rfl) ?_
  refine m_getr (100) 17 (108) hx hb hts hown hE oc8 hM (hG.1 100 (by decide)) rfl (by decide) rfl (hG.2 (100, 17, 108) (by decide)) (by decide) tb_83 dX8_setYard_1 ?_
  refine lv_iload_n hx hb dX8_setYard_4 rfl (lv_at hl 2 rfl) ?_
  refine lv_bipush (v := (8)) hx hb dX8_setYard_5 (by decide) ?_
  refine lv_imul hx hb dX8_setYard_7 ?_
  refine lv_topi (fun v1 ev1 => ?_)
  have tv1 := a_mulR (c := 8) ev1 (by decide) (by omega) (by omega)
  refine lv_iload_n hx hb dX8_setYard_8 rfl (lv_at hl 1 rfl) ?_
  refine lv_iadd hx hb dX8_setYard_9 ?_
  refine lv_topi (fun v2 ev2 => ?_)
  have tv2 := a_add ev2 (by omega) (by omega)
  refine lv_iload_n hx hb dX8_setYard_10 rfl (lv_at hl 3 rfl) ?_
  refine m_iast (108) hx hb hE hM hS (hG.1 108 (by decide)) rfl (vp_in_iff.mpr (by omega)) dX8_setYard_11 (fun H locs I3 eI3 hM hS => ?_)
  subst eI3
  have hI := hI.putF (n := 108) (k := ((v2).toNatClampNeg)) (v := a2) rfl
  have hK := hK.put (n := 108) (k := ((v2).toNatClampNeg)) (v := a2) (by first | rfl | simp [inR])
  exact m_vret hx hb hr hlocks hM hS (Nat.le_of_ble_eq_true rfl) (Nat.le_of_ble_eq_true rfl) ⟨_, _, rfl, hI, hK⟩ dX8_setYard_12
theorem dX8_isWhole_0 : decode cX8_isWhole 0 = .ok (.aload_n 0, 1) := by decide +kernel
theorem dX8_isWhole_1 : decode cX8_isWhole 1 = .ok (.getfield 30, 3) := by decide +kernel
theorem dX8_isWhole_4 : decode cX8_isWhole 4 = .ok (.sipush 192, 3) := by decide +kernel
theorem dX8_isWhole_7 : decode cX8_isWhole 7 = .ok (.iload_n 1, 1) := by decide +kernel
theorem dX8_isWhole_8 : decode cX8_isWhole 8 = .ok (.iadd, 1) := by decide +kernel
theorem dX8_isWhole_9 : decode cX8_isWhole 9 = .ok (.iaload, 1) := by decide +kernel
theorem dX8_isWhole_10 : decode cX8_isWhole 10 = .ok (.ifCond .ne 7, 3) := by decide +kernel
theorem dX8_isWhole_13 : decode cX8_isWhole 13 = .ok (.iconst 1, 1) := by decide +kernel
theorem dX8_isWhole_14 : decode cX8_isWhole 14 = .ok (.goto 4, 3) := by decide +kernel
theorem dX8_isWhole_17 : decode cX8_isWhole 17 = .ok (.iconst 0, 1) := by decide +kernel
theorem dX8_isWhole_18 : decode cX8_isWhole 18 = .ok (.ireturn, 1) := by decide +kernel
theorem ce_X8_isWhole : CeV RX8 yX8_isWhole cX8_isWhole 2 (some .boolean) 1 := ⟨tb_839, tb_840, tb_2, tb_841, rfl, by decide, by decide, by decide +kernel⟩
set_option maxHeartbeats 4000000 in
set_option maxRecDepth 20000 in
theorem V_X8_isWhole_100 (l : Launch) (D : va_G) (A : Nat → Prop) (ad : Nat → Nat) (ns : List Nat) (I : MI) (L : ML) (G : MG) (a0 : Int32) (hG : SGC ns G) (hI : INV I) (ha0 : 0 ≤ a0.toInt ∧ a0.toInt ≤ 23) : Met l yX8_isWhole (wd yX8_isWhole cX8_isWhole 2 (some .boolean)) ({ frames := 0, cells := 0, slots := 0, locals := 0 }) (va_Pc [.ref (ad (100)), .int a0] (PM D A ad ns I L G)) (va_Qi (fun r u => u = (ad, ns, I, L, G) ∧ (0 ≤ r.toInt ∧ r.toInt ≤ 1)) (BM D A) A) 0 0 A := by
  refine m_ofW (by decide) (Nat.le_of_ble_eq_true rfl) ?_
  intro p e s m below meth c ls args hC hE hM hA hS hl
  obtain ⟨hx, hb, hml, hown, hts, hr, hlocks, hin⟩ := hC
  have k0 : (0 : Int32).toInt = 0 := by decide
  have k1 : (1 : Int32).toInt = 1 := by decide
  have k192 : (192 : Int32).toInt = 192 := by decide
  have hl : lv_has ls 2 [(0, .ref (ad (100))), (1, .int (a0))] := hl
  refine lv_aload_n hx hb dX8_isWhole_0 rfl (lv_at hl 0 rfl) ?_
  refine m_getr (100) 16 (107) hx hb hts hown hE oc8 hM (hG.1 100 (by decide)) rfl (by decide) rfl (hG.2 (100, 16, 107) (by decide)) (by decide) tb_82 dX8_isWhole_1 ?_
  refine lv_sipush (v := (192)) hx hb dX8_isWhole_4 (by decide) ?_
  refine lv_iload_n hx hb dX8_isWhole_7 rfl (lv_at hl 1 rfl) ?_
  refine lv_iadd hx hb dX8_isWhole_8 ?_
  refine lv_topi (fun v1 ev1 => ?_)
  have tv1 := a_add ev1 (by omega) (by omega)
  refine m_iald (107) hx hb hE hM (hG.1 107 (by decide)) rfl (vp_in_iff.mpr (by omega)) dX8_isWhole_9 ?_
  refine lv_if_ne (tgt := 17) hx hb dX8_isWhole_10 (by decide) (fun c2 => ?_) (fun c2 => ?_)
  · have hc2 := c2
    have q2 := q_ne hc2
    refine lv_iconst (v := (0)) hx hb dX8_isWhole_17 (by decide) ?_
    exact m_zret hx hb hr rfl hlocks hM hS (Nat.le_of_ble_eq_true rfl) (Nat.le_of_ble_eq_true rfl) ⟨rfl, (by first | omega | decide)⟩ dX8_isWhole_18
  · have hc2 := c2
    have q2 := q_eq hc2
    refine lv_iconst (v := (1)) hx hb dX8_isWhole_13 (by decide) ?_
    refine lv_goto (tgt := 18) hx hb dX8_isWhole_14 (by decide) ?_
    exact m_zret hx hb hr rfl hlocks hM hS (Nat.le_of_ble_eq_true rfl) (Nat.le_of_ble_eq_true rfl) ⟨rfl, (by first | omega | decide)⟩ dX8_isWhole_18
theorem dX8_takeAt_0 : decode cX8_takeAt 0 = .ok (.aload_n 0, 1) := by decide +kernel
theorem dX8_takeAt_1 : decode cX8_takeAt 1 = .ok (.getfield 21, 3) := by decide +kernel
theorem dX8_takeAt_4 : decode cX8_takeAt 4 = .ok (.iload_n 1, 1) := by decide +kernel
theorem dX8_takeAt_5 : decode cX8_takeAt 5 = .ok (.iaload, 1) := by decide +kernel
theorem dX8_takeAt_6 : decode cX8_takeAt 6 = .ok (.istore_n 2, 1) := by decide +kernel
theorem dX8_takeAt_7 : decode cX8_takeAt 7 = .ok (.iload_n 2, 1) := by decide +kernel
theorem dX8_takeAt_8 : decode cX8_takeAt 8 = .ok (.iconst (-1), 1) := by decide +kernel
theorem dX8_takeAt_9 : decode cX8_takeAt 9 = .ok (.if_icmp .ne 7, 3) := by decide +kernel
theorem dX8_takeAt_12 : decode cX8_takeAt 12 = .ok (.iconst 0, 1) := by decide +kernel
theorem dX8_takeAt_13 : decode cX8_takeAt 13 = .ok (.goto 9, 3) := by decide +kernel
theorem dX8_takeAt_16 : decode cX8_takeAt 16 = .ok (.aload_n 0, 1) := by decide +kernel
theorem dX8_takeAt_17 : decode cX8_takeAt 17 = .ok (.iload_n 2, 1) := by decide +kernel
theorem dX8_takeAt_18 : decode cX8_takeAt 18 = .ok (.iconst 2, 1) := by decide +kernel
theorem dX8_takeAt_19 : decode cX8_takeAt 19 = .ok (.invokevirtual 94, 3) := by decide +kernel
theorem dX8_takeAt_22 : decode cX8_takeAt 22 = .ok (.ireturn, 1) := by decide +kernel
theorem ce_X8_takeAt : CeV RX8 yX8_takeAt cX8_takeAt 3 (some .int) 1 := ⟨tb_1104, tb_1105, tb_2, tb_1106, rfl, by decide, by decide, by decide +kernel⟩
set_option maxHeartbeats 4000000 in
set_option maxRecDepth 20000 in
theorem V_X8_takeAt_100 (l : Launch) (D : va_G) (A : Nat → Prop) (ad : Nat → Nat) (ns : List Nat) (I : MI) (L : ML) (G : MG) (a0 : Int32) (hG : SGC ns G) (hI : INV I) (ha0 : 0 ≤ a0.toInt ∧ a0.toInt ≤ 575) : Met l yX8_takeAt (wd yX8_takeAt cX8_takeAt 3 (some .int)) ({ frames := 1, cells := 0, slots := 0, locals := 22 }) (va_Pc [.ref (ad (100)), .int a0] (PM D A ad ns I L G)) (va_Qi (fun r u => u = (ad, ns, I, L, G) ∧ (True)) (BM D A) A) 0 0 A := by
  refine m_ofW (by decide) (Nat.le_of_ble_eq_true rfl) ?_
  intro p e s m below meth c ls args hC hE hM hA hS hl
  obtain ⟨hx, hb, hml, hown, hts, hr, hlocks, hin⟩ := hC
  have km1 : (-1 : Int32).toInt = -1 := by decide
  have k0 : (0 : Int32).toInt = 0 := by decide
  have k2 : (2 : Int32).toInt = 2 := by decide
  have hl : lv_has ls 3 [(0, .ref (ad (100))), (1, .int (a0))] := hl
  refine lv_aload_n hx hb dX8_takeAt_0 rfl (lv_at hl 0 rfl) ?_
  refine m_getr (100) 13 (104) hx hb hts hown hE oc8 hM (hG.1 100 (by decide)) rfl (by decide) rfl (hG.2 (100, 13, 104) (by decide)) (by decide) tb_75 dX8_takeAt_1 ?_
  refine lv_iload_n hx hb dX8_takeAt_4 rfl (lv_at hl 1 rfl) ?_
  refine m_iald (104) hx hb hE hM (hG.1 104 (by decide)) rfl (vp_in_iff.mpr (by omega)) dX8_takeAt_5 ?_
  have g1 := hI.get (104) ((a0).toNatClampNeg) (lo := -1) (hi := 7) rfl
  refine lv_istore_n (lv' := [(2, .int (I (104) (a0).toNatClampNeg)), (0, .ref (ad (100))), (1, .int (a0))]) hx hb dX8_takeAt_6 rfl hl (by decide) rfl (fun ls hl => ?_)
  refine lv_iload_n hx hb dX8_takeAt_7 rfl (lv_at hl 0 rfl) ?_
  refine lv_iconst (v := (-1)) hx hb dX8_takeAt_8 (by decide) ?_
  refine lv_icmp_ne (tgt := 16) hx hb dX8_takeAt_9 (by decide) (fun c2 => ?_) (fun c2 => ?_)
  · have hc2 := c2
    have q2 := q_ne hc2
    refine lv_aload_n hx hb dX8_takeAt_16 rfl (lv_at hl 1 rfl) ?_
    refine lv_iload_n hx hb dX8_takeAt_17 rfl (lv_at hl 0 rfl) ?_
    refine lv_iconst (v := (2)) hx hb dX8_takeAt_18 (by decide) ?_
    refine m_calli (m_runV (100) (As := [.int (I (104) (a0).toNatClampNeg), .int (2)]) (rest := []) hx hb hml hown hts hE hM hS hA ce_X8_ofYard tb_884 (V_X8_ofYard_100 l D A ad ns I L G (I (104) (a0).toNatClampNeg) (2) hG hI (by first | omega | decide) (by first | omega | decide)) rfl rfl ⟨Nat.le_of_ble_eq_true rfl, Nat.le_of_ble_eq_true rfl⟩ (hG.1 100 (by decide)) rfl rfl (by decide) rfl hl.1 rfl (Nat.le_of_ble_eq_true rfl) dX8_takeAt_19 ⟨Nat.le_of_ble_eq_true rfl, Nat.le_of_ble_eq_true rfl⟩) hS (fun r3 u H locs hw hM hS => ?_)
    obtain ⟨rfl, xr3⟩ := hw
    have hM : Mem D A ad ns I L G H := hM
    exact m_iret hx hb hr hlocks hM hS (Nat.le_of_ble_eq_true rfl) (Nat.le_of_ble_eq_true rfl) ⟨rfl, trivial⟩ dX8_takeAt_22
  · have hc2 := c2
    have q2 := q_eq hc2
    refine lv_iconst (v := (0)) hx hb dX8_takeAt_12 (by decide) ?_
    refine lv_goto (tgt := 22) hx hb dX8_takeAt_13 (by decide) ?_
    exact m_iret hx hb hr hlocks hM hS (Nat.le_of_ble_eq_true rfl) (Nat.le_of_ble_eq_true rfl) ⟨rfl, trivial⟩ dX8_takeAt_22
theorem dX8_lossOf_0 : decode cX8_lossOf 0 = .ok (.aload_n 0, 1) := by decide +kernel
theorem dX8_lossOf_1 : decode cX8_lossOf 1 = .ok (.getfield 30, 3) := by decide +kernel
theorem dX8_lossOf_4 : decode cX8_lossOf 4 = .ok (.bipush 72, 2) := by decide +kernel
theorem dX8_lossOf_6 : decode cX8_lossOf 6 = .ok (.iload_n 1, 1) := by decide +kernel
theorem dX8_lossOf_7 : decode cX8_lossOf 7 = .ok (.iadd, 1) := by decide +kernel
theorem dX8_lossOf_8 : decode cX8_lossOf 8 = .ok (.iaload, 1) := by decide +kernel
theorem dX8_lossOf_9 : decode cX8_lossOf 9 = .ok (.aload_n 0, 1) := by decide +kernel
theorem dX8_lossOf_10 : decode cX8_lossOf 10 = .ok (.getfield 30, 3) := by decide +kernel
theorem dX8_lossOf_13 : decode cX8_lossOf 13 = .ok (.sipush 168, 3) := by decide +kernel
theorem dX8_lossOf_16 : decode cX8_lossOf 16 = .ok (.iload_n 1, 1) := by decide +kernel
theorem dX8_lossOf_17 : decode cX8_lossOf 17 = .ok (.iadd, 1) := by decide +kernel
theorem dX8_lossOf_18 : decode cX8_lossOf 18 = .ok (.iaload, 1) := by decide +kernel
theorem dX8_lossOf_19 : decode cX8_lossOf 19 = .ok (.iadd, 1) := by decide +kernel
theorem dX8_lossOf_20 : decode cX8_lossOf 20 = .ok (.istore_n 2, 1) := by decide +kernel
theorem dX8_lossOf_21 : decode cX8_lossOf 21 = .ok (.iload_n 2, 1) := by decide +kernel
theorem dX8_lossOf_22 : decode cX8_lossOf 22 = .ok (.sipush 1000, 3) := by decide +kernel
theorem dX8_lossOf_25 : decode cX8_lossOf 25 = .ok (.if_icmp .ge 7, 3) := by decide +kernel
theorem dX8_lossOf_28 : decode cX8_lossOf 28 = .ok (.iload_n 2, 1) := by decide +kernel
theorem dX8_lossOf_29 : decode cX8_lossOf 29 = .ok (.goto 6, 3) := by decide +kernel
theorem dX8_lossOf_32 : decode cX8_lossOf 32 = .ok (.sipush 1000, 3) := by decide +kernel
theorem dX8_lossOf_35 : decode cX8_lossOf 35 = .ok (.ireturn, 1) := by decide +kernel
theorem ce_X8_lossOf : CeV RX8 yX8_lossOf cX8_lossOf 3 (some .int) 1 := ⟨tb_847, tb_848, tb_2, tb_849, rfl, by decide, by decide, by decide +kernel⟩
set_option maxHeartbeats 4000000 in
set_option maxRecDepth 20000 in
theorem V_X8_lossOf_100 (l : Launch) (D : va_G) (A : Nat → Prop) (ad : Nat → Nat) (ns : List Nat) (I : MI) (L : ML) (G : MG) (a0 : Int32) (hG : SGC ns G) (hI : INV I) (ha0 : 0 ≤ a0.toInt ∧ a0.toInt ≤ 23) : Met l yX8_lossOf (wd yX8_lossOf cX8_lossOf 3 (some .int)) ({ frames := 0, cells := 0, slots := 0, locals := 0 }) (va_Pc [.ref (ad (100)), .int a0] (PM D A ad ns I L G)) (va_Qi (fun r u => u = (ad, ns, I, L, G) ∧ (True)) (BM D A) A) 0 0 A := by
  refine m_ofW (by decide) (Nat.le_of_ble_eq_true rfl) ?_
  intro p e s m below meth c ls args hC hE hM hA hS hl
  obtain ⟨hx, hb, hml, hown, hts, hr, hlocks, hin⟩ := hC
  have k0 : (0 : Int32).toInt = 0 := by decide
  have k72 : (72 : Int32).toInt = 72 := by decide
  have k168 : (168 : Int32).toInt = 168 := by decide
  have k1000 : (1000 : Int32).toInt = 1000 := by decide
  have hl : lv_has ls 3 [(0, .ref (ad (100))), (1, .int (a0))] := hl
  refine lv_aload_n hx hb dX8_lossOf_0 rfl (lv_at hl 0 rfl) ?_
  refine m_getr (100) 16 (107) hx hb hts hown hE oc8 hM (hG.1 100 (by decide)) rfl (by decide) rfl (hG.2 (100, 16, 107) (by decide)) (by decide) tb_82 dX8_lossOf_1 ?_
  refine lv_bipush (v := (72)) hx hb dX8_lossOf_4 (by decide) ?_
  refine lv_iload_n hx hb dX8_lossOf_6 rfl (lv_at hl 1 rfl) ?_
  refine lv_iadd hx hb dX8_lossOf_7 ?_
  refine lv_topi (fun v1 ev1 => ?_)
  have tv1 := a_add ev1 (by omega) (by omega)
  refine m_iald (107) hx hb hE hM (hG.1 107 (by decide)) rfl (vp_in_iff.mpr (by omega)) dX8_lossOf_8 ?_
  refine lv_aload_n hx hb dX8_lossOf_9 rfl (lv_at hl 0 rfl) ?_
  refine m_getr (100) 16 (107) hx hb hts hown hE oc8 hM (hG.1 100 (by decide)) rfl (by decide) rfl (hG.2 (100, 16, 107) (by decide)) (by decide) tb_82 dX8_lossOf_10 ?_
  refine lv_sipush (v := (168)) hx hb dX8_lossOf_13 (by decide) ?_
  refine lv_iload_n hx hb dX8_lossOf_16 rfl (lv_at hl 1 rfl) ?_
  refine lv_iadd hx hb dX8_lossOf_17 ?_
  refine lv_topi (fun v2 ev2 => ?_)
  have tv2 := a_add ev2 (by omega) (by omega)
  refine m_iald (107) hx hb hE hM (hG.1 107 (by decide)) rfl (vp_in_iff.mpr (by omega)) dX8_lossOf_18 ?_
  refine lv_iadd hx hb dX8_lossOf_19 ?_
  refine lv_topi (fun v3 ev3 => ?_)
  refine lv_istore_n (lv' := [(2, .int (v3)), (0, .ref (ad (100))), (1, .int (a0))]) hx hb dX8_lossOf_20 rfl hl (by decide) rfl (fun ls hl => ?_)
  refine lv_iload_n hx hb dX8_lossOf_21 rfl (lv_at hl 0 rfl) ?_
  refine lv_sipush (v := (1000)) hx hb dX8_lossOf_22 (by decide) ?_
  refine lv_icmp_ge (tgt := 32) hx hb dX8_lossOf_25 (by decide) (fun c4 => ?_) (fun c4 => ?_)
  · have hc4 := c4
    have q4 := q_le hc4
    refine lv_sipush (v := (1000)) hx hb dX8_lossOf_32 (by decide) ?_
    exact m_iret hx hb hr hlocks hM hS (Nat.le_of_ble_eq_true rfl) (Nat.le_of_ble_eq_true rfl) ⟨rfl, trivial⟩ dX8_lossOf_35
  · have hc4 := c4
    have q4 := q_nle hc4
    refine lv_iload_n hx hb dX8_lossOf_28 rfl (lv_at hl 0 rfl) ?_
    refine lv_goto (tgt := 35) hx hb dX8_lossOf_29 (by decide) ?_
    exact m_iret hx hb hr hlocks hM hS (Nat.le_of_ble_eq_true rfl) (Nat.le_of_ble_eq_true rfl) ⟨rfl, trivial⟩ dX8_lossOf_35
theorem dX8_wayFrom_0 : decode cX8_wayFrom 0 = .ok (.aload_n 0, 1) := by decide +kernel
theorem dX8_wayFrom_1 : decode cX8_wayFrom 1 = .ok (.getfield 30, 3) := by decide +kernel
theorem dX8_wayFrom_4 : decode cX8_wayFrom 4 = .ok (.bipush 48, 2) := by decide +kernel
theorem dX8_wayFrom_6 : decode cX8_wayFrom 6 = .ok (.iload_n 1, 1) := by decide +kernel
theorem dX8_wayFrom_7 : decode cX8_wayFrom 7 = .ok (.iadd, 1) := by decide +kernel
theorem dX8_wayFrom_8 : decode cX8_wayFrom 8 = .ok (.iaload, 1) := by decide +kernel
theorem dX8_wayFrom_9 : decode cX8_wayFrom 9 = .ok (.iload_n 2, 1) := by decide +kernel
theorem dX8_wayFrom_10 : decode cX8_wayFrom 10 = .ok (.isub, 1) := by decide +kernel
theorem dX8_wayFrom_11 : decode cX8_wayFrom 11 = .ok (.bipush 7, 2) := by decide +kernel
theorem dX8_wayFrom_13 : decode cX8_wayFrom 13 = .ok (.iand, 1) := by decide +kernel
theorem dX8_wayFrom_14 : decode cX8_wayFrom 14 = .ok (.ireturn, 1) := by decide +kernel
theorem ce_X8_wayFrom : CeV RX8 yX8_wayFrom cX8_wayFrom 3 (some .int) 2 := ⟨tb_856, tb_857, tb_2, tb_858, rfl, by decide, by decide, by decide +kernel⟩
set_option maxHeartbeats 4000000 in
set_option maxRecDepth 20000 in
theorem V_X8_wayFrom_100 (l : Launch) (D : va_G) (A : Nat → Prop) (ad : Nat → Nat) (ns : List Nat) (I : MI) (L : ML) (G : MG) (a0 : Int32) (a1 : Int32) (hG : SGC ns G) (hI : INV I) (ha0 : 0 ≤ a0.toInt ∧ a0.toInt ≤ 23) : Met l yX8_wayFrom (wd yX8_wayFrom cX8_wayFrom 3 (some .int)) ({ frames := 0, cells := 0, slots := 0, locals := 0 }) (va_Pc [.ref (ad (100)), .int a0, .int a1] (PM D A ad ns I L G)) (va_Qi (fun r u => u = (ad, ns, I, L, G) ∧ (0 ≤ r.toInt ∧ r.toInt ≤ 7)) (BM D A) A) 0 0 A := by
  refine m_ofW (by decide) (Nat.le_of_ble_eq_true rfl) ?_
  intro p e s m below meth c ls args hC hE hM hA hS hl
  obtain ⟨hx, hb, hml, hown, hts, hr, hlocks, hin⟩ := hC
  have k0 : (0 : Int32).toInt = 0 := by decide
  have k7 : (7 : Int32).toInt = 7 := by decide
  have k48 : (48 : Int32).toInt = 48 := by decide
  have hl : lv_has ls 3 [(0, .ref (ad (100))), (1, .int (a0)), (2, .int (a1))] := hl
  refine lv_aload_n hx hb dX8_wayFrom_0 rfl (lv_at hl 0 rfl) ?_
  refine m_getr (100) 16 (107) hx hb hts hown hE oc8 hM (hG.1 100 (by decide)) rfl (by decide) rfl (hG.2 (100, 16, 107) (by decide)) (by decide) tb_82 dX8_wayFrom_1 ?_
  refine lv_bipush (v := (48)) hx hb dX8_wayFrom_4 (by decide) ?_
  refine lv_iload_n hx hb dX8_wayFrom_6 rfl (lv_at hl 1 rfl) ?_
  refine lv_iadd hx hb dX8_wayFrom_7 ?_
  refine lv_topi (fun v1 ev1 => ?_)
  have tv1 := a_add ev1 (by omega) (by omega)
  refine m_iald (107) hx hb hE hM (hG.1 107 (by decide)) rfl (vp_in_iff.mpr (by omega)) dX8_wayFrom_8 ?_
  refine lv_iload_n hx hb dX8_wayFrom_9 rfl (lv_at hl 2 rfl) ?_
  refine lv_isub hx hb dX8_wayFrom_10 ?_
  refine lv_topi (fun v2 ev2 => ?_)
  refine lv_bipush (v := (7)) hx hb dX8_wayFrom_11 (by decide) ?_
  refine lv_iand hx hb dX8_wayFrom_13 ?_
  refine lv_topi (fun v3 ev3 => ?_)
  have tv3 := a_and (c := 7) ev3 (by decide) (by decide)
  exact m_iret hx hb hr hlocks hM hS (Nat.le_of_ble_eq_true rfl) (Nat.le_of_ble_eq_true rfl) ⟨rfl, (by first | omega | decide)⟩ dX8_wayFrom_14
theorem dX8_setRock_0 : decode cX8_setRock 0 = .ok (.iconst 0, 1) := by decide +kernel
theorem dX8_setRock_1 : decode cX8_setRock 1 = .ok (.istore 6, 2) := by decide +kernel
theorem dX8_setRock_3 : decode cX8_setRock 3 = .ok (.iload_n 2, 1) := by decide +kernel
theorem dX8_setRock_4 : decode cX8_setRock 4 = .ok (.istore 7, 2) := by decide +kernel
theorem dX8_setRock_6 : decode cX8_setRock 6 = .ok (.iload 7, 2) := by decide +kernel
theorem dX8_setRock_8 : decode cX8_setRock 8 = .ok (.iload 4, 2) := by decide +kernel
theorem dX8_setRock_10 : decode cX8_setRock 10 = .ok (.if_icmp .gt 58, 3) := by decide +kernel
theorem dX8_setRock_13 : decode cX8_setRock 13 = .ok (.iload_n 1, 1) := by decide +kernel
theorem dX8_setRock_14 : decode cX8_setRock 14 = .ok (.istore 8, 2) := by decide +kernel
theorem dX8_setRock_16 : decode cX8_setRock 16 = .ok (.iload 8, 2) := by decide +kernel
theorem dX8_setRock_18 : decode cX8_setRock 18 = .ok (.iload_n 3, 1) := by decide +kernel
theorem dX8_setRock_19 : decode cX8_setRock 19 = .ok (.if_icmp .gt 43, 3) := by decide +kernel
theorem dX8_setRock_22 : decode cX8_setRock 22 = .ok (.aload_n 0, 1) := by decide +kernel
theorem dX8_setRock_23 : decode cX8_setRock 23 = .ok (.getfield 9, 3) := by decide +kernel
theorem dX8_setRock_26 : decode cX8_setRock 26 = .ok (.iload 8, 2) := by decide +kernel
theorem dX8_setRock_28 : decode cX8_setRock 28 = .ok (.iload 7, 2) := by decide +kernel
theorem dX8_setRock_30 : decode cX8_setRock 30 = .ok (.invokestatic 83, 3) := by decide +kernel
theorem dX8_setRock_33 : decode cX8_setRock 33 = .ok (.iaload, 1) := by decide +kernel
theorem dX8_setRock_34 : decode cX8_setRock 34 = .ok (.iload 5, 2) := by decide +kernel
theorem dX8_setRock_36 : decode cX8_setRock 36 = .ok (.if_icmp .eq 20, 3) := by decide +kernel
theorem dX8_setRock_39 : decode cX8_setRock 39 = .ok (.aload_n 0, 1) := by decide +kernel
theorem dX8_setRock_40 : decode cX8_setRock 40 = .ok (.getfield 9, 3) := by decide +kernel
theorem dX8_setRock_43 : decode cX8_setRock 43 = .ok (.iload 8, 2) := by decide +kernel
theorem dX8_setRock_45 : decode cX8_setRock 45 = .ok (.iload 7, 2) := by decide +kernel
theorem dX8_setRock_47 : decode cX8_setRock 47 = .ok (.invokestatic 83, 3) := by decide +kernel
theorem dX8_setRock_50 : decode cX8_setRock 50 = .ok (.iload 5, 2) := by decide +kernel
theorem dX8_setRock_52 : decode cX8_setRock 52 = .ok (.iastore, 1) := by decide +kernel
theorem dX8_setRock_53 : decode cX8_setRock 53 = .ok (.iinc 6 1, 3) := by decide +kernel
theorem dX8_setRock_56 : decode cX8_setRock 56 = .ok (.iinc 8 1, 3) := by decide +kernel
theorem dX8_setRock_59 : decode cX8_setRock 59 = .ok (.goto (-43), 3) := by decide +kernel
theorem dX8_setRock_62 : decode cX8_setRock 62 = .ok (.iinc 7 1, 3) := by decide +kernel
theorem dX8_setRock_65 : decode cX8_setRock 65 = .ok (.goto (-59), 3) := by decide +kernel
theorem dX8_setRock_68 : decode cX8_setRock 68 = .ok (.iload 6, 2) := by decide +kernel
theorem dX8_setRock_70 : decode cX8_setRock 70 = .ok (.ireturn, 1) := by decide +kernel
theorem ce_X8_setRock : CeV RX8 yX8_setRock cX8_setRock 9 (some .int) 5 := ⟨tb_474, tb_475, tb_2, tb_476, rfl, by decide, by decide, by decide +kernel⟩
theorem dX8_addMirror_0 : decode cX8_addMirror 0 = .ok (.aload_n 0, 1) := by decide +kernel
theorem dX8_addMirror_1 : decode cX8_addMirror 1 = .ok (.getfield 61, 3) := by decide +kernel
theorem dX8_addMirror_4 : decode cX8_addMirror 4 = .ok (.istore_n 3, 1) := by decide +kernel
theorem dX8_addMirror_5 : decode cX8_addMirror 5 = .ok (.aload_n 0, 1) := by decide +kernel
theorem dX8_addMirror_6 : decode cX8_addMirror 6 = .ok (.dup, 1) := by decide +kernel
theorem dX8_addMirror_7 : decode cX8_addMirror 7 = .ok (.getfield 61, 3) := by decide +kernel
theorem dX8_addMirror_10 : decode cX8_addMirror 10 = .ok (.iconst 1, 1) := by decide +kernel
theorem dX8_addMirror_11 : decode cX8_addMirror 11 = .ok (.iadd, 1) := by decide +kernel
theorem dX8_addMirror_12 : decode cX8_addMirror 12 = .ok (.putfield 61, 3) := by decide +kernel
theorem dX8_addMirror_15 : decode cX8_addMirror 15 = .ok (.aload_n 0, 1) := by decide +kernel
theorem dX8_addMirror_16 : decode cX8_addMirror 16 = .ok (.getfield 18, 3) := by decide +kernel
theorem dX8_addMirror_19 : decode cX8_addMirror 19 = .ok (.iload_n 1, 1) := by decide +kernel
theorem dX8_addMirror_20 : decode cX8_addMirror 20 = .ok (.iload_n 2, 1) := by decide +kernel
theorem dX8_addMirror_21 : decode cX8_addMirror 21 = .ok (.invokestatic 83, 3) := by decide +kernel
theorem dX8_addMirror_24 : decode cX8_addMirror 24 = .ok (.iload_n 3, 1) := by decide +kernel
theorem dX8_addMirror_25 : decode cX8_addMirror 25 = .ok (.iastore, 1) := by decide +kernel
theorem dX8_addMirror_26 : decode cX8_addMirror 26 = .ok (.aload_n 0, 1) := by decide +kernel
theorem dX8_addMirror_27 : decode cX8_addMirror 27 = .ok (.iload_n 3, 1) := by decide +kernel
theorem dX8_addMirror_28 : decode cX8_addMirror 28 = .ok (.iconst 0, 1) := by decide +kernel
theorem dX8_addMirror_29 : decode cX8_addMirror 29 = .ok (.iload_n 1, 1) := by decide +kernel
theorem dX8_addMirror_30 : decode cX8_addMirror 30 = .ok (.invokevirtual 87, 3) := by decide +kernel
theorem dX8_addMirror_33 : decode cX8_addMirror 33 = .ok (.aload_n 0, 1) := by decide +kernel
theorem dX8_addMirror_34 : decode cX8_addMirror 34 = .ok (.iload_n 3, 1) := by decide +kernel
theorem dX8_addMirror_35 : decode cX8_addMirror 35 = .ok (.iconst 1, 1) := by decide +kernel
theorem dX8_addMirror_36 : decode cX8_addMirror 36 = .ok (.iload_n 2, 1) := by decide +kernel
theorem dX8_addMirror_37 : decode cX8_addMirror 37 = .ok (.invokevirtual 87, 3) := by decide +kernel
theorem dX8_addMirror_40 : decode cX8_addMirror 40 = .ok (.aload_n 0, 1) := by decide +kernel
theorem dX8_addMirror_41 : decode cX8_addMirror 41 = .ok (.iload_n 3, 1) := by decide +kernel
theorem dX8_addMirror_42 : decode cX8_addMirror 42 = .ok (.bipush 7, 2) := by decide +kernel
theorem dX8_addMirror_44 : decode cX8_addMirror 44 = .ok (.iconst 0, 1) := by decide +kernel
theorem dX8_addMirror_45 : decode cX8_addMirror 45 = .ok (.invokevirtual 87, 3) := by decide +kernel
theorem dX8_addMirror_48 : decode cX8_addMirror 48 = .ok (.aload_n 0, 1) := by decide +kernel
theorem dX8_addMirror_49 : decode cX8_addMirror 49 = .ok (.iload_n 3, 1) := by decide +kernel
theorem dX8_addMirror_50 : decode cX8_addMirror 50 = .ok (.bipush 8, 2) := by decide +kernel
theorem dX8_addMirror_52 : decode cX8_addMirror 52 = .ok (.iconst 0, 1) := by decide +kernel
theorem dX8_addMirror_53 : decode cX8_addMirror 53 = .ok (.invokevirtual 87, 3) := by decide +kernel
theorem dX8_addMirror_56 : decode cX8_addMirror 56 = .ok (.aload_n 0, 1) := by decide +kernel
theorem dX8_addMirror_57 : decode cX8_addMirror 57 = .ok (.iload_n 3, 1) := by decide +kernel
theorem dX8_addMirror_58 : decode cX8_addMirror 58 = .ok (.bipush 9, 2) := by decide +kernel
theorem dX8_addMirror_60 : decode cX8_addMirror 60 = .ok (.iconst (-1), 1) := by decide +kernel
theorem dX8_addMirror_61 : decode cX8_addMirror 61 = .ok (.invokevirtual 87, 3) := by decide +kernel
theorem dX8_addMirror_64 : decode cX8_addMirror 64 = .ok (.iload_n 3, 1) := by decide +kernel
theorem dX8_addMirror_65 : decode cX8_addMirror 65 = .ok (.ireturn, 1) := by decide +kernel
theorem ce_X8_addMirror : CeV RX8 yX8_addMirror cX8_addMirror 4 (some .int) 2 := ⟨tb_496, tb_497, tb_2, tb_498, rfl, by decide, by decide, by decide +kernel⟩
theorem dX8_addYard_0 : decode cX8_addYard 0 = .ok (.aload_n 0, 1) := by decide +kernel
theorem dX8_addYard_1 : decode cX8_addYard 1 = .ok (.getfield 64, 3) := by decide +kernel
theorem dX8_addYard_4 : decode cX8_addYard 4 = .ok (.istore 5, 2) := by decide +kernel
theorem dX8_addYard_6 : decode cX8_addYard 6 = .ok (.aload_n 0, 1) := by decide +kernel
theorem dX8_addYard_7 : decode cX8_addYard 7 = .ok (.dup, 1) := by decide +kernel
theorem dX8_addYard_8 : decode cX8_addYard 8 = .ok (.getfield 64, 3) := by decide +kernel
theorem dX8_addYard_11 : decode cX8_addYard 11 = .ok (.iconst 1, 1) := by decide +kernel
theorem dX8_addYard_12 : decode cX8_addYard 12 = .ok (.iadd, 1) := by decide +kernel
theorem dX8_addYard_13 : decode cX8_addYard 13 = .ok (.putfield 64, 3) := by decide +kernel
theorem dX8_addYard_16 : decode cX8_addYard 16 = .ok (.iload_n 2, 1) := by decide +kernel
theorem dX8_addYard_17 : decode cX8_addYard 17 = .ok (.istore 6, 2) := by decide +kernel
theorem dX8_addYard_19 : decode cX8_addYard 19 = .ok (.iload 6, 2) := by decide +kernel
theorem dX8_addYard_21 : decode cX8_addYard 21 = .ok (.iload 4, 2) := by decide +kernel
theorem dX8_addYard_23 : decode cX8_addYard 23 = .ok (.if_icmp .gt 54, 3) := by decide +kernel
theorem dX8_addYard_26 : decode cX8_addYard 26 = .ok (.iload_n 1, 1) := by decide +kernel
theorem dX8_addYard_27 : decode cX8_addYard 27 = .ok (.istore 7, 2) := by decide +kernel
theorem dX8_addYard_29 : decode cX8_addYard 29 = .ok (.iload 7, 2) := by decide +kernel
theorem dX8_addYard_31 : decode cX8_addYard 31 = .ok (.iload_n 3, 1) := by decide +kernel
theorem dX8_addYard_32 : decode cX8_addYard 32 = .ok (.if_icmp .gt 39, 3) := by decide +kernel
theorem dX8_addYard_35 : decode cX8_addYard 35 = .ok (.aload_n 0, 1) := by decide +kernel
theorem dX8_addYard_36 : decode cX8_addYard 36 = .ok (.getfield 21, 3) := by decide +kernel
theorem dX8_addYard_39 : decode cX8_addYard 39 = .ok (.iload 7, 2) := by decide +kernel
theorem dX8_addYard_41 : decode cX8_addYard 41 = .ok (.iload 6, 2) := by decide +kernel
theorem dX8_addYard_43 : decode cX8_addYard 43 = .ok (.invokestatic 83, 3) := by decide +kernel
theorem dX8_addYard_46 : decode cX8_addYard 46 = .ok (.iaload, 1) := by decide +kernel
theorem dX8_addYard_47 : decode cX8_addYard 47 = .ok (.iconst (-1), 1) := by decide +kernel
theorem dX8_addYard_48 : decode cX8_addYard 48 = .ok (.if_icmp .ne 17, 3) := by decide +kernel
theorem dX8_addYard_51 : decode cX8_addYard 51 = .ok (.aload_n 0, 1) := by decide +kernel
theorem dX8_addYard_52 : decode cX8_addYard 52 = .ok (.getfield 21, 3) := by decide +kernel
theorem dX8_addYard_55 : decode cX8_addYard 55 = .ok (.iload 7, 2) := by decide +kernel
theorem dX8_addYard_57 : decode cX8_addYard 57 = .ok (.iload 6, 2) := by decide +kernel
theorem dX8_addYard_59 : decode cX8_addYard 59 = .ok (.invokestatic 83, 3) := by decide +kernel
theorem dX8_addYard_62 : decode cX8_addYard 62 = .ok (.iload 5, 2) := by decide +kernel
theorem dX8_addYard_64 : decode cX8_addYard 64 = .ok (.iastore, 1) := by decide +kernel
theorem dX8_addYard_65 : decode cX8_addYard 65 = .ok (.iinc 7 1, 3) := by decide +kernel
theorem dX8_addYard_68 : decode cX8_addYard 68 = .ok (.goto (-39), 3) := by decide +kernel
theorem dX8_addYard_71 : decode cX8_addYard 71 = .ok (.iinc 6 1, 3) := by decide +kernel
theorem dX8_addYard_74 : decode cX8_addYard 74 = .ok (.goto (-55), 3) := by decide +kernel
theorem dX8_addYard_77 : decode cX8_addYard 77 = .ok (.aload_n 0, 1) := by decide +kernel
theorem dX8_addYard_78 : decode cX8_addYard 78 = .ok (.iload 5, 2) := by decide +kernel
theorem dX8_addYard_80 : decode cX8_addYard 80 = .ok (.iconst 0, 1) := by decide +kernel
theorem dX8_addYard_81 : decode cX8_addYard 81 = .ok (.iconst 0, 1) := by decide +kernel
theorem dX8_addYard_82 : decode cX8_addYard 82 = .ok (.invokevirtual 91, 3) := by decide +kernel
theorem dX8_addYard_85 : decode cX8_addYard 85 = .ok (.aload_n 0, 1) := by decide +kernel
theorem dX8_addYard_86 : decode cX8_addYard 86 = .ok (.iload 5, 2) := by decide +kernel
theorem dX8_addYard_88 : decode cX8_addYard 88 = .ok (.iconst 3, 1) := by decide +kernel
theorem dX8_addYard_89 : decode cX8_addYard 89 = .ok (.iload_n 1, 1) := by decide +kernel
theorem dX8_addYard_90 : decode cX8_addYard 90 = .ok (.invokevirtual 91, 3) := by decide +kernel
theorem dX8_addYard_93 : decode cX8_addYard 93 = .ok (.aload_n 0, 1) := by decide +kernel
theorem dX8_addYard_94 : decode cX8_addYard 94 = .ok (.iload 5, 2) := by decide +kernel
theorem dX8_addYard_96 : decode cX8_addYard 96 = .ok (.iconst 4, 1) := by decide +kernel
theorem dX8_addYard_97 : decode cX8_addYard 97 = .ok (.iload_n 2, 1) := by decide +kernel
theorem dX8_addYard_98 : decode cX8_addYard 98 = .ok (.invokevirtual 91, 3) := by decide +kernel
theorem dX8_addYard_101 : decode cX8_addYard 101 = .ok (.aload_n 0, 1) := by decide +kernel
theorem dX8_addYard_102 : decode cX8_addYard 102 = .ok (.iload 5, 2) := by decide +kernel
theorem dX8_addYard_104 : decode cX8_addYard 104 = .ok (.iconst 5, 1) := by decide +kernel
theorem dX8_addYard_105 : decode cX8_addYard 105 = .ok (.iload_n 3, 1) := by decide +kernel
theorem dX8_addYard_106 : decode cX8_addYard 106 = .ok (.invokevirtual 91, 3) := by decide +kernel
theorem dX8_addYard_109 : decode cX8_addYard 109 = .ok (.aload_n 0, 1) := by decide +kernel
theorem dX8_addYard_110 : decode cX8_addYard 110 = .ok (.iload 5, 2) := by decide +kernel
theorem dX8_addYard_112 : decode cX8_addYard 112 = .ok (.bipush 6, 2) := by decide +kernel
theorem dX8_addYard_114 : decode cX8_addYard 114 = .ok (.iload 4, 2) := by decide +kernel
theorem dX8_addYard_116 : decode cX8_addYard 116 = .ok (.invokevirtual 91, 3) := by decide +kernel
theorem dX8_addYard_119 : decode cX8_addYard 119 = .ok (.iload 5, 2) := by decide +kernel
theorem dX8_addYard_121 : decode cX8_addYard 121 = .ok (.ireturn, 1) := by decide +kernel
theorem ce_X8_addYard : CeV RX8 yX8_addYard cX8_addYard 8 (some .int) 4 := ⟨tb_526, tb_527, tb_2, tb_528, rfl, by decide, by decide, by decide +kernel⟩
theorem dX8_mirrorsWith_0 : decode cX8_mirrorsWith 0 = .ok (.iconst 0, 1) := by decide +kernel
theorem dX8_mirrorsWith_1 : decode cX8_mirrorsWith 1 = .ok (.istore_n 3, 1) := by decide +kernel
theorem dX8_mirrorsWith_2 : decode cX8_mirrorsWith 2 = .ok (.iconst 0, 1) := by decide +kernel
theorem dX8_mirrorsWith_3 : decode cX8_mirrorsWith 3 = .ok (.istore 4, 2) := by decide +kernel
theorem dX8_mirrorsWith_5 : decode cX8_mirrorsWith 5 = .ok (.iload 4, 2) := by decide +kernel
theorem dX8_mirrorsWith_7 : decode cX8_mirrorsWith 7 = .ok (.aload_n 0, 1) := by decide +kernel
theorem dX8_mirrorsWith_8 : decode cX8_mirrorsWith 8 = .ok (.getfield 61, 3) := by decide +kernel
theorem dX8_mirrorsWith_11 : decode cX8_mirrorsWith 11 = .ok (.if_icmp .ge 27, 3) := by decide +kernel
theorem dX8_mirrorsWith_14 : decode cX8_mirrorsWith 14 = .ok (.aload_n 0, 1) := by decide +kernel
theorem dX8_mirrorsWith_15 : decode cX8_mirrorsWith 15 = .ok (.iload 4, 2) := by decide +kernel
theorem dX8_mirrorsWith_17 : decode cX8_mirrorsWith 17 = .ok (.iload_n 1, 1) := by decide +kernel
theorem dX8_mirrorsWith_18 : decode cX8_mirrorsWith 18 = .ok (.invokevirtual 97, 3) := by decide +kernel
theorem dX8_mirrorsWith_21 : decode cX8_mirrorsWith 21 = .ok (.iload_n 2, 1) := by decide +kernel
theorem dX8_mirrorsWith_22 : decode cX8_mirrorsWith 22 = .ok (.if_icmp .ne 10, 3) := by decide +kernel
theorem dX8_mirrorsWith_25 : decode cX8_mirrorsWith 25 = .ok (.iload_n 3, 1) := by decide +kernel
theorem dX8_mirrorsWith_26 : decode cX8_mirrorsWith 26 = .ok (.iconst 1, 1) := by decide +kernel
theorem dX8_mirrorsWith_27 : decode cX8_mirrorsWith 27 = .ok (.iload 4, 2) := by decide +kernel
theorem dX8_mirrorsWith_29 : decode cX8_mirrorsWith 29 = .ok (.ishl, 1) := by decide +kernel
theorem dX8_mirrorsWith_30 : decode cX8_mirrorsWith 30 = .ok (.ior, 1) := by decide +kernel
theorem dX8_mirrorsWith_31 : decode cX8_mirrorsWith 31 = .ok (.istore_n 3, 1) := by decide +kernel
theorem dX8_mirrorsWith_32 : decode cX8_mirrorsWith 32 = .ok (.iinc 4 1, 3) := by decide +kernel
theorem dX8_mirrorsWith_35 : decode cX8_mirrorsWith 35 = .ok (.goto (-30), 3) := by decide +kernel
theorem dX8_mirrorsWith_38 : decode cX8_mirrorsWith 38 = .ok (.iload_n 3, 1) := by decide +kernel
theorem dX8_mirrorsWith_39 : decode cX8_mirrorsWith 39 = .ok (.ireturn, 1) := by decide +kernel
theorem ce_X8_mirrorsWith : CeV RX8 yX8_mirrorsWith cX8_mirrorsWith 5 (some .int) 2 := ⟨tb_941, tb_942, tb_2, tb_943, rfl, by decide, by decide, by decide +kernel⟩
set_option maxHeartbeats 4000000 in
set_option maxRecDepth 20000 in
theorem V_X8_mirrorsWith_100 (l : Launch) (D : va_G) (A : Nat → Prop) (ad : Nat → Nat) (ns : List Nat) (I : MI) (L : ML) (G : MG) (a0 : Int32) (a1 : Int32) (hG : SGC ns G) (hI : INV I) (ha0 : 0 ≤ a0.toInt ∧ a0.toInt ≤ 9) : Met l yX8_mirrorsWith (wd yX8_mirrorsWith cX8_mirrorsWith 5 (some .int)) ({ frames := 1, cells := 0, slots := 0, locals := 22 }) (va_Pc [.ref (ad (100)), .int a0, .int a1] (PM D A ad ns I L G)) (va_Qi (fun r u => u = (ad, ns, I, L, G) ∧ (True)) (BM D A) A) 0 0 A := by
  refine m_ofW (by decide) (Nat.le_of_ble_eq_true rfl) ?_
  intro p e s m below meth c ls args hC hE hM hA hS hl
  obtain ⟨hx, hb, hml, hown, hts, hr, hlocks, hin⟩ := hC
  have k0 : (0 : Int32).toInt = 0 := by decide
  have k1 : (1 : Int32).toInt = 1 := by decide
  have hl : lv_has ls 5 [(0, .ref (ad (100))), (1, .int (a0)), (2, .int (a1))] := hl
  refine lv_iconst (v := (0)) hx hb dX8_mirrorsWith_0 (by decide) ?_
  refine lv_istore_n (lv' := [(3, .int (0)), (0, .ref (ad (100))), (1, .int (a0)), (2, .int (a1))]) hx hb dX8_mirrorsWith_1 rfl hl (by decide) rfl (fun ls hl => ?_)
  refine lv_iconst (v := (0)) hx hb dX8_mirrorsWith_2 (by decide) ?_
  refine lv_istore (lv' := [(4, .int (0)), (3, .int (0)), (0, .ref (ad (100))), (1, .int (a0)), (2, .int (a1))]) hx hb dX8_mirrorsWith_3 hl (by decide) rfl (fun ls hl => ?_)
  have loop5 : ∀ (n : Nat) (x4_5 : Int32) (x3_5 : Int32) (H : Heap) (locs : List Loc) (ls : Array Slot), (0 ≤ x4_5.toInt ∧ x4_5.toInt ≤ 24) → (24 - x4_5.toInt).toNat < n → Mem D A ad ns I L G H → va_S A s.heap H locs → lv_has ls 5 [(4, .int (x4_5)), (3, .int (x3_5)), (0, .ref (ad (100))), (1, .int (a0)), (2, .int (a1))] → W p l e ({ frames := 1, cells := 0, slots := 0, locals := 22 } : Room) s m args below meth c H locs 0 0 (MQ below (va_Qi (fun r u => u = (ad, ns, I, L, G) ∧ (True)) (BM D A) A) args s 0 0 A) (F0 m 5 ls []) := by
    intro n
    induction n with
    | zero =>
      intro x4_5 x3_5 H locs ls hr4_5 hmu
      exact absurd hmu (Nat.not_lt_zero _)
    | succ n ih5 =>
      intro x4_5 x3_5 H locs ls hr4_5 hmu5 hM hS hl
      refine lv_iload hx hb dX8_mirrorsWith_5 (lv_at hl 0 rfl) ?_
      refine lv_aload_n hx hb dX8_mirrorsWith_7 rfl (lv_at hl 2 rfl) ?_
      refine m_geti (100) 8 hx hb hts hown hE oc8 hM (hG.1 100 (by decide)) rfl (by decide) rfl tb_59 dX8_mirrorsWith_8 ?_
      have g1 := hI.get (100) 8 (lo := 0) (hi := 24) rfl
      refine lv_icmp_ge (tgt := 38) hx hb dX8_mirrorsWith_11 (by decide) (fun c2 => ?_) (fun c2 => ?_)
      · have hc2 := c2
        have q2 := q_le hc2
        refine lv_iload_n hx hb dX8_mirrorsWith_38 rfl (lv_at hl 1 rfl) ?_
        exact m_iret hx hb hr hlocks hM hS (Nat.le_of_ble_eq_true rfl) (Nat.le_of_ble_eq_true rfl) ⟨rfl, trivial⟩ dX8_mirrorsWith_39
      · have hc2 := c2
        have q2 := q_nle hc2
        refine lv_aload_n hx hb dX8_mirrorsWith_14 rfl (lv_at hl 2 rfl) ?_
        refine lv_iload hx hb dX8_mirrorsWith_15 (lv_at hl 0 rfl) ?_
        refine lv_iload_n hx hb dX8_mirrorsWith_17 rfl (lv_at hl 3 rfl) ?_
        refine m_calli (m_runV (100) (As := [.int (x4_5), .int (a0)]) (rest := []) hx hb hml hown hts hE hM hS hA ce_X8_ofMirror tb_792 (V_X8_ofMirror_100 l D A ad ns I L G (x4_5) (a0) hG hI (by first | omega | decide) (by first | omega | decide)) rfl rfl ⟨Nat.le_of_ble_eq_true rfl, Nat.le_of_ble_eq_true rfl⟩ (hG.1 100 (by decide)) rfl rfl (by decide) rfl hl.1 rfl (Nat.le_of_ble_eq_true rfl) dX8_mirrorsWith_18 ⟨Nat.le_of_ble_eq_true rfl, Nat.le_of_ble_eq_true rfl⟩) hS (fun r3 u H locs hw hM hS => ?_)
        obtain ⟨rfl, xr3⟩ := hw
        have hM : Mem D A ad ns I L G H := hM
        refine lv_iload_n hx hb dX8_mirrorsWith_21 rfl (lv_at hl 4 rfl) ?_
        refine lv_icmp_ne (tgt := 32) hx hb dX8_mirrorsWith_22 (by decide) (fun c4 => ?_) (fun c4 => ?_)
        · have hc4 := c4
          have q4 := q_ne hc4
          obtain ⟨v5, ev5⟩ : ∃ z : Int32, z = x4_5 + Int32.ofInt (1) := ⟨_, rfl⟩
          have tv5 := a_inc ev5 (by decide) (by omega) (by omega)
          refine lv_iinc (v := v5) (lv' := [(4, .int (v5)), (3, .int (x3_5)), (0, .ref (ad (100))), (1, .int (a0)), (2, .int (a1))]) hx hb dX8_mirrorsWith_32 hl (k := 0) rfl ev5.symm (by decide) rfl (fun ls hl => ?_)
          refine lv_goto (tgt := 5) hx hb dX8_mirrorsWith_35 (by decide) ?_
          exact ih5 (v5) (x3_5) _ _ ls (by first | omega | decide) (by omega) hM hS (lv_sub hl [0, 1, 2, 3, 4] rfl)
        · have hc4 := c4
          have q4 := q_eq hc4
          refine lv_iload_n hx hb dX8_mirrorsWith_25 rfl (lv_at hl 1 rfl) ?_
          refine lv_iconst (v := (1)) hx hb dX8_mirrorsWith_26 (by decide) ?_
          refine lv_iload hx hb dX8_mirrorsWith_27 (lv_at hl 0 rfl) ?_
          refine lv_ishl hx hb dX8_mirrorsWith_29 ?_
          refine lv_topi (fun v6 ev6 => ?_)
          refine lv_ior hx hb dX8_mirrorsWith_30 ?_
          refine lv_topi (fun v7 ev7 => ?_)
          refine lv_istore_n (lv' := [(3, .int (v7)), (4, .int (x4_5)), (0, .ref (ad (100))), (1, .int (a0)), (2, .int (a1))]) hx hb dX8_mirrorsWith_31 rfl hl (by decide) rfl (fun ls hl => ?_)
          obtain ⟨v8, ev8⟩ : ∃ z : Int32, z = x4_5 + Int32.ofInt (1) := ⟨_, rfl⟩
          have tv8 := a_inc ev8 (by decide) (by omega) (by omega)
          refine lv_iinc (v := v8) (lv' := [(4, .int (v8)), (3, .int (v7)), (0, .ref (ad (100))), (1, .int (a0)), (2, .int (a1))]) hx hb dX8_mirrorsWith_32 hl (k := 1) rfl ev8.symm (by decide) rfl (fun ls hl => ?_)
          refine lv_goto (tgt := 5) hx hb dX8_mirrorsWith_35 (by decide) ?_
          exact ih5 (v8) (v7) _ _ ls (by first | omega | decide) (by omega) hM hS (lv_sub hl [0, 1, 2, 3, 4] rfl)
  exact loop5 (_ + 1) (0) (0) _ _ ls (by first | omega | decide) (Nat.lt_succ_self _) hM hS (lv_sub hl [0, 1, 2, 3, 4] rfl)
theorem dX8_setBroken_0 : decode cX8_setBroken 0 = .ok (.iconst 0, 1) := by decide +kernel
theorem dX8_setBroken_1 : decode cX8_setBroken 1 = .ok (.istore_n 3, 1) := by decide +kernel
theorem dX8_setBroken_2 : decode cX8_setBroken 2 = .ok (.iload_n 3, 1) := by decide +kernel
theorem dX8_setBroken_3 : decode cX8_setBroken 3 = .ok (.aload_n 0, 1) := by decide +kernel
theorem dX8_setBroken_4 : decode cX8_setBroken 4 = .ok (.getfield 61, 3) := by decide +kernel
theorem dX8_setBroken_7 : decode cX8_setBroken 7 = .ok (.if_icmp .ge 26, 3) := by decide +kernel
theorem dX8_setBroken_10 : decode cX8_setBroken 10 = .ok (.iload_n 1, 1) := by decide +kernel
theorem dX8_setBroken_11 : decode cX8_setBroken 11 = .ok (.iload_n 3, 1) := by decide +kernel
theorem dX8_setBroken_12 : decode cX8_setBroken 12 = .ok (.ishr, 1) := by decide +kernel
theorem dX8_setBroken_13 : decode cX8_setBroken 13 = .ok (.iconst 1, 1) := by decide +kernel
theorem dX8_setBroken_14 : decode cX8_setBroken 14 = .ok (.iand, 1) := by decide +kernel
theorem dX8_setBroken_15 : decode cX8_setBroken 15 = .ok (.iconst 1, 1) := by decide +kernel
theorem dX8_setBroken_16 : decode cX8_setBroken 16 = .ok (.if_icmp .ne 11, 3) := by decide +kernel
theorem dX8_setBroken_19 : decode cX8_setBroken 19 = .ok (.aload_n 0, 1) := by decide +kernel
theorem dX8_setBroken_20 : decode cX8_setBroken 20 = .ok (.iload_n 3, 1) := by decide +kernel
theorem dX8_setBroken_21 : decode cX8_setBroken 21 = .ok (.bipush 8, 2) := by decide +kernel
theorem dX8_setBroken_23 : decode cX8_setBroken 23 = .ok (.iload_n 2, 1) := by decide +kernel
theorem dX8_setBroken_24 : decode cX8_setBroken 24 = .ok (.invokevirtual 87, 3) := by decide +kernel
theorem dX8_setBroken_27 : decode cX8_setBroken 27 = .ok (.iinc 3 1, 3) := by decide +kernel
theorem dX8_setBroken_30 : decode cX8_setBroken 30 = .ok (.goto (-28), 3) := by decide +kernel
theorem dX8_setBroken_33 : decode cX8_setBroken 33 = .ok (.return_, 1) := by decide +kernel
theorem ce_X8_setBroken : CeV RX8 yX8_setBroken cX8_setBroken 4 none 2 := ⟨tb_945, tb_946, tb_2, tb_947, rfl, by decide, by decide, by decide +kernel⟩
set_option maxHeartbeats 4000000 in
set_option maxRecDepth 20000 in
theorem V_X8_setBroken_100 (l : Launch) (D : va_G) (A : Nat → Prop) (ad : Nat → Nat) (ns : List Nat) (I : MI) (L : ML) (G : MG) (a0 : Int32) (a1 : Int32) (hG : SGC ns G) (hI : INV I) : Met l yX8_setBroken (wd yX8_setBroken cX8_setBroken 4 none) ({ frames := 1, cells := 0, slots := 0, locals := 23 }) (va_Pc [.ref (ad (100)), .int a0, .int a1] (PM D A ad ns I L G)) (va_Qv (fun u => ∃ I2 L2, u = (ad, ns, I2, L2, G) ∧ INV I2 ∧ Kp [(107, 108)] [] I I2) (BM D A) A) 0 0 A := by
  refine m_ofW (by decide) (Nat.le_of_ble_eq_true rfl) ?_
  intro p e s m below meth c ls args hC hE hM hA hS hl
  obtain ⟨hx, hb, hml, hown, hts, hr, hlocks, hin⟩ := hC
  have k0 : (0 : Int32).toInt = 0 := by decide
  have k1 : (1 : Int32).toInt = 1 := by decide
  have k8 : (8 : Int32).toInt = 8 := by decide
  have hK : Kp [(107, 108)] [] I I := Kp.rf
  have hl : lv_has ls 4 [(0, .ref (ad (100))), (1, .int (a0)), (2, .int (a1))] := hl
  refine lv_iconst (v := (0)) hx hb dX8_setBroken_0 (by decide) ?_
  refine lv_istore_n (lv' := [(3, .int (0)), (0, .ref (ad (100))), (1, .int (a0)), (2, .int (a1))]) hx hb dX8_setBroken_1 rfl hl (by decide) rfl (fun ls hl => ?_)
  have loop2 : ∀ (n : Nat) (x3_2 : Int32) (Ia2 : MI) (La2 : ML) (H : Heap) (locs : List Loc) (ls : Array Slot), INV Ia2 → Kp [(107, 108)] [] I Ia2 → (0 ≤ x3_2.toInt ∧ x3_2.toInt ≤ 24) → (24 - x3_2.toInt).toNat < n → Mem D A ad ns Ia2 La2 G H → va_S A s.heap H locs → lv_has ls 4 [(3, .int (x3_2)), (0, .ref (ad (100))), (1, .int (a0)), (2, .int (a1))] → W p l e ({ frames := 1, cells := 0, slots := 0, locals := 23 } : Room) s m args below meth c H locs 0 0 (MQ below (va_Qv (fun u => ∃ I2 L2, u = (ad, ns, I2, L2, G) ∧ INV I2 ∧ Kp [(107, 108)] [] I I2) (BM D A) A) args s 0 0 A) (F0 m 2 ls []) := by
    intro n
    induction n with
    | zero =>
      intro x3_2 Ia2 La2 H locs ls hI hK hr3_2 hmu
      exact absurd hmu (Nat.not_lt_zero _)
    | succ n ih2 =>
      intro x3_2 Ia2 La2 H locs ls hI hK hr3_2 hmu2 hM hS hl
      refine lv_iload_n hx hb dX8_setBroken_2 rfl (lv_at hl 0 rfl) ?_
      refine lv_aload_n hx hb dX8_setBroken_3 rfl (lv_at hl 1 rfl) ?_
      refine m_geti (100) 8 hx hb hts hown hE oc8 hM (hG.1 100 (by decide)) rfl (by decide) rfl tb_59 dX8_setBroken_4 ?_
      have g1 := hI.get (100) 8 (lo := 0) (hi := 24) rfl
      refine lv_icmp_ge (tgt := 33) hx hb dX8_setBroken_7 (by decide) (fun c2 => ?_) (fun c2 => ?_)
      · have hc2 := c2
        have q2 := q_le hc2
        exact m_vret hx hb hr hlocks hM hS (Nat.le_of_ble_eq_true rfl) (Nat.le_of_ble_eq_true rfl) ⟨_, _, rfl, hI, hK⟩ dX8_setBroken_33
      · have hc2 := c2
        have q2 := q_nle hc2
        refine lv_iload_n hx hb dX8_setBroken_10 rfl (lv_at hl 2 rfl) ?_
        refine lv_iload_n hx hb dX8_setBroken_11 rfl (lv_at hl 0 rfl) ?_
        refine lv_ishr hx hb dX8_setBroken_12 ?_
        refine lv_topi (fun v3 ev3 => ?_)
        refine lv_iconst (v := (1)) hx hb dX8_setBroken_13 (by decide) ?_
        refine lv_iand hx hb dX8_setBroken_14 ?_
        refine lv_topi (fun v4 ev4 => ?_)
        have tv4 := a_and (c := 1) ev4 (by decide) (by decide)
        refine lv_iconst (v := (1)) hx hb dX8_setBroken_15 (by decide) ?_
        refine lv_icmp_ne (tgt := 27) hx hb dX8_setBroken_16 (by decide) (fun c5 => ?_) (fun c5 => ?_)
        · have hc5 := c5
          have q5 := q_ne hc5
          obtain ⟨v6, ev6⟩ : ∃ z : Int32, z = x3_2 + Int32.ofInt (1) := ⟨_, rfl⟩
          have tv6 := a_inc ev6 (by decide) (by omega) (by omega)
          refine lv_iinc (v := v6) (lv' := [(3, .int (v6)), (0, .ref (ad (100))), (1, .int (a0)), (2, .int (a1))]) hx hb dX8_setBroken_27 hl (k := 0) rfl ev6.symm (by decide) rfl (fun ls hl => ?_)
          refine lv_goto (tgt := 2) hx hb dX8_setBroken_30 (by decide) ?_
          exact ih2 (v6) Ia2 La2 _ _ ls hI hK (by first | omega | decide) (by omega) hM hS (lv_sub hl [0, 1, 2, 3] rfl)
        · have hc5 := c5
          have q5 := q_eq hc5
          refine lv_aload_n hx hb dX8_setBroken_19 rfl (lv_at hl 1 rfl) ?_
          refine lv_iload_n hx hb dX8_setBroken_20 rfl (lv_at hl 0 rfl) ?_
          refine lv_bipush (v := (8)) hx hb dX8_setBroken_21 (by decide) ?_
          refine lv_iload_n hx hb dX8_setBroken_23 rfl (lv_at hl 3 rfl) ?_
          refine m_callv (m_runV (100) (As := [.int (x3_2), .int (8), .int (a1)]) (rest := []) hx hb hml hown hts hE hM hS hA ce_X8_setMirror tb_499 (V_X8_setMirror_100 l D A ad ns Ia2 La2 G (x3_2) (8) (a1) hG hI (by first | omega | decide) (by first | omega | decide)) rfl rfl ⟨Nat.le_of_ble_eq_true rfl, Nat.le_of_ble_eq_true rfl⟩ (hG.1 100 (by decide)) rfl rfl (by decide) rfl hl.1 rfl (Nat.le_of_ble_eq_true rfl) dX8_setBroken_24 ⟨Nat.le_of_ble_eq_true rfl, Nat.le_of_ble_eq_true rfl⟩) hS (fun u H locs hw hM hS => ?_)
          obtain ⟨I7, L8, rfl, hI, hkI7⟩ := hw
          have hM : Mem D A ad ns I7 L8 G H := hM
          have hK := hK.trans hkI7 rfl
          obtain ⟨v9, ev9⟩ : ∃ z : Int32, z = x3_2 + Int32.ofInt (1) := ⟨_, rfl⟩
          have tv9 := a_inc ev9 (by decide) (by omega) (by omega)
          refine lv_iinc (v := v9) (lv' := [(3, .int (v9)), (0, .ref (ad (100))), (1, .int (a0)), (2, .int (a1))]) hx hb dX8_setBroken_27 hl (k := 0) rfl ev9.symm (by decide) rfl (fun ls hl => ?_)
          refine lv_goto (tgt := 2) hx hb dX8_setBroken_30 (by decide) ?_
          exact ih2 (v9) I7 L8 _ _ ls hI hK (by first | omega | decide) (by omega) hM hS (lv_sub hl [0, 1, 2, 3] rfl)
  exact loop2 (_ + 1) (0) I L _ _ ls hI hK (by first | omega | decide) (Nat.lt_succ_self _) hM hS (lv_sub hl [0, 1, 2, 3] rfl)
theorem dX8_turnTowards_0 : decode cX8_turnTowards 0 = .ok (.aload_n 0, 1) := by decide +kernel
theorem dX8_turnTowards_1 : decode cX8_turnTowards 1 = .ok (.iload_n 1, 1) := by decide +kernel
theorem dX8_turnTowards_2 : decode cX8_turnTowards 2 = .ok (.iconst 2, 1) := by decide +kernel
theorem dX8_turnTowards_3 : decode cX8_turnTowards 3 = .ok (.invokevirtual 97, 3) := by decide +kernel
theorem dX8_turnTowards_6 : decode cX8_turnTowards 6 = .ok (.istore_n 3, 1) := by decide +kernel
theorem dX8_turnTowards_7 : decode cX8_turnTowards 7 = .ok (.aload_n 0, 1) := by decide +kernel
theorem dX8_turnTowards_8 : decode cX8_turnTowards 8 = .ok (.iload_n 1, 1) := by decide +kernel
theorem dX8_turnTowards_9 : decode cX8_turnTowards 9 = .ok (.iconst 5, 1) := by decide +kernel
theorem dX8_turnTowards_10 : decode cX8_turnTowards 10 = .ok (.invokevirtual 97, 3) := by decide +kernel
theorem dX8_turnTowards_13 : decode cX8_turnTowards 13 = .ok (.istore 4, 2) := by decide +kernel
theorem dX8_turnTowards_15 : decode cX8_turnTowards 15 = .ok (.iload_n 2, 1) := by decide +kernel
theorem dX8_turnTowards_16 : decode cX8_turnTowards 16 = .ok (.iload_n 3, 1) := by decide +kernel
theorem dX8_turnTowards_17 : decode cX8_turnTowards 17 = .ok (.isub, 1) := by decide +kernel
theorem dX8_turnTowards_18 : decode cX8_turnTowards 18 = .ok (.bipush 7, 2) := by decide +kernel
theorem dX8_turnTowards_20 : decode cX8_turnTowards 20 = .ok (.iand, 1) := by decide +kernel
theorem dX8_turnTowards_21 : decode cX8_turnTowards 21 = .ok (.istore 5, 2) := by decide +kernel
theorem dX8_turnTowards_23 : decode cX8_turnTowards 23 = .ok (.iload 5, 2) := by decide +kernel
theorem dX8_turnTowards_25 : decode cX8_turnTowards 25 = .ok (.iconst 4, 1) := by decide +kernel
theorem dX8_turnTowards_26 : decode cX8_turnTowards 26 = .ok (.if_icmp .gt 13, 3) := by decide +kernel
theorem dX8_turnTowards_29 : decode cX8_turnTowards 29 = .ok (.iload 5, 2) := by decide +kernel
theorem dX8_turnTowards_31 : decode cX8_turnTowards 31 = .ok (.iload 4, 2) := by decide +kernel
theorem dX8_turnTowards_33 : decode cX8_turnTowards 33 = .ok (.invokestatic 100, 3) := by decide +kernel
theorem dX8_turnTowards_36 : decode cX8_turnTowards 36 = .ok (.goto 14, 3) := by decide +kernel
theorem dX8_turnTowards_39 : decode cX8_turnTowards 39 = .ok (.bipush 8, 2) := by decide +kernel
theorem dX8_turnTowards_41 : decode cX8_turnTowards 41 = .ok (.iload 5, 2) := by decide +kernel
theorem dX8_turnTowards_43 : decode cX8_turnTowards 43 = .ok (.isub, 1) := by decide +kernel
theorem dX8_turnTowards_44 : decode cX8_turnTowards 44 = .ok (.iload 4, 2) := by decide +kernel
theorem dX8_turnTowards_46 : decode cX8_turnTowards 46 = .ok (.invokestatic 100, 3) := by decide +kernel
theorem dX8_turnTowards_49 : decode cX8_turnTowards 49 = .ok (.ineg, 1) := by decide +kernel
theorem dX8_turnTowards_50 : decode cX8_turnTowards 50 = .ok (.istore 6, 2) := by decide +kernel
theorem dX8_turnTowards_52 : decode cX8_turnTowards 52 = .ok (.aload_n 0, 1) := by decide +kernel
theorem dX8_turnTowards_53 : decode cX8_turnTowards 53 = .ok (.iload_n 1, 1) := by decide +kernel
theorem dX8_turnTowards_54 : decode cX8_turnTowards 54 = .ok (.iconst 2, 1) := by decide +kernel
theorem dX8_turnTowards_55 : decode cX8_turnTowards 55 = .ok (.iload_n 3, 1) := by decide +kernel
theorem dX8_turnTowards_56 : decode cX8_turnTowards 56 = .ok (.iload 6, 2) := by decide +kernel
theorem dX8_turnTowards_58 : decode cX8_turnTowards 58 = .ok (.iadd, 1) := by decide +kernel
theorem dX8_turnTowards_59 : decode cX8_turnTowards 59 = .ok (.bipush 7, 2) := by decide +kernel
theorem dX8_turnTowards_61 : decode cX8_turnTowards 61 = .ok (.iand, 1) := by decide +kernel
theorem dX8_turnTowards_62 : decode cX8_turnTowards 62 = .ok (.invokevirtual 87, 3) := by decide +kernel
theorem dX8_turnTowards_65 : decode cX8_turnTowards 65 = .ok (.return_, 1) := by decide +kernel
theorem ce_X8_turnTowards : CeV RX8 yX8_turnTowards cX8_turnTowards 7 none 2 := ⟨tb_789, tb_790, tb_2, tb_791, rfl, by decide, by decide, by decide +kernel⟩
set_option maxHeartbeats 4000000 in
set_option maxRecDepth 20000 in
theorem V_X8_turnTowards_100 (l : Launch) (D : va_G) (A : Nat → Prop) (ad : Nat → Nat) (ns : List Nat) (I : MI) (L : ML) (G : MG) (a0 : Int32) (a1 : Int32) (hG : SGC ns G) (hI : INV I) (ha0 : 0 ≤ a0.toInt ∧ a0.toInt ≤ 23) : Met l yX8_turnTowards (wd yX8_turnTowards cX8_turnTowards 7 none) ({ frames := 1, cells := 0, slots := 0, locals := 23 }) (va_Pc [.ref (ad (100)), .int a0, .int a1] (PM D A ad ns I L G)) (va_Qv (fun u => ∃ I2 L2, u = (ad, ns, I2, L2, G) ∧ INV I2 ∧ Kp [(107, 108)] [] I I2) (BM D A) A) 0 0 A := by
  refine m_ofW (by decide) (Nat.le_of_ble_eq_true rfl) ?_
  intro p e s m below meth c ls args hC hE hM hA hS hl
  obtain ⟨hx, hb, hml, hown, hts, hr, hlocks, hin⟩ := hC
  have k0 : (0 : Int32).toInt = 0 := by decide
  have k2 : (2 : Int32).toInt = 2 := by decide
  have k4 : (4 : Int32).toInt = 4 := by decide
  have k5 : (5 : Int32).toInt = 5 := by decide
  have k7 : (7 : Int32).toInt = 7 := by decide
  have k8 : (8 : Int32).toInt = 8 := by decide
  have hK : Kp [(107, 108)] [] I I := Kp.rf
  have hl : lv_has ls 7 [(0, .ref (ad (100))), (1, .int (a0)), (2, .int (a1))] := hl
  refine lv_aload_n hx hb dX8_turnTowards_0 rfl (lv_at hl 0 rfl) ?_
  refine lv_iload_n hx hb dX8_turnTowards_1 rfl (lv_at hl 1 rfl) ?_
  refine lv_iconst (v := (2)) hx hb dX8_turnTowards_2 (by decide) ?_
  refine m_calli (m_runV (100) (As := [.int (a0), .int (2)]) (rest := []) hx hb hml hown hts hE hM hS hA ce_X8_ofMirror tb_792 (V_X8_ofMirror_100 l D A ad ns I L G (a0) (2) hG hI (by first | omega | decide) (by first | omega | decide)) rfl rfl ⟨Nat.le_of_ble_eq_true rfl, Nat.le_of_ble_eq_true rfl⟩ (hG.1 100 (by decide)) rfl rfl (by decide) rfl hl.1 rfl (Nat.le_of_ble_eq_true rfl) dX8_turnTowards_3 ⟨Nat.le_of_ble_eq_true rfl, Nat.le_of_ble_eq_true rfl⟩) hS (fun r1 u H locs hw hM hS => ?_)
  obtain ⟨rfl, xr1⟩ := hw
  have hM : Mem D A ad ns I L G H := hM
  refine lv_istore_n (lv' := [(3, .int (r1)), (0, .ref (ad (100))), (1, .int (a0)), (2, .int (a1))]) hx hb dX8_turnTowards_6 rfl hl (by decide) rfl (fun ls hl => ?_)
  refine lv_aload_n hx hb dX8_turnTowards_7 rfl (lv_at hl 1 rfl) ?_
  refine lv_iload_n hx hb dX8_turnTowards_8 rfl (lv_at hl 2 rfl) ?_
  refine lv_iconst (v := (5)) hx hb dX8_turnTowards_9 (by decide) ?_
  refine m_calli (m_runV (100) (As := [.int (a0), .int (5)]) (rest := []) hx hb hml hown hts hE hM hS hA ce_X8_ofMirror tb_792 (V_X8_ofMirror_100 l D A ad ns I L G (a0) (5) hG hI (by first | omega | decide) (by first | omega | decide)) rfl rfl ⟨Nat.le_of_ble_eq_true rfl, Nat.le_of_ble_eq_true rfl⟩ (hG.1 100 (by decide)) rfl rfl (by decide) rfl hl.1 rfl (Nat.le_of_ble_eq_true rfl) dX8_turnTowards_10 ⟨Nat.le_of_ble_eq_true rfl, Nat.le_of_ble_eq_true rfl⟩) hS (fun r2 u H locs hw hM hS => ?_)
  obtain ⟨rfl, xr2⟩ := hw
  have hM : Mem D A ad ns I L G H := hM
  refine lv_istore (lv' := [(4, .int (r2)), (3, .int (r1)), (0, .ref (ad (100))), (1, .int (a0)), (2, .int (a1))]) hx hb dX8_turnTowards_13 hl (by decide) rfl (fun ls hl => ?_)
  refine lv_iload_n hx hb dX8_turnTowards_15 rfl (lv_at hl 4 rfl) ?_
  refine lv_iload_n hx hb dX8_turnTowards_16 rfl (lv_at hl 1 rfl) ?_
  refine lv_isub hx hb dX8_turnTowards_17 ?_
  refine lv_topi (fun v3 ev3 => ?_)
  refine lv_bipush (v := (7)) hx hb dX8_turnTowards_18 (by decide) ?_
  refine lv_iand hx hb dX8_turnTowards_20 ?_
  refine lv_topi (fun v4 ev4 => ?_)
  have tv4 := a_and (c := 7) ev4 (by decide) (by decide)
  refine lv_istore (lv' := [(5, .int (v4)), (4, .int (r2)), (3, .int (r1)), (0, .ref (ad (100))), (1, .int (a0)), (2, .int (a1))]) hx hb dX8_turnTowards_21 hl (by decide) rfl (fun ls hl => ?_)
  refine lv_iload hx hb dX8_turnTowards_23 (lv_at hl 0 rfl) ?_
  refine lv_iconst (v := (4)) hx hb dX8_turnTowards_25 (by decide) ?_
  refine lv_icmp_gt (tgt := 39) hx hb dX8_turnTowards_26 (by decide) (fun c5 => ?_) (fun c5 => ?_)
  · have hc5 := c5
    have q5 := q_lt hc5
    refine lv_bipush (v := (8)) hx hb dX8_turnTowards_39 (by decide) ?_
    refine lv_iload hx hb dX8_turnTowards_41 (lv_at hl 0 rfl) ?_
    refine lv_isub hx hb dX8_turnTowards_43 ?_
    refine lv_topi (fun v6 ev6 => ?_)
    have tv6 := a_sub ev6 (by omega) (by omega)
    refine lv_iload hx hb dX8_turnTowards_44 (lv_at hl 1 rfl) ?_
    refine va_mmin hx hb (hml.trans hl.1.symm) hown (hts _ tb_793) (hts _ tb_794) (hts _ tb_18) (hts _ tb_795) (Nat.le_of_ble_eq_true rfl) (Nat.le_of_ble_eq_true rfl) (Nat.le_of_ble_eq_true rfl) (Nat.le_of_ble_eq_true rfl) dX8_turnTowards_46 ?_
    refine lv_topi (fun v7 ev7 => ?_)
    have tv7 := a_min ev7
    refine lv_ineg hx hb dX8_turnTowards_49 ?_
    refine lv_topi (fun v8 ev8 => ?_)
    refine lv_istore (lv' := [(6, .int (v8)), (5, .int (v4)), (4, .int (r2)), (3, .int (r1)), (0, .ref (ad (100))), (1, .int (a0)), (2, .int (a1))]) hx hb dX8_turnTowards_50 hl (by decide) rfl (fun ls hl => ?_)
    refine lv_aload_n hx hb dX8_turnTowards_52 rfl (lv_at hl 4 rfl) ?_
    refine lv_iload_n hx hb dX8_turnTowards_53 rfl (lv_at hl 5 rfl) ?_
    refine lv_iconst (v := (2)) hx hb dX8_turnTowards_54 (by decide) ?_
    refine lv_iload_n hx hb dX8_turnTowards_55 rfl (lv_at hl 3 rfl) ?_
    refine lv_iload hx hb dX8_turnTowards_56 (lv_at hl 0 rfl) ?_
    refine lv_iadd hx hb dX8_turnTowards_58 ?_
    refine lv_topi (fun v9 ev9 => ?_)
    refine lv_bipush (v := (7)) hx hb dX8_turnTowards_59 (by decide) ?_
    refine lv_iand hx hb dX8_turnTowards_61 ?_
    refine lv_topi (fun v10 ev10 => ?_)
    have tv10 := a_and (c := 7) ev10 (by decide) (by decide)
    refine m_callv (m_runV (100) (As := [.int (a0), .int (2), .int (v10)]) (rest := []) hx hb hml hown hts hE hM hS hA ce_X8_setMirror tb_499 (V_X8_setMirror_100 l D A ad ns I L G (a0) (2) (v10) hG hI (by first | omega | decide) (by first | omega | decide)) rfl rfl ⟨Nat.le_of_ble_eq_true rfl, Nat.le_of_ble_eq_true rfl⟩ (hG.1 100 (by decide)) rfl rfl (by decide) rfl hl.1 rfl (Nat.le_of_ble_eq_true rfl) dX8_turnTowards_62 ⟨Nat.le_of_ble_eq_true rfl, Nat.le_of_ble_eq_true rfl⟩) hS (fun u H locs hw hM hS => ?_)
    obtain ⟨I11, L12, rfl, hI, hkI11⟩ := hw
    have hM : Mem D A ad ns I11 L12 G H := hM
    have hK := hK.trans hkI11 rfl
    exact m_vret hx hb hr hlocks hM hS (Nat.le_of_ble_eq_true rfl) (Nat.le_of_ble_eq_true rfl) ⟨_, _, rfl, hI, hK⟩ dX8_turnTowards_65
  · have hc5 := c5
    have q5 := q_nlt hc5
    refine lv_iload hx hb dX8_turnTowards_29 (lv_at hl 0 rfl) ?_
    refine lv_iload hx hb dX8_turnTowards_31 (lv_at hl 1 rfl) ?_
    refine va_mmin hx hb (hml.trans hl.1.symm) hown (hts _ tb_793) (hts _ tb_794) (hts _ tb_18) (hts _ tb_795) (Nat.le_of_ble_eq_true rfl) (Nat.le_of_ble_eq_true rfl) (Nat.le_of_ble_eq_true rfl) (Nat.le_of_ble_eq_true rfl) dX8_turnTowards_33 ?_
    refine lv_topi (fun v13 ev13 => ?_)
    have tv13 := a_min ev13
    refine lv_goto (tgt := 50) hx hb dX8_turnTowards_36 (by decide) ?_
    refine lv_istore (lv' := [(6, .int (v13)), (5, .int (v4)), (4, .int (r2)), (3, .int (r1)), (0, .ref (ad (100))), (1, .int (a0)), (2, .int (a1))]) hx hb dX8_turnTowards_50 hl (by decide) rfl (fun ls hl => ?_)
    refine lv_aload_n hx hb dX8_turnTowards_52 rfl (lv_at hl 4 rfl) ?_
    refine lv_iload_n hx hb dX8_turnTowards_53 rfl (lv_at hl 5 rfl) ?_
    refine lv_iconst (v := (2)) hx hb dX8_turnTowards_54 (by decide) ?_
    refine lv_iload_n hx hb dX8_turnTowards_55 rfl (lv_at hl 3 rfl) ?_
    refine lv_iload hx hb dX8_turnTowards_56 (lv_at hl 0 rfl) ?_
    refine lv_iadd hx hb dX8_turnTowards_58 ?_
    refine lv_topi (fun v14 ev14 => ?_)
    refine lv_bipush (v := (7)) hx hb dX8_turnTowards_59 (by decide) ?_
    refine lv_iand hx hb dX8_turnTowards_61 ?_
    refine lv_topi (fun v15 ev15 => ?_)
    have tv15 := a_and (c := 7) ev15 (by decide) (by decide)
    refine m_callv (m_runV (100) (As := [.int (a0), .int (2), .int (v15)]) (rest := []) hx hb hml hown hts hE hM hS hA ce_X8_setMirror tb_499 (V_X8_setMirror_100 l D A ad ns I L G (a0) (2) (v15) hG hI (by first | omega | decide) (by first | omega | decide)) rfl rfl ⟨Nat.le_of_ble_eq_true rfl, Nat.le_of_ble_eq_true rfl⟩ (hG.1 100 (by decide)) rfl rfl (by decide) rfl hl.1 rfl (Nat.le_of_ble_eq_true rfl) dX8_turnTowards_62 ⟨Nat.le_of_ble_eq_true rfl, Nat.le_of_ble_eq_true rfl⟩) hS (fun u H locs hw hM hS => ?_)
    obtain ⟨I16, L17, rfl, hI, hkI16⟩ := hw
    have hM : Mem D A ad ns I16 L17 G H := hM
    have hK := hK.trans hkI16 rfl
    exact m_vret hx hb hr hlocks hM hS (Nat.le_of_ble_eq_true rfl) (Nat.le_of_ble_eq_true rfl) ⟨_, _, rfl, hI, hK⟩ dX8_turnTowards_65
theorem dX8_endDay_0 : decode cX8_endDay 0 = .ok (.iconst 0, 1) := by decide +kernel
theorem dX8_endDay_1 : decode cX8_endDay 1 = .ok (.istore_n 2, 1) := by decide +kernel
theorem dX8_endDay_2 : decode cX8_endDay 2 = .ok (.iload_n 2, 1) := by decide +kernel
theorem dX8_endDay_3 : decode cX8_endDay 3 = .ok (.aload_n 0, 1) := by decide +kernel
theorem dX8_endDay_4 : decode cX8_endDay 4 = .ok (.getfield 61, 3) := by decide +kernel
theorem dX8_endDay_7 : decode cX8_endDay 7 = .ok (.if_icmp .ge 34, 3) := by decide +kernel
theorem dX8_endDay_10 : decode cX8_endDay 10 = .ok (.aload_n 0, 1) := by decide +kernel
theorem dX8_endDay_11 : decode cX8_endDay 11 = .ok (.iload_n 2, 1) := by decide +kernel
theorem dX8_endDay_12 : decode cX8_endDay 12 = .ok (.bipush 7, 2) := by decide +kernel
theorem dX8_endDay_14 : decode cX8_endDay 14 = .ok (.aload_n 0, 1) := by decide +kernel
theorem dX8_endDay_15 : decode cX8_endDay 15 = .ok (.iload_n 2, 1) := by decide +kernel
theorem dX8_endDay_16 : decode cX8_endDay 16 = .ok (.bipush 7, 2) := by decide +kernel
theorem dX8_endDay_18 : decode cX8_endDay 18 = .ok (.invokevirtual 97, 3) := by decide +kernel
theorem dX8_endDay_21 : decode cX8_endDay 21 = .ok (.aload_n 0, 1) := by decide +kernel
theorem dX8_endDay_22 : decode cX8_endDay 22 = .ok (.getfield 58, 3) := by decide +kernel
theorem dX8_endDay_25 : decode cX8_endDay 25 = .ok (.iadd, 1) := by decide +kernel
theorem dX8_endDay_26 : decode cX8_endDay 26 = .ok (.sipush 1000, 3) := by decide +kernel
theorem dX8_endDay_29 : decode cX8_endDay 29 = .ok (.invokestatic 100, 3) := by decide +kernel
theorem dX8_endDay_32 : decode cX8_endDay 32 = .ok (.invokevirtual 87, 3) := by decide +kernel
theorem dX8_endDay_35 : decode cX8_endDay 35 = .ok (.iinc 2 1, 3) := by decide +kernel
theorem dX8_endDay_38 : decode cX8_endDay 38 = .ok (.goto (-36), 3) := by decide +kernel
theorem dX8_endDay_41 : decode cX8_endDay 41 = .ok (.iconst 0, 1) := by decide +kernel
theorem dX8_endDay_42 : decode cX8_endDay 42 = .ok (.istore_n 2, 1) := by decide +kernel
theorem dX8_endDay_43 : decode cX8_endDay 43 = .ok (.iload_n 2, 1) := by decide +kernel
theorem dX8_endDay_44 : decode cX8_endDay 44 = .ok (.aload_n 0, 1) := by decide +kernel
theorem dX8_endDay_45 : decode cX8_endDay 45 = .ok (.getfield 64, 3) := by decide +kernel
theorem dX8_endDay_48 : decode cX8_endDay 48 = .ok (.if_icmp .ge 18, 3) := by decide +kernel
theorem dX8_endDay_51 : decode cX8_endDay 51 = .ok (.aload_n 0, 1) := by decide +kernel
theorem dX8_endDay_52 : decode cX8_endDay 52 = .ok (.iload_n 2, 1) := by decide +kernel
theorem dX8_endDay_53 : decode cX8_endDay 53 = .ok (.iconst 0, 1) := by decide +kernel
theorem dX8_endDay_54 : decode cX8_endDay 54 = .ok (.aload_n 1, 1) := by decide +kernel
theorem dX8_endDay_55 : decode cX8_endDay 55 = .ok (.iload_n 2, 1) := by decide +kernel
theorem dX8_endDay_56 : decode cX8_endDay 56 = .ok (.iaload, 1) := by decide +kernel
theorem dX8_endDay_57 : decode cX8_endDay 57 = .ok (.invokevirtual 91, 3) := by decide +kernel
theorem dX8_endDay_60 : decode cX8_endDay 60 = .ok (.iinc 2 1, 3) := by decide +kernel
theorem dX8_endDay_63 : decode cX8_endDay 63 = .ok (.goto (-20), 3) := by decide +kernel
theorem dX8_endDay_66 : decode cX8_endDay 66 = .ok (.aload_n 0, 1) := by decide +kernel
theorem dX8_endDay_67 : decode cX8_endDay 67 = .ok (.dup, 1) := by decide +kernel
theorem dX8_endDay_68 : decode cX8_endDay 68 = .ok (.getfield 55, 3) := by decide +kernel
theorem dX8_endDay_71 : decode cX8_endDay 71 = .ok (.iconst 1, 1) := by decide +kernel
theorem dX8_endDay_72 : decode cX8_endDay 72 = .ok (.iadd, 1) := by decide +kernel
theorem dX8_endDay_73 : decode cX8_endDay 73 = .ok (.putfield 55, 3) := by decide +kernel
theorem dX8_endDay_76 : decode cX8_endDay 76 = .ok (.return_, 1) := by decide +kernel
theorem ce_X8_endDay : CeV RX8 yX8_endDay cX8_endDay 3 none 1 := ⟨tb_877, tb_878, tb_2, tb_879, rfl, by decide, by decide, by decide +kernel⟩
set_option maxHeartbeats 4000000 in
set_option maxRecDepth 20000 in
theorem V_X8_endDay_100 (l : Launch) (D : va_G) (A : Nat → Prop) (ad : Nat → Nat) (ns : List Nat) (I : MI) (L : ML) (G : MG) (hG : SGC ns G) (hI : INV I) : Met l yX8_endDay (wd yX8_endDay cX8_endDay 3 none) ({ frames := 1, cells := 0, slots := 0, locals := 23 }) (va_Pc [.ref (ad (100)), .ref (ad (21))] (PM D A ad ns I L G)) (va_Qv (fun u => ∃ I2 L2, u = (ad, ns, I2, L2, G) ∧ INV I2 ∧ Kp [(107, 109)] [(100, 6)] I I2) (BM D A) A) 0 0 A := by
  refine m_ofW (by decide) (Nat.le_of_ble_eq_true rfl) ?_
  intro p e s m below meth c ls args hC hE hM hA hS hl
  obtain ⟨hx, hb, hml, hown, hts, hr, hlocks, hin⟩ := hC
  have k0 : (0 : Int32).toInt = 0 := by decide
  have k1 : (1 : Int32).toInt = 1 := by decide
  have k7 : (7 : Int32).toInt = 7 := by decide
  have k1000 : (1000 : Int32).toInt = 1000 := by decide
  have hK : Kp [(107, 109)] [(100, 6)] I I := Kp.rf
  have hl : lv_has ls 3 [(0, .ref (ad (100))), (1, .ref (ad (21)))] := hl
  refine lv_iconst (v := (0)) hx hb dX8_endDay_0 (by decide) ?_
  refine lv_istore_n (lv' := [(2, .int (0)), (0, .ref (ad (100))), (1, .ref (ad (21)))]) hx hb dX8_endDay_1 rfl hl (by decide) rfl (fun ls hl => ?_)
  have loop2 : ∀ (n : Nat) (x2_2 : Int32) (Ia2 : MI) (La2 : ML) (H : Heap) (locs : List Loc) (ls : Array Slot), INV Ia2 → Kp [(107, 109)] [(100, 6)] I Ia2 → (0 ≤ x2_2.toInt ∧ x2_2.toInt ≤ 24) → (24 - x2_2.toInt).toNat < n → Mem D A ad ns Ia2 La2 G H → va_S A s.heap H locs → lv_has ls 3 [(2, .int (x2_2)), (0, .ref (ad (100))), (1, .ref (ad (21)))] → W p l e ({ frames := 1, cells := 0, slots := 0, locals := 23 } : Room) s m args below meth c H locs 0 0 (MQ below (va_Qv (fun u => ∃ I2 L2, u = (ad, ns, I2, L2, G) ∧ INV I2 ∧ Kp [(107, 109)] [(100, 6)] I I2) (BM D A) A) args s 0 0 A) (F0 m 2 ls []) := by
    intro n
    induction n with
    | zero =>
      intro x2_2 Ia2 La2 H locs ls hI hK hr2_2 hmu
      exact absurd hmu (Nat.not_lt_zero _)
    | succ n ih2 =>
      intro x2_2 Ia2 La2 H locs ls hI hK hr2_2 hmu2 hM hS hl
      refine lv_iload_n hx hb dX8_endDay_2 rfl (lv_at hl 0 rfl) ?_
      refine lv_aload_n hx hb dX8_endDay_3 rfl (lv_at hl 1 rfl) ?_
      refine m_geti (100) 8 hx hb hts hown hE oc8 hM (hG.1 100 (by decide)) rfl (by decide) rfl tb_59 dX8_endDay_4 ?_
      have g1 := hI.get (100) 8 (lo := 0) (hi := 24) rfl
      refine lv_icmp_ge (tgt := 41) hx hb dX8_endDay_7 (by decide) (fun c2 => ?_) (fun c2 => ?_)
      · have hc2 := c2
        have q2 := q_le hc2
        refine lv_iconst (v := (0)) hx hb dX8_endDay_41 (by decide) ?_
        refine lv_istore_n (lv' := [(2, .int (0)), (0, .ref (ad (100))), (1, .ref (ad (21)))]) hx hb dX8_endDay_42 rfl hl (by decide) rfl (fun ls hl => ?_)
        have loop43 : ∀ (n : Nat) (x2_43 : Int32) (Ia43 : MI) (La43 : ML) (H : Heap) (locs : List Loc) (ls : Array Slot), INV Ia43 → Kp [(107, 109)] [(100, 6)] I Ia43 → (0 ≤ x2_43.toInt ∧ x2_43.toInt ≤ 8) → (8 - x2_43.toInt).toNat < n → Mem D A ad ns Ia43 La43 G H → va_S A s.heap H locs → lv_has ls 3 [(2, .int (x2_43)), (0, .ref (ad (100))), (1, .ref (ad (21)))] → W p l e ({ frames := 1, cells := 0, slots := 0, locals := 23 } : Room) s m args below meth c H locs 0 0 (MQ below (va_Qv (fun u => ∃ I2 L2, u = (ad, ns, I2, L2, G) ∧ INV I2 ∧ Kp [(107, 109)] [(100, 6)] I I2) (BM D A) A) args s 0 0 A) (F0 m 43 ls []) := by
          intro n
          induction n with
          | zero =>
            intro x2_43 Ia43 La43 H locs ls hI hK hr2_43 hmu
            exact absurd hmu (Nat.not_lt_zero _)
          | succ n ih43 =>
            intro x2_43 Ia43 La43 H locs ls hI hK hr2_43 hmu43 hM hS hl
            refine lv_iload_n hx hb dX8_endDay_43 rfl (lv_at hl 0 rfl) ?_
            refine lv_aload_n hx hb dX8_endDay_44 rfl (lv_at hl 1 rfl) ?_
            refine m_geti (100) 9 hx hb hts hown hE oc8 hM (hG.1 100 (by decide)) rfl (by decide) rfl tb_63 dX8_endDay_45 ?_
            have g3 := hI.get (100) 9 (lo := 0) (hi := 8) rfl
            refine lv_icmp_ge (tgt := 66) hx hb dX8_endDay_48 (by decide) (fun c4 => ?_) (fun c4 => ?_)
            · have hc4 := c4
              have q4 := q_le hc4
              refine lv_aload_n hx hb dX8_endDay_66 rfl (lv_at hl 1 rfl) ?_
              refine lv_dup hx hb dX8_endDay_67 rfl ?_
              refine m_geti (100) 6 hx hb hts hown hE oc8 hM (hG.1 100 (by decide)) rfl (by decide) rfl tb_54 dX8_endDay_68 ?_
              refine lv_iconst (v := (1)) hx hb dX8_endDay_71 (by decide) ?_
              refine lv_iadd hx hb dX8_endDay_72 ?_
              refine lv_topi (fun v5 ev5 => ?_)
              refine m_puti (100) 6 hx hb hts hown hE oc8 hM hS (hG.1 100 (by decide)) rfl (by decide) rfl rfl rfl rfl tb_54 dX8_endDay_73 (fun H locs I6 eI6 hM hS => ?_)
              subst eI6
              have hI := hI.putF (n := 100) (k := 6) (v := v5) rfl
              have hK := hK.put (n := 100) (k := 6) (v := v5) (by first | rfl | simp [inR])
              exact m_vret hx hb hr hlocks hM hS (Nat.le_of_ble_eq_true rfl) (Nat.le_of_ble_eq_true rfl) ⟨_, _, rfl, hI, hK⟩ dX8_endDay_76
            · have hc4 := c4
              have q4 := q_nle hc4
              refine lv_aload_n hx hb dX8_endDay_51 rfl (lv_at hl 1 rfl) ?_
              refine lv_iload_n hx hb dX8_endDay_52 rfl (lv_at hl 0 rfl) ?_
              refine lv_iconst (v := (0)) hx hb dX8_endDay_53 (by decide) ?_
              refine lv_aload_n hx hb dX8_endDay_54 rfl (lv_at hl 2 rfl) ?_
              refine lv_iload_n hx hb dX8_endDay_55 rfl (lv_at hl 0 rfl) ?_
              refine m_iald (21) hx hb hE hM (hG.1 21 (by decide)) rfl (vp_in_iff.mpr (by omega)) dX8_endDay_56 ?_
              refine m_callv (m_runV (100) (As := [.int (x2_43), .int (0), .int (Ia43 (21) (x2_43).toNatClampNeg)]) (rest := []) hx hb hml hown hts hE hM hS hA ce_X8_setYard tb_529 (V_X8_setYard_100 l D A ad ns Ia43 La43 G (x2_43) (0) (Ia43 (21) (x2_43).toNatClampNeg) hG hI (by first | omega | decide) (by first | omega | decide)) rfl rfl ⟨Nat.le_of_ble_eq_true rfl, Nat.le_of_ble_eq_true rfl⟩ (hG.1 100 (by decide)) rfl rfl (by decide) rfl hl.1 rfl (Nat.le_of_ble_eq_true rfl) dX8_endDay_57 ⟨Nat.le_of_ble_eq_true rfl, Nat.le_of_ble_eq_true rfl⟩) hS (fun u H locs hw hM hS => ?_)
              obtain ⟨I7, L8, rfl, hI, hkI7⟩ := hw
              have hM : Mem D A ad ns I7 L8 G H := hM
              have hK := hK.trans hkI7 rfl
              obtain ⟨v9, ev9⟩ : ∃ z : Int32, z = x2_43 + Int32.ofInt (1) := ⟨_, rfl⟩
              have tv9 := a_inc ev9 (by decide) (by omega) (by omega)
              refine lv_iinc (v := v9) (lv' := [(2, .int (v9)), (0, .ref (ad (100))), (1, .ref (ad (21)))]) hx hb dX8_endDay_60 hl (k := 0) rfl ev9.symm (by decide) rfl (fun ls hl => ?_)
              refine lv_goto (tgt := 43) hx hb dX8_endDay_63 (by decide) ?_
              exact ih43 (v9) I7 L8 _ _ ls hI hK (by first | omega | decide) (by omega) hM hS (lv_sub hl [0, 1, 2] rfl)
        exact loop43 (_ + 1) (0) Ia2 La2 _ _ ls hI hK (by first | omega | decide) (Nat.lt_succ_self _) hM hS (lv_sub hl [0, 1, 2] rfl)
      · have hc2 := c2
        have q2 := q_nle hc2
        refine lv_aload_n hx hb dX8_endDay_10 rfl (lv_at hl 1 rfl) ?_
        refine lv_iload_n hx hb dX8_endDay_11 rfl (lv_at hl 0 rfl) ?_
        refine lv_bipush (v := (7)) hx hb dX8_endDay_12 (by decide) ?_
        refine lv_aload_n hx hb dX8_endDay_14 rfl (lv_at hl 1 rfl) ?_
        refine lv_iload_n hx hb dX8_endDay_15 rfl (lv_at hl 0 rfl) ?_
        refine lv_bipush (v := (7)) hx hb dX8_endDay_16 (by decide) ?_
        refine m_calli (m_runV (100) (As := [.int (x2_2), .int (7)]) (rest := [.int (7), .int (x2_2), .ref (ad (100))]) hx hb hml hown hts hE hM hS hA ce_X8_ofMirror tb_792 (V_X8_ofMirror_100 l D A ad ns Ia2 La2 G (x2_2) (7) hG hI (by first | omega | decide) (by first | omega | decide)) rfl rfl ⟨Nat.le_of_ble_eq_true rfl, Nat.le_of_ble_eq_true rfl⟩ (hG.1 100 (by decide)) rfl rfl (by decide) rfl hl.1 rfl (Nat.le_of_ble_eq_true rfl) dX8_endDay_18 ⟨Nat.le_of_ble_eq_true rfl, Nat.le_of_ble_eq_true rfl⟩) hS (fun r10 u H locs hw hM hS => ?_)
        obtain ⟨rfl, xr10⟩ := hw
        have hM : Mem D A ad ns Ia2 La2 G H := hM
        refine lv_aload_n hx hb dX8_endDay_21 rfl (lv_at hl 1 rfl) ?_
        refine m_geti (100) 7 hx hb hts hown hE oc8 hM (hG.1 100 (by decide)) rfl (by decide) rfl tb_57 dX8_endDay_22 ?_
        refine lv_iadd hx hb dX8_endDay_25 ?_
        refine lv_topi (fun v11 ev11 => ?_)
        refine lv_sipush (v := (1000)) hx hb dX8_endDay_26 (by decide) ?_
        refine va_mmin hx hb (hml.trans hl.1.symm) hown (hts _ tb_793) (hts _ tb_794) (hts _ tb_18) (hts _ tb_795) (Nat.le_of_ble_eq_true rfl) (Nat.le_of_ble_eq_true rfl) (Nat.le_of_ble_eq_true rfl) (Nat.le_of_ble_eq_true rfl) dX8_endDay_29 ?_
        refine lv_topi (fun v12 ev12 => ?_)
        have tv12 := a_min ev12
        refine m_callv (m_runV (100) (As := [.int (x2_2), .int (7), .int (v12)]) (rest := []) hx hb hml hown hts hE hM hS hA ce_X8_setMirror tb_499 (V_X8_setMirror_100 l D A ad ns Ia2 La2 G (x2_2) (7) (v12) hG hI (by first | omega | decide) (by first | omega | decide)) rfl rfl ⟨Nat.le_of_ble_eq_true rfl, Nat.le_of_ble_eq_true rfl⟩ (hG.1 100 (by decide)) rfl rfl (by decide) rfl hl.1 rfl (Nat.le_of_ble_eq_true rfl) dX8_endDay_32 ⟨Nat.le_of_ble_eq_true rfl, Nat.le_of_ble_eq_true rfl⟩) hS (fun u H locs hw hM hS => ?_)
        obtain ⟨I13, L14, rfl, hI, hkI13⟩ := hw
        have hM : Mem D A ad ns I13 L14 G H := hM
        have hK := hK.trans hkI13 rfl
        obtain ⟨v15, ev15⟩ : ∃ z : Int32, z = x2_2 + Int32.ofInt (1) := ⟨_, rfl⟩
        have tv15 := a_inc ev15 (by decide) (by omega) (by omega)
        refine lv_iinc (v := v15) (lv' := [(2, .int (v15)), (0, .ref (ad (100))), (1, .ref (ad (21)))]) hx hb dX8_endDay_35 hl (k := 0) rfl ev15.symm (by decide) rfl (fun ls hl => ?_)
        refine lv_goto (tgt := 2) hx hb dX8_endDay_38 (by decide) ?_
        exact ih2 (v15) I13 L14 _ _ ls hI hK (by first | omega | decide) (by omega) hM hS (lv_sub hl [0, 1, 2] rfl)
  exact loop2 (_ + 1) (0) I L _ _ ls hI hK (by first | omega | decide) (Nat.lt_succ_self _) hM hS (lv_sub hl [0, 1, 2] rfl)
theorem dX8_metCount_0 : decode cX8_metCount 0 = .ok (.iconst 0, 1) := by decide +kernel
theorem dX8_metCount_1 : decode cX8_metCount 1 = .ok (.istore_n 1, 1) := by decide +kernel
theorem dX8_metCount_2 : decode cX8_metCount 2 = .ok (.iconst 0, 1) := by decide +kernel
theorem dX8_metCount_3 : decode cX8_metCount 3 = .ok (.istore_n 2, 1) := by decide +kernel
theorem dX8_metCount_4 : decode cX8_metCount 4 = .ok (.iload_n 2, 1) := by decide +kernel
theorem dX8_metCount_5 : decode cX8_metCount 5 = .ok (.aload_n 0, 1) := by decide +kernel
theorem dX8_metCount_6 : decode cX8_metCount 6 = .ok (.getfield 64, 3) := by decide +kernel
theorem dX8_metCount_9 : decode cX8_metCount 9 = .ok (.if_icmp .ge 27, 3) := by decide +kernel
theorem dX8_metCount_12 : decode cX8_metCount 12 = .ok (.aload_n 0, 1) := by decide +kernel
theorem dX8_metCount_13 : decode cX8_metCount 13 = .ok (.iload_n 2, 1) := by decide +kernel
theorem dX8_metCount_14 : decode cX8_metCount 14 = .ok (.iconst 0, 1) := by decide +kernel
theorem dX8_metCount_15 : decode cX8_metCount 15 = .ok (.invokevirtual 94, 3) := by decide +kernel
theorem dX8_metCount_18 : decode cX8_metCount 18 = .ok (.aload_n 0, 1) := by decide +kernel
theorem dX8_metCount_19 : decode cX8_metCount 19 = .ok (.iload_n 2, 1) := by decide +kernel
theorem dX8_metCount_20 : decode cX8_metCount 20 = .ok (.iconst 1, 1) := by decide +kernel
theorem dX8_metCount_21 : decode cX8_metCount 21 = .ok (.invokevirtual 94, 3) := by decide +kernel
theorem dX8_metCount_24 : decode cX8_metCount 24 = .ok (.if_icmp .lt 6, 3) := by decide +kernel
theorem dX8_metCount_27 : decode cX8_metCount 27 = .ok (.iinc 1 1, 3) := by decide +kernel
theorem dX8_metCount_30 : decode cX8_metCount 30 = .ok (.iinc 2 1, 3) := by decide +kernel
theorem dX8_metCount_33 : decode cX8_metCount 33 = .ok (.goto (-29), 3) := by decide +kernel
theorem dX8_metCount_36 : decode cX8_metCount 36 = .ok (.iload_n 1, 1) := by decide +kernel
theorem dX8_metCount_37 : decode cX8_metCount 37 = .ok (.ireturn, 1) := by decide +kernel
theorem ce_X8_metCount : CeV RX8 yX8_metCount cX8_metCount 3 (some .int) 0 := ⟨tb_881, tb_882, tb_2, tb_883, rfl, by decide, by decide, by decide +kernel⟩
set_option maxHeartbeats 4000000 in
set_option maxRecDepth 20000 in
theorem V_X8_metCount_100 (l : Launch) (D : va_G) (A : Nat → Prop) (ad : Nat → Nat) (ns : List Nat) (I : MI) (L : ML) (G : MG) (hG : SGC ns G) (hI : INV I) : Met l yX8_metCount (wd yX8_metCount cX8_metCount 3 (some .int)) ({ frames := 1, cells := 0, slots := 0, locals := 22 }) (va_Pc [.ref (ad (100))] (PM D A ad ns I L G)) (va_Qi (fun r u => u = (ad, ns, I, L, G) ∧ (True)) (BM D A) A) 0 0 A := by
  refine m_ofW (by decide) (Nat.le_of_ble_eq_true rfl) ?_
  intro p e s m below meth c ls args hC hE hM hA hS hl
  obtain ⟨hx, hb, hml, hown, hts, hr, hlocks, hin⟩ := hC
  have k0 : (0 : Int32).toInt = 0 := by decide
  have k1 : (1 : Int32).toInt = 1 := by decide
  have hl : lv_has ls 3 [(0, .ref (ad (100)))] := hl
  refine lv_iconst (v := (0)) hx hb dX8_metCount_0 (by decide) ?_
  refine lv_istore_n (lv' := [(1, .int (0)), (0, .ref (ad (100)))]) hx hb dX8_metCount_1 rfl hl (by decide) rfl (fun ls hl => ?_)
  refine lv_iconst (v := (0)) hx hb dX8_metCount_2 (by decide) ?_
  refine lv_istore_n (lv' := [(2, .int (0)), (1, .int (0)), (0, .ref (ad (100)))]) hx hb dX8_metCount_3 rfl hl (by decide) rfl (fun ls hl => ?_)
  have loop4 : ∀ (n : Nat) (x2_4 : Int32) (x1_4 : Int32) (H : Heap) (locs : List Loc) (ls : Array Slot), (0 ≤ x2_4.toInt ∧ x2_4.toInt ≤ 8) → (8 - x2_4.toInt).toNat < n → Mem D A ad ns I L G H → va_S A s.heap H locs → lv_has ls 3 [(2, .int (x2_4)), (1, .int (x1_4)), (0, .ref (ad (100)))] → W p l e ({ frames := 1, cells := 0, slots := 0, locals := 22 } : Room) s m args below meth c H locs 0 0 (MQ below (va_Qi (fun r u => u = (ad, ns, I, L, G) ∧ (True)) (BM D A) A) args s 0 0 A) (F0 m 4 ls []) := by
    intro n
    induction n with
    | zero =>
      intro x2_4 x1_4 H locs ls hr2_4 hmu
      exact absurd hmu (Nat.not_lt_zero _)
    | succ n ih4 =>
      intro x2_4 x1_4 H locs ls hr2_4 hmu4 hM hS hl
      refine lv_iload_n hx hb dX8_metCount_4 rfl (lv_at hl 0 rfl) ?_
      refine lv_aload_n hx hb dX8_metCount_5 rfl (lv_at hl 2 rfl) ?_
      refine m_geti (100) 9 hx hb hts hown hE oc8 hM (hG.1 100 (by decide)) rfl (by decide) rfl tb_63 dX8_metCount_6 ?_
      have g1 := hI.get (100) 9 (lo := 0) (hi := 8) rfl
      refine lv_icmp_ge (tgt := 36) hx hb dX8_metCount_9 (by decide) (fun c2 => ?_) (fun c2 => ?_)
      · have hc2 := c2
        have q2 := q_le hc2
        refine lv_iload_n hx hb dX8_metCount_36 rfl (lv_at hl 1 rfl) ?_
        exact m_iret hx hb hr hlocks hM hS (Nat.le_of_ble_eq_true rfl) (Nat.le_of_ble_eq_true rfl) ⟨rfl, trivial⟩ dX8_metCount_37
      · have hc2 := c2
        have q2 := q_nle hc2
        refine lv_aload_n hx hb dX8_metCount_12 rfl (lv_at hl 2 rfl) ?_
        refine lv_iload_n hx hb dX8_metCount_13 rfl (lv_at hl 0 rfl) ?_
        refine lv_iconst (v := (0)) hx hb dX8_metCount_14 (by decide) ?_
        refine m_calli (m_runV (100) (As := [.int (x2_4), .int (0)]) (rest := []) hx hb hml hown hts hE hM hS hA ce_X8_ofYard tb_884 (V_X8_ofYard_100 l D A ad ns I L G (x2_4) (0) hG hI (by first | omega | decide) (by first | omega | decide)) rfl rfl ⟨Nat.le_of_ble_eq_true rfl, Nat.le_of_ble_eq_true rfl⟩ (hG.1 100 (by decide)) rfl rfl (by decide) rfl hl.1 rfl (Nat.le_of_ble_eq_true rfl) dX8_metCount_15 ⟨Nat.le_of_ble_eq_true rfl, Nat.le_of_ble_eq_true rfl⟩) hS (fun r3 u H locs hw hM hS => ?_)
        obtain ⟨rfl, xr3⟩ := hw
        have hM : Mem D A ad ns I L G H := hM
        refine lv_aload_n hx hb dX8_metCount_18 rfl (lv_at hl 2 rfl) ?_
        refine lv_iload_n hx hb dX8_metCount_19 rfl (lv_at hl 0 rfl) ?_
        refine lv_iconst (v := (1)) hx hb dX8_metCount_20 (by decide) ?_
        refine m_calli (m_runV (100) (As := [.int (x2_4), .int (1)]) (rest := [.int (r3)]) hx hb hml hown hts hE hM hS hA ce_X8_ofYard tb_884 (V_X8_ofYard_100 l D A ad ns I L G (x2_4) (1) hG hI (by first | omega | decide) (by first | omega | decide)) rfl rfl ⟨Nat.le_of_ble_eq_true rfl, Nat.le_of_ble_eq_true rfl⟩ (hG.1 100 (by decide)) rfl rfl (by decide) rfl hl.1 rfl (Nat.le_of_ble_eq_true rfl) dX8_metCount_21 ⟨Nat.le_of_ble_eq_true rfl, Nat.le_of_ble_eq_true rfl⟩) hS (fun r4 u H locs hw hM hS => ?_)
        obtain ⟨rfl, xr4⟩ := hw
        have hM : Mem D A ad ns I L G H := hM
        refine lv_icmp_lt (tgt := 30) hx hb dX8_metCount_24 (by decide) (fun c5 => ?_) (fun c5 => ?_)
        · have hc5 := c5
          have q5 := q_lt hc5
          obtain ⟨v6, ev6⟩ : ∃ z : Int32, z = x2_4 + Int32.ofInt (1) := ⟨_, rfl⟩
          have tv6 := a_inc ev6 (by decide) (by omega) (by omega)
          refine lv_iinc (v := v6) (lv' := [(2, .int (v6)), (1, .int (x1_4)), (0, .ref (ad (100)))]) hx hb dX8_metCount_30 hl (k := 0) rfl ev6.symm (by decide) rfl (fun ls hl => ?_)
          refine lv_goto (tgt := 4) hx hb dX8_metCount_33 (by decide) ?_
          exact ih4 (v6) (x1_4) _ _ ls (by first | omega | decide) (by omega) hM hS (lv_sub hl [0, 1, 2] rfl)
        · have hc5 := c5
          have q5 := q_nlt hc5
          obtain ⟨v7, ev7⟩ : ∃ z : Int32, z = x1_4 + Int32.ofInt (1) := ⟨_, rfl⟩
          refine lv_iinc (v := v7) (lv' := [(1, .int (v7)), (2, .int (x2_4)), (0, .ref (ad (100)))]) hx hb dX8_metCount_27 hl (k := 1) rfl ev7.symm (by decide) rfl (fun ls hl => ?_)
          obtain ⟨v8, ev8⟩ : ∃ z : Int32, z = x2_4 + Int32.ofInt (1) := ⟨_, rfl⟩
          have tv8 := a_inc ev8 (by decide) (by omega) (by omega)
          refine lv_iinc (v := v8) (lv' := [(2, .int (v8)), (1, .int (v7)), (0, .ref (ad (100)))]) hx hb dX8_metCount_30 hl (k := 1) rfl ev8.symm (by decide) rfl (fun ls hl => ?_)
          refine lv_goto (tgt := 4) hx hb dX8_metCount_33 (by decide) ?_
          exact ih4 (v8) (v7) _ _ ls (by first | omega | decide) (by omega) hM hS (lv_sub hl [0, 1, 2] rfl)
  exact loop4 (_ + 1) (0) (0) _ _ ls (by first | omega | decide) (Nat.lt_succ_self _) hM hS (lv_sub hl [0, 1, 2] rfl)
set_option maxHeartbeats 4000000 in
set_option maxRecDepth 20000 in
theorem V_X8_isOpen_110 (l : Launch) (D : va_G) (A : Nat → Prop) (ad : Nat → Nat) (ns : List Nat) (I : MI) (L : ML) (G : MG) (a0 : Int32) (a1 : Int32) (hG : SGC ns G) (hI : INV I) : Met l yX8_isOpen (wd yX8_isOpen cX8_isOpen 3 (some .boolean)) ({ frames := 0, cells := 0, slots := 0, locals := 0 }) (va_Pc [.ref (ad (110)), .int a0, .int a1] (PM D A ad ns I L G)) (va_Qi (fun r u => u = (ad, ns, I, L, G) ∧ ((r.toInt = 0 ∨ (0 ≤ a0.toInt ∧ a0.toInt < (I 110 0).toInt ∧ 0 ≤ a1.toInt ∧ a1.toInt < (I 110 1).toInt)) ∧ 0 ≤ r.toInt ∧ r.toInt ≤ 1)) (BM D A) A) 0 0 A := by
  refine m_ofW (by decide) (Nat.le_of_ble_eq_true rfl) ?_
  intro p e s m below meth c ls args hC hE hM hA hS hl
  obtain ⟨hx, hb, hml, hown, hts, hr, hlocks, hin⟩ := hC
  have k0 : (0 : Int32).toInt = 0 := by decide
  have k1 : (1 : Int32).toInt = 1 := by decide
  have k24 : (24 : Int32).toInt = 24 := by decide
  have hl : lv_has ls 3 [(0, .ref (ad (110))), (1, .int (a0)), (2, .int (a1))] := hl
  refine lv_iload_n hx hb dX8_isOpen_0 rfl (lv_at hl 1 rfl) ?_
  refine lv_if_lt (tgt := 42) hx hb dX8_isOpen_1 (by decide) (fun c1 => ?_) (fun c1 => ?_)
  · have hc1 := c1
    have q1 := q_lt hc1
    refine lv_iconst (v := (0)) hx hb dX8_isOpen_42 (by decide) ?_
    exact m_zret hx hb hr rfl hlocks hM hS (Nat.le_of_ble_eq_true rfl) (Nat.le_of_ble_eq_true rfl) ⟨rfl, (by first | omega | decide)⟩ dX8_isOpen_43
  · have hc1 := c1
    have q1 := q_nlt hc1
    refine lv_iload_n hx hb dX8_isOpen_4 rfl (lv_at hl 1 rfl) ?_
    refine lv_aload_n hx hb dX8_isOpen_5 rfl (lv_at hl 0 rfl) ?_
    refine m_geti (110) 0 hx hb hts hown hE oc8 hM (hG.1 110 (by decide)) rfl (by decide) rfl tb_34 dX8_isOpen_6 ?_
    have g2 := hI.get (110) 0 (lo := 0) (hi := 24) rfl
    refine lv_icmp_ge (tgt := 42) hx hb dX8_isOpen_9 (by decide) (fun c3 => ?_) (fun c3 => ?_)
    · have hc3 := c3
      have q3 := q_le hc3
      refine lv_iconst (v := (0)) hx hb dX8_isOpen_42 (by decide) ?_
      exact m_zret hx hb hr rfl hlocks hM hS (Nat.le_of_ble_eq_true rfl) (Nat.le_of_ble_eq_true rfl) ⟨rfl, (by first | omega | decide)⟩ dX8_isOpen_43
    · have hc3 := c3
      have q3 := q_nle hc3
      refine lv_iload_n hx hb dX8_isOpen_12 rfl (lv_at hl 2 rfl) ?_
      refine lv_if_lt (tgt := 42) hx hb dX8_isOpen_13 (by decide) (fun c4 => ?_) (fun c4 => ?_)
      · have hc4 := c4
        have q4 := q_lt hc4
        refine lv_iconst (v := (0)) hx hb dX8_isOpen_42 (by decide) ?_
        exact m_zret hx hb hr rfl hlocks hM hS (Nat.le_of_ble_eq_true rfl) (Nat.le_of_ble_eq_true rfl) ⟨rfl, (by first | omega | decide)⟩ dX8_isOpen_43
      · have hc4 := c4
        have q4 := q_nlt hc4
        refine lv_iload_n hx hb dX8_isOpen_16 rfl (lv_at hl 2 rfl) ?_
        refine lv_aload_n hx hb dX8_isOpen_17 rfl (lv_at hl 0 rfl) ?_
        refine m_geti (110) 1 hx hb hts hown hE oc8 hM (hG.1 110 (by decide)) rfl (by decide) rfl tb_37 dX8_isOpen_18 ?_
        have g5 := hI.get (110) 1 (lo := 0) (hi := 24) rfl
        refine lv_icmp_ge (tgt := 42) hx hb dX8_isOpen_21 (by decide) (fun c6 => ?_) (fun c6 => ?_)
        · have hc6 := c6
          have q6 := q_le hc6
          refine lv_iconst (v := (0)) hx hb dX8_isOpen_42 (by decide) ?_
          exact m_zret hx hb hr rfl hlocks hM hS (Nat.le_of_ble_eq_true rfl) (Nat.le_of_ble_eq_true rfl) ⟨rfl, (by first | omega | decide)⟩ dX8_isOpen_43
        · have hc6 := c6
          have q6 := q_nle hc6
          refine lv_aload_n hx hb dX8_isOpen_24 rfl (lv_at hl 0 rfl) ?_
          refine m_getr (110) 10 (111) hx hb hts hown hE oc8 hM (hG.1 110 (by decide)) rfl (by decide) rfl (hG.2 (110, 10, 111) (by decide)) (by decide) tb_66 dX8_isOpen_25 ?_
          refine lv_bipush (v := (24)) hx hb dX8_isOpen_28 (by decide) ?_
          refine lv_iload_n hx hb dX8_isOpen_30 rfl (lv_at hl 2 rfl) ?_
          refine lv_imul hx hb dX8_isOpen_31 ?_
          refine lv_topi (fun v7 ev7 => ?_)
          have tv7 := a_mulL (c := 24) ev7 (by decide) (by omega) (by omega)
          refine lv_iload_n hx hb dX8_isOpen_32 rfl (lv_at hl 1 rfl) ?_
          refine lv_iadd hx hb dX8_isOpen_33 ?_
          refine lv_topi (fun v8 ev8 => ?_)
          have tv8 := a_add ev8 (by omega) (by omega)
          refine m_iald (111) hx hb hE hM (hG.1 111 (by decide)) rfl (vp_in_iff.mpr (by omega)) dX8_isOpen_34 ?_
          refine lv_if_ne (tgt := 42) hx hb dX8_isOpen_35 (by decide) (fun c9 => ?_) (fun c9 => ?_)
          · have hc9 := c9
            have q9 := q_ne hc9
            refine lv_iconst (v := (0)) hx hb dX8_isOpen_42 (by decide) ?_
            exact m_zret hx hb hr rfl hlocks hM hS (Nat.le_of_ble_eq_true rfl) (Nat.le_of_ble_eq_true rfl) ⟨rfl, (by first | omega | decide)⟩ dX8_isOpen_43
          · have hc9 := c9
            have q9 := q_eq hc9
            refine lv_iconst (v := (1)) hx hb dX8_isOpen_38 (by decide) ?_
            refine lv_goto (tgt := 43) hx hb dX8_isOpen_39 (by decide) ?_
            exact m_zret hx hb hr rfl hlocks hM hS (Nat.le_of_ble_eq_true rfl) (Nat.le_of_ble_eq_true rfl) ⟨rfl, (by first | omega | decide)⟩ dX8_isOpen_43
set_option maxHeartbeats 4000000 in
set_option maxRecDepth 20000 in
theorem V_X8_hasMirror_110 (l : Launch) (D : va_G) (A : Nat → Prop) (ad : Nat → Nat) (ns : List Nat) (I : MI) (L : ML) (G : MG) (a0 : Int32) (hG : SGC ns G) (hI : INV I) : Met l yX8_hasMirror (wd yX8_hasMirror cX8_hasMirror 2 (some .boolean)) ({ frames := 0, cells := 0, slots := 0, locals := 0 }) (va_Pc [.ref (ad (110)), .int a0] (PM D A ad ns I L G)) (va_Qi (fun r u => u = (ad, ns, I, L, G) ∧ (Bo r (0 ≤ a0.toInt ∧ a0.toInt < (I 110 8).toInt))) (BM D A) A) 0 0 A := by
  refine m_ofW (by decide) (Nat.le_of_ble_eq_true rfl) ?_
  intro p e s m below meth c ls args hC hE hM hA hS hl
  obtain ⟨hx, hb, hml, hown, hts, hr, hlocks, hin⟩ := hC
  have k0 : (0 : Int32).toInt = 0 := by decide
  have k1 : (1 : Int32).toInt = 1 := by decide
  have hl : lv_has ls 2 [(0, .ref (ad (110))), (1, .int (a0))] := hl
  refine lv_iload_n hx hb dX8_hasMirror_0 rfl (lv_at hl 1 rfl) ?_
  refine lv_if_lt (tgt := 16) hx hb dX8_hasMirror_1 (by decide) (fun c1 => ?_) (fun c1 => ?_)
  · have hc1 := c1
    have q1 := q_lt hc1
    refine lv_iconst (v := (0)) hx hb dX8_hasMirror_16 (by decide) ?_
    exact m_zret hx hb hr rfl hlocks hM hS (Nat.le_of_ble_eq_true rfl) (Nat.le_of_ble_eq_true rfl) ⟨rfl, (Bo.n (by omega))⟩ dX8_hasMirror_17
  · have hc1 := c1
    have q1 := q_nlt hc1
    refine lv_iload_n hx hb dX8_hasMirror_4 rfl (lv_at hl 1 rfl) ?_
    refine lv_aload_n hx hb dX8_hasMirror_5 rfl (lv_at hl 0 rfl) ?_
    refine m_geti (110) 8 hx hb hts hown hE oc8 hM (hG.1 110 (by decide)) rfl (by decide) rfl tb_59 dX8_hasMirror_6 ?_
    have g2 := hI.get (110) 8 (lo := 0) (hi := 24) rfl
    refine lv_icmp_ge (tgt := 16) hx hb dX8_hasMirror_9 (by decide) (fun c3 => ?_) (fun c3 => ?_)
    · have hc3 := c3
      have q3 := q_le hc3
      refine lv_iconst (v := (0)) hx hb dX8_hasMirror_16 (by decide) ?_
      exact m_zret hx hb hr rfl hlocks hM hS (Nat.le_of_ble_eq_true rfl) (Nat.le_of_ble_eq_true rfl) ⟨rfl, (Bo.n (by omega))⟩ dX8_hasMirror_17
    · have hc3 := c3
      have q3 := q_nle hc3
      refine lv_iconst (v := (1)) hx hb dX8_hasMirror_12 (by decide) ?_
      refine lv_goto (tgt := 17) hx hb dX8_hasMirror_13 (by decide) ?_
      exact m_zret hx hb hr rfl hlocks hM hS (Nat.le_of_ble_eq_true rfl) (Nat.le_of_ble_eq_true rfl) ⟨rfl, (Bo.y (by omega))⟩ dX8_hasMirror_17
set_option maxHeartbeats 4000000 in
set_option maxRecDepth 20000 in
theorem V_X8_isLit_110 (l : Launch) (D : va_G) (A : Nat → Prop) (ad : Nat → Nat) (ns : List Nat) (I : MI) (L : ML) (G : MG) (a0 : Int32) (hG : SGC ns G) (hI : INV I) : Met l yX8_isLit (wd yX8_isLit cX8_isLit 2 (some .boolean)) ({ frames := 0, cells := 0, slots := 0, locals := 0 }) (va_Pc [.ref (ad (110)), .int a0] (PM D A ad ns I L G)) (va_Qi (fun r u => u = (ad, ns, I, L, G) ∧ (Bo r (0 < (I 110 0).toInt ∧ Lit 110 I a0))) (BM D A) A) 0 0 A := by
  refine m_ofW (by decide) (Nat.le_of_ble_eq_true rfl) ?_
  intro p e s m below meth c ls args hC hE hM hA hS hl
  obtain ⟨hx, hb, hml, hown, hts, hr, hlocks, hin⟩ := hC
  have km1 : (-1 : Int32).toInt = -1 := by decide
  have k0 : (0 : Int32).toInt = 0 := by decide
  have k1 : (1 : Int32).toInt = 1 := by decide
  have k24 : (24 : Int32).toInt = 24 := by decide
  have hl : lv_has ls 2 [(0, .ref (ad (110))), (1, .int (a0))] := hl
  refine lv_aload_n hx hb dX8_isLit_0 rfl (lv_at hl 0 rfl) ?_
  refine m_geti (110) 0 hx hb hts hown hE oc8 hM (hG.1 110 (by decide)) rfl (by decide) rfl tb_34 dX8_isLit_1 ?_
  have g1 := hI.get (110) 0 (lo := 0) (hi := 24) rfl
  refine lv_if_le (tgt := 39) hx hb dX8_isLit_4 (by decide) (fun c2 => ?_) (fun c2 => ?_)
  · have hc2 := c2
    have q2 := q_le hc2
    refine lv_iconst (v := (0)) hx hb dX8_isLit_39 (by decide) ?_
    exact m_zret hx hb hr rfl hlocks hM hS (Nat.le_of_ble_eq_true rfl) (Nat.le_of_ble_eq_true rfl) ⟨rfl, (by exact Bo.n (by simp only [Lit, Nat.reduceAdd]; omega))⟩ dX8_isLit_40
  · have hc2 := c2
    have q2 := q_nle hc2
    refine lv_iload_n hx hb dX8_isLit_7 rfl (lv_at hl 1 rfl) ?_
    refine lv_if_lt (tgt := 39) hx hb dX8_isLit_8 (by decide) (fun c3 => ?_) (fun c3 => ?_)
    · have hc3 := c3
      have q3 := q_lt hc3
      refine lv_iconst (v := (0)) hx hb dX8_isLit_39 (by decide) ?_
      exact m_zret hx hb hr rfl hlocks hM hS (Nat.le_of_ble_eq_true rfl) (Nat.le_of_ble_eq_true rfl) ⟨rfl, (by exact Bo.n (by simp only [Lit, Nat.reduceAdd]; omega))⟩ dX8_isLit_40
    · have hc3 := c3
      have q3 := q_nlt hc3
      refine lv_iload_n hx hb dX8_isLit_11 rfl (lv_at hl 1 rfl) ?_
      refine lv_bipush (v := (24)) hx hb dX8_isLit_12 (by decide) ?_
      refine lv_icmp_ge (tgt := 39) hx hb dX8_isLit_14 (by decide) (fun c4 => ?_) (fun c4 => ?_)
      · have hc4 := c4
        have q4 := q_le hc4
        refine lv_iconst (v := (0)) hx hb dX8_isLit_39 (by decide) ?_
        exact m_zret hx hb hr rfl hlocks hM hS (Nat.le_of_ble_eq_true rfl) (Nat.le_of_ble_eq_true rfl) ⟨rfl, (by exact Bo.n (by simp only [Lit, Nat.reduceAdd]; omega))⟩ dX8_isLit_40
      · have hc4 := c4
        have q4 := q_nle hc4
        refine lv_aload_n hx hb dX8_isLit_17 rfl (lv_at hl 0 rfl) ?_
        refine m_getr (110) 14 (115) hx hb hts hown hE oc8 hM (hG.1 110 (by decide)) rfl (by decide) rfl (hG.2 (110, 14, 115) (by decide)) (by decide) tb_78 dX8_isLit_18 ?_
        refine lv_aload_n hx hb dX8_isLit_21 rfl (lv_at hl 0 rfl) ?_
        refine m_geti (110) 5 hx hb hts hown hE oc8 hM (hG.1 110 (by decide)) rfl (by decide) rfl tb_51 dX8_isLit_22 ?_
        have g5 := hI.get (110) 5 (lo := 0) (hi := 11) rfl
        refine lv_bipush (v := (24)) hx hb dX8_isLit_25 (by decide) ?_
        refine lv_imul hx hb dX8_isLit_27 ?_
        refine lv_topi (fun v6 ev6 => ?_)
        have tv6 := a_mulR (c := 24) ev6 (by decide) (by omega) (by omega)
        refine lv_iload_n hx hb dX8_isLit_28 rfl (lv_at hl 1 rfl) ?_
        refine lv_iadd hx hb dX8_isLit_29 ?_
        refine lv_topi (fun v7 ev7 => ?_)
        have tv7 := a_add ev7 (by omega) (by omega)
        refine m_iald (115) hx hb hE hM (hG.1 115 (by decide)) rfl (vp_in_iff.mpr (by omega)) dX8_isLit_30 ?_
        have g8 := hI.get (115) ((v7).toNatClampNeg) (lo := -1) (hi := 7) rfl
        refine lv_iconst (v := (-1)) hx hb dX8_isLit_31 (by decide) ?_
        refine lv_icmp_eq (tgt := 39) hx hb dX8_isLit_32 (by decide) (fun c9 => ?_) (fun c9 => ?_)
        · have hc9 := c9
          have q9 := q_eq hc9
          refine lv_iconst (v := (0)) hx hb dX8_isLit_39 (by decide) ?_
          exact m_zret hx hb hr rfl hlocks hM hS (Nat.le_of_ble_eq_true rfl) (Nat.le_of_ble_eq_true rfl) ⟨rfl, (by subst ev7; subst ev6; exact Bo.n (by simp only [Lit, Nat.reduceAdd]; omega))⟩ dX8_isLit_40
        · have hc9 := c9
          have q9 := q_ne hc9
          refine lv_iconst (v := (1)) hx hb dX8_isLit_35 (by decide) ?_
          refine lv_goto (tgt := 40) hx hb dX8_isLit_36 (by decide) ?_
          exact m_zret hx hb hr rfl hlocks hM hS (Nat.le_of_ble_eq_true rfl) (Nat.le_of_ble_eq_true rfl) ⟨rfl, (by subst ev7; subst ev6; exact Bo.y (by simp only [Lit, Nat.reduceAdd]; omega))⟩ dX8_isLit_40
set_option maxHeartbeats 4000000 in
set_option maxRecDepth 20000 in
theorem V_X8_wayOf_110 (l : Launch) (D : va_G) (A : Nat → Prop) (ad : Nat → Nat) (ns : List Nat) (I : MI) (L : ML) (G : MG) (a0 : Int32) (hG : SGC ns G) (hI : INV I) (ha0 : 0 ≤ a0.toInt ∧ a0.toInt ≤ 23) : Met l yX8_wayOf (wd yX8_wayOf cX8_wayOf 2 (some .int)) ({ frames := 0, cells := 0, slots := 0, locals := 0 }) (va_Pc [.ref (ad (110)), .int a0] (PM D A ad ns I L G)) (va_Qi (fun r u => u = (ad, ns, I, L, G) ∧ (r = I 115 (I 110 5 * 24 + a0).toNatClampNeg)) (BM D A) A) 0 0 A := by
  refine m_ofW (by decide) (Nat.le_of_ble_eq_true rfl) ?_
  intro p e s m below meth c ls args hC hE hM hA hS hl
  obtain ⟨hx, hb, hml, hown, hts, hr, hlocks, hin⟩ := hC
  have k0 : (0 : Int32).toInt = 0 := by decide
  have k24 : (24 : Int32).toInt = 24 := by decide
  have hl : lv_has ls 2 [(0, .ref (ad (110))), (1, .int (a0))] := hl
  refine lv_aload_n hx hb dX8_wayOf_0 rfl (lv_at hl 0 rfl) ?_
  refine m_getr (110) 14 (115) hx hb hts hown hE oc8 hM (hG.1 110 (by decide)) rfl (by decide) rfl (hG.2 (110, 14, 115) (by decide)) (by decide) tb_78 dX8_wayOf_1 ?_
  refine lv_aload_n hx hb dX8_wayOf_4 rfl (lv_at hl 0 rfl) ?_
  refine m_geti (110) 5 hx hb hts hown hE oc8 hM (hG.1 110 (by decide)) rfl (by decide) rfl tb_51 dX8_wayOf_5 ?_
  have g1 := hI.get (110) 5 (lo := 0) (hi := 11) rfl
  refine lv_bipush (v := (24)) hx hb dX8_wayOf_8 (by decide) ?_
  refine lv_imul hx hb dX8_wayOf_10 ?_
  refine lv_topi (fun v2 ev2 => ?_)
  have tv2 := a_mulR (c := 24) ev2 (by decide) (by omega) (by omega)
  refine lv_iload_n hx hb dX8_wayOf_11 rfl (lv_at hl 1 rfl) ?_
  refine lv_iadd hx hb dX8_wayOf_12 ?_
  refine lv_topi (fun v3 ev3 => ?_)
  have tv3 := a_add ev3 (by omega) (by omega)
  refine m_iald (115) hx hb hE hM (hG.1 115 (by decide)) rfl (vp_in_iff.mpr (by omega)) dX8_wayOf_13 ?_
  have g4 := hI.get (115) ((v3).toNatClampNeg) (lo := -1) (hi := 7) rfl
  exact m_iret hx hb hr hlocks hM hS (Nat.le_of_ble_eq_true rfl) (Nat.le_of_ble_eq_true rfl) ⟨rfl, (by subst ev3; subst ev2; rfl)⟩ dX8_wayOf_14
set_option maxHeartbeats 4000000 in
set_option maxRecDepth 20000 in
theorem V_X8_strengthOf_110 (l : Launch) (D : va_G) (A : Nat → Prop) (ad : Nat → Nat) (ns : List Nat) (I : MI) (L : ML) (G : MG) (a0 : Int32) (hG : SGC ns G) (hI : INV I) (ha0 : 0 ≤ a0.toInt ∧ a0.toInt ≤ 23) : Met l yX8_strengthOf (wd yX8_strengthOf cX8_strengthOf 2 (some .int)) ({ frames := 0, cells := 0, slots := 0, locals := 0 }) (va_Pc [.ref (ad (110)), .int a0] (PM D A ad ns I L G)) (va_Qi (fun r u => u = (ad, ns, I, L, G) ∧ (True)) (BM D A) A) 0 0 A := by
  refine m_ofW (by decide) (Nat.le_of_ble_eq_true rfl) ?_
  intro p e s m below meth c ls args hC hE hM hA hS hl
  obtain ⟨hx, hb, hml, hown, hts, hr, hlocks, hin⟩ := hC
  have k0 : (0 : Int32).toInt = 0 := by decide
  have k24 : (24 : Int32).toInt = 24 := by decide
  have hl : lv_has ls 2 [(0, .ref (ad (110))), (1, .int (a0))] := hl
  refine lv_aload_n hx hb dX8_strengthOf_0 rfl (lv_at hl 0 rfl) ?_
  refine m_getr (110) 15 (116) hx hb hts hown hE oc8 hM (hG.1 110 (by decide)) rfl (by decide) rfl (hG.2 (110, 15, 116) (by decide)) (by decide) tb_80 dX8_strengthOf_1 ?_
  refine lv_aload_n hx hb dX8_strengthOf_4 rfl (lv_at hl 0 rfl) ?_
  refine m_geti (110) 5 hx hb hts hown hE oc8 hM (hG.1 110 (by decide)) rfl (by decide) rfl tb_51 dX8_strengthOf_5 ?_
  have g1 := hI.get (110) 5 (lo := 0) (hi := 11) rfl
  refine lv_bipush (v := (24)) hx hb dX8_strengthOf_8 (by decide) ?_
  refine lv_imul hx hb dX8_strengthOf_10 ?_
  refine lv_topi (fun v2 ev2 => ?_)
  have tv2 := a_mulR (c := 24) ev2 (by decide) (by omega) (by omega)
  refine lv_iload_n hx hb dX8_strengthOf_11 rfl (lv_at hl 1 rfl) ?_
  refine lv_iadd hx hb dX8_strengthOf_12 ?_
  refine lv_topi (fun v3 ev3 => ?_)
  have tv3 := a_add ev3 (by omega) (by omega)
  refine m_iald (116) hx hb hE hM (hG.1 116 (by decide)) rfl (vp_in_iff.mpr (by omega)) dX8_strengthOf_13 ?_
  exact m_iret hx hb hr hlocks hM hS (Nat.le_of_ble_eq_true rfl) (Nat.le_of_ble_eq_true rfl) ⟨rfl, trivial⟩ dX8_strengthOf_14
set_option maxHeartbeats 4000000 in
set_option maxRecDepth 20000 in
theorem V_X8_ofMirror_110 (l : Launch) (D : va_G) (A : Nat → Prop) (ad : Nat → Nat) (ns : List Nat) (I : MI) (L : ML) (G : MG) (a0 : Int32) (a1 : Int32) (hG : SGC ns G) (hI : INV I) (ha0 : 0 ≤ a0.toInt ∧ a0.toInt ≤ 23) (ha1 : 0 ≤ a1.toInt ∧ a1.toInt ≤ 9) : Met l yX8_ofMirror (wd yX8_ofMirror cX8_ofMirror 3 (some .int)) ({ frames := 0, cells := 0, slots := 0, locals := 0 }) (va_Pc [.ref (ad (110)), .int a0, .int a1] (PM D A ad ns I L G)) (va_Qi (fun r u => u = (ad, ns, I, L, G) ∧ (True)) (BM D A) A) 0 0 A := by
  refine m_ofW (by decide) (Nat.le_of_ble_eq_true rfl) ?_
  intro p e s m below meth c ls args hC hE hM hA hS hl
  obtain ⟨hx, hb, hml, hown, hts, hr, hlocks, hin⟩ := hC
  have k0 : (0 : Int32).toInt = 0 := by decide
  have k24 : (24 : Int32).toInt = 24 := by decide
  have hl : lv_has ls 3 [(0, .ref (ad (110))), (1, .int (a0)), (2, .int (a1))] := hl
  refine lv_aload_n hx hb dX8_ofMirror_0 rfl (lv_at hl 0 rfl) ?_
  refine m_getr (110) 16 (117) hx hb hts hown hE oc8 hM (hG.1 110 (by decide)) rfl (by decide) rfl (hG.2 (110, 16, 117) (by decide)) (by decide) tb_82 dX8_ofMirror_1 ?_
  refine lv_iload_n hx hb dX8_ofMirror_4 rfl (lv_at hl 2 rfl) ?_
  refine lv_bipush (v := (24)) hx hb dX8_ofMirror_5 (by decide) ?_
  refine lv_imul hx hb dX8_ofMirror_7 ?_
  refine lv_topi (fun v1 ev1 => ?_)
  have tv1 := a_mulR (c := 24) ev1 (by decide) (by omega) (by omega)
  refine lv_iload_n hx hb dX8_ofMirror_8 rfl (lv_at hl 1 rfl) ?_
  refine lv_iadd hx hb dX8_ofMirror_9 ?_
  refine lv_topi (fun v2 ev2 => ?_)
  have tv2 := a_add ev2 (by omega) (by omega)
  refine m_iald (117) hx hb hE hM (hG.1 117 (by decide)) rfl (vp_in_iff.mpr (by omega)) dX8_ofMirror_10 ?_
  exact m_iret hx hb hr hlocks hM hS (Nat.le_of_ble_eq_true rfl) (Nat.le_of_ble_eq_true rfl) ⟨rfl, trivial⟩ dX8_ofMirror_11
set_option maxHeartbeats 4000000 in
set_option maxRecDepth 20000 in
theorem V_X8_setMirror_110 (l : Launch) (D : va_G) (A : Nat → Prop) (ad : Nat → Nat) (ns : List Nat) (I : MI) (L : ML) (G : MG) (a0 : Int32) (a1 : Int32) (a2 : Int32) (hG : SGC ns G) (hI : INV I) (ha0 : 0 ≤ a0.toInt ∧ a0.toInt ≤ 23) (ha1 : 0 ≤ a1.toInt ∧ a1.toInt ≤ 9) : Met l yX8_setMirror (wd yX8_setMirror cX8_setMirror 4 none) ({ frames := 0, cells := 0, slots := 0, locals := 0 }) (va_Pc [.ref (ad (110)), .int a0, .int a1, .int a2] (PM D A ad ns I L G)) (va_Qv (fun u => ∃ I2 L2, u = (ad, ns, I2, L2, G) ∧ INV I2 ∧ Kp [(117, 118)] [] I I2) (BM D A) A) 0 0 A := by
  refine m_ofW (by decide) (Nat.le_of_ble_eq_true rfl) ?_
  intro p e s m below meth c ls args hC hE hM hA hS hl
  obtain ⟨hx, hb, hml, hown, hts, hr, hlocks, hin⟩ := hC
  have k0 : (0 : Int32).toInt = 0 := by decide
  have k24 : (24 : Int32).toInt = 24 := by decide
  have hK : Kp [(117, 118)] [] I I := Kp.rf
  have hl : lv_has ls 4 [(0, .ref (ad (110))), (1, .int (a0)), (2, .int (a1)), (3, .int (a2))] := hl
  refine lv_aload_n hx hb dX8_setMirror_0 rfl (lv_at hl 0 rfl) ?_
  refine m_getr (110) 16 (117) hx hb hts hown hE oc8 hM (hG.1 110 (by decide)) rfl (by decide) rfl (hG.2 (110, 16, 117) (by decide)) (by decide) tb_82 dX8_setMirror_1 ?_
  refine lv_iload_n hx hb dX8_setMirror_4 rfl (lv_at hl 2 rfl) ?_
  refine lv_bipush (v := (24)) hx hb dX8_setMirror_5 (by decide) ?_
  refine lv_imul hx hb dX8_setMirror_7 ?_
  refine lv_topi (fun v1 ev1 => ?_)
  have tv1 := a_mulR (c := 24) ev1 (by decide) (by omega) (by omega)
  refine lv_iload_n hx hb dX8_setMirror_8 rfl (lv_at hl 1 rfl) ?_
  refine lv_iadd hx hb dX8_setMirror_9 ?_
  refine lv_topi (fun v2 ev2 => ?_)
  have tv2 := a_add ev2 (by omega) (by omega)
  refine lv_iload_n hx hb dX8_setMirror_10 rfl (lv_at hl 3 rfl) ?_
  refine m_iast (117) hx hb hE hM hS (hG.1 117 (by decide)) rfl (vp_in_iff.mpr (by omega)) dX8_setMirror_11 (fun H locs I3 eI3 hM hS => ?_)
  subst eI3
  have hI := hI.putF (n := 117) (k := ((v2).toNatClampNeg)) (v := a2) rfl
  have hK := hK.put (n := 117) (k := ((v2).toNatClampNeg)) (v := a2) (by first | rfl | simp [inR])
  exact m_vret hx hb hr hlocks hM hS (Nat.le_of_ble_eq_true rfl) (Nat.le_of_ble_eq_true rfl) ⟨_, _, rfl, hI, hK⟩ dX8_setMirror_12
set_option maxHeartbeats 4000000 in
set_option maxRecDepth 20000 in
theorem V_X8_ofYard_110 (l : Launch) (D : va_G) (A : Nat → Prop) (ad : Nat → Nat) (ns : List Nat) (I : MI) (L : ML) (G : MG) (a0 : Int32) (a1 : Int32) (hG : SGC ns G) (hI : INV I) (ha0 : 0 ≤ a0.toInt ∧ a0.toInt ≤ 7) (ha1 : 0 ≤ a1.toInt ∧ a1.toInt ≤ 6) : Met l yX8_ofYard (wd yX8_ofYard cX8_ofYard 3 (some .int)) ({ frames := 0, cells := 0, slots := 0, locals := 0 }) (va_Pc [.ref (ad (110)), .int a0, .int a1] (PM D A ad ns I L G)) (va_Qi (fun r u => u = (ad, ns, I, L, G) ∧ (True)) (BM D A) A) 0 0 A := by
  refine m_ofW (by decide) (Nat.le_of_ble_eq_true rfl) ?_
  intro p e s m below meth c ls args hC hE hM hA hS hl
  obtain ⟨hx, hb, hml, hown, hts, hr, hlocks, hin⟩ := hC
  have k0 : (0 : Int32).toInt = 0 := by decide
  have k8 : (8 : Int32).toInt = 8 := by decide
  have hl : lv_has ls 3 [(0, .ref (ad (110))), (1, .int (a0)), (2, .int (a1))] := hl
  refine lv_aload_n hx hb dX8_ofYard_0 rfl (lv_at hl 0 rfl) ?_
  refine m_getr (110) 17 (118) hx hb hts hown hE oc8 hM (hG.1 110 (by decide)) rfl (by decide) rfl (hG.2 (110, 17, 118) (by decide)) (by decide) tb_83 dX8_ofYard_1 ?_
  refine lv_iload_n hx hb dX8_ofYard_4 rfl (lv_at hl 2 rfl) ?_
  refine lv_bipush (v := (8)) hx hb dX8_ofYard_5 (by decide) ?_
  refine lv_imul hx hb dX8_ofYard_7 ?_
  refine lv_topi (fun v1 ev1 => ?_)
  have tv1 := a_mulR (c := 8) ev1 (by decide) (by omega) (by omega)
  refine lv_iload_n hx hb dX8_ofYard_8 rfl (lv_at hl 1 rfl) ?_
  refine lv_iadd hx hb dX8_ofYard_9 ?_
  refine lv_topi (fun v2 ev2 => ?_)
  have tv2 := a_add ev2 (by omega) (by omega)
  refine m_iald (118) hx hb hE hM (hG.1 118 (by decide)) rfl (vp_in_iff.mpr (by omega)) dX8_ofYard_10 ?_
  exact m_iret hx hb hr hlocks hM hS (Nat.le_of_ble_eq_true rfl) (Nat.le_of_ble_eq_true rfl) ⟨rfl, trivial⟩ dX8_ofYard_11
set_option maxHeartbeats 4000000 in
set_option maxRecDepth 20000 in
theorem V_X8_setYard_110 (l : Launch) (D : va_G) (A : Nat → Prop) (ad : Nat → Nat) (ns : List Nat) (I : MI) (L : ML) (G : MG) (a0 : Int32) (a1 : Int32) (a2 : Int32) (hG : SGC ns G) (hI : INV I) (ha0 : 0 ≤ a0.toInt ∧ a0.toInt ≤ 7) (ha1 : 0 ≤ a1.toInt ∧ a1.toInt ≤ 6) : Met l yX8_setYard (wd yX8_setYard cX8_setYard 4 none) ({ frames := 0, cells := 0, slots := 0, locals := 0 }) (va_Pc [.ref (ad (110)), .int a0, .int a1, .int a2] (PM D A ad ns I L G)) (va_Qv (fun u => ∃ I2 L2, u = (ad, ns, I2, L2, G) ∧ INV I2 ∧ Kp [(118, 119)] [] I I2) (BM D A) A) 0 0 A := by
  refine m_ofW (by decide) (Nat.le_of_ble_eq_true rfl) ?_
  intro p e s m below meth c ls args hC hE hM hA hS hl
  obtain ⟨hx, hb, hml, hown, hts, hr, hlocks, hin⟩ := hC
  have k0 : (0 : Int32).toInt = 0 := by decide
  have k8 : (8 : Int32).toInt = 8 := by decide
  have hK : Kp [(118, 119)] [] I I := Kp.rf
  have hl : lv_has ls 4 [(0, .ref (ad (110))), (1, .int (a0)), (2, .int (a1)), (3, .int (a2))] := hl
  refine lv_aload_n hx hb dX8_setYard_0 rfl (lv_at hl 0 rfl) ?_
  refine m_getr (110) 17 (118) hx hb hts hown hE oc8 hM (hG.1 110 (by decide)) rfl (by decide) rfl (hG.2 (110, 17, 118) (by decide)) (by decide) tb_83 dX8_setYard_1 ?_
  refine lv_iload_n hx hb dX8_setYard_4 rfl (lv_at hl 2 rfl) ?_
  refine lv_bipush (v := (8)) hx hb dX8_setYard_5 (by decide) ?_
  refine lv_imul hx hb dX8_setYard_7 ?_
  refine lv_topi (fun v1 ev1 => ?_)
  have tv1 := a_mulR (c := 8) ev1 (by decide) (by omega) (by omega)
  refine lv_iload_n hx hb dX8_setYard_8 rfl (lv_at hl 1 rfl) ?_
  refine lv_iadd hx hb dX8_setYard_9 ?_
  refine lv_topi (fun v2 ev2 => ?_)
  have tv2 := a_add ev2 (by omega) (by omega)
  refine lv_iload_n hx hb dX8_setYard_10 rfl (lv_at hl 3 rfl) ?_
  refine m_iast (118) hx hb hE hM hS (hG.1 118 (by decide)) rfl (vp_in_iff.mpr (by omega)) dX8_setYard_11 (fun H locs I3 eI3 hM hS => ?_)
  subst eI3
  have hI := hI.putF (n := 118) (k := ((v2).toNatClampNeg)) (v := a2) rfl
  have hK := hK.put (n := 118) (k := ((v2).toNatClampNeg)) (v := a2) (by first | rfl | simp [inR])
  exact m_vret hx hb hr hlocks hM hS (Nat.le_of_ble_eq_true rfl) (Nat.le_of_ble_eq_true rfl) ⟨_, _, rfl, hI, hK⟩ dX8_setYard_12
set_option maxHeartbeats 4000000 in
set_option maxRecDepth 20000 in
theorem V_X8_isWhole_110 (l : Launch) (D : va_G) (A : Nat → Prop) (ad : Nat → Nat) (ns : List Nat) (I : MI) (L : ML) (G : MG) (a0 : Int32) (hG : SGC ns G) (hI : INV I) (ha0 : 0 ≤ a0.toInt ∧ a0.toInt ≤ 23) : Met l yX8_isWhole (wd yX8_isWhole cX8_isWhole 2 (some .boolean)) ({ frames := 0, cells := 0, slots := 0, locals := 0 }) (va_Pc [.ref (ad (110)), .int a0] (PM D A ad ns I L G)) (va_Qi (fun r u => u = (ad, ns, I, L, G) ∧ (0 ≤ r.toInt ∧ r.toInt ≤ 1)) (BM D A) A) 0 0 A := by
  refine m_ofW (by decide) (Nat.le_of_ble_eq_true rfl) ?_
  intro p e s m below meth c ls args hC hE hM hA hS hl
  obtain ⟨hx, hb, hml, hown, hts, hr, hlocks, hin⟩ := hC
  have k0 : (0 : Int32).toInt = 0 := by decide
  have k1 : (1 : Int32).toInt = 1 := by decide
  have k192 : (192 : Int32).toInt = 192 := by decide
  have hl : lv_has ls 2 [(0, .ref (ad (110))), (1, .int (a0))] := hl
  refine lv_aload_n hx hb dX8_isWhole_0 rfl (lv_at hl 0 rfl) ?_
  refine m_getr (110) 16 (117) hx hb hts hown hE oc8 hM (hG.1 110 (by decide)) rfl (by decide) rfl (hG.2 (110, 16, 117) (by decide)) (by decide) tb_82 dX8_isWhole_1 ?_
  refine lv_sipush (v := (192)) hx hb dX8_isWhole_4 (by decide) ?_
  refine lv_iload_n hx hb dX8_isWhole_7 rfl (lv_at hl 1 rfl) ?_
  refine lv_iadd hx hb dX8_isWhole_8 ?_
  refine lv_topi (fun v1 ev1 => ?_)
  have tv1 := a_add ev1 (by omega) (by omega)
  refine m_iald (117) hx hb hE hM (hG.1 117 (by decide)) rfl (vp_in_iff.mpr (by omega)) dX8_isWhole_9 ?_
  refine lv_if_ne (tgt := 17) hx hb dX8_isWhole_10 (by decide) (fun c2 => ?_) (fun c2 => ?_)
  · have hc2 := c2
    have q2 := q_ne hc2
    refine lv_iconst (v := (0)) hx hb dX8_isWhole_17 (by decide) ?_
    exact m_zret hx hb hr rfl hlocks hM hS (Nat.le_of_ble_eq_true rfl) (Nat.le_of_ble_eq_true rfl) ⟨rfl, (by first | omega | decide)⟩ dX8_isWhole_18
  · have hc2 := c2
    have q2 := q_eq hc2
    refine lv_iconst (v := (1)) hx hb dX8_isWhole_13 (by decide) ?_
    refine lv_goto (tgt := 18) hx hb dX8_isWhole_14 (by decide) ?_
    exact m_zret hx hb hr rfl hlocks hM hS (Nat.le_of_ble_eq_true rfl) (Nat.le_of_ble_eq_true rfl) ⟨rfl, (by first | omega | decide)⟩ dX8_isWhole_18
set_option maxHeartbeats 4000000 in
set_option maxRecDepth 20000 in
theorem V_X8_lossOf_110 (l : Launch) (D : va_G) (A : Nat → Prop) (ad : Nat → Nat) (ns : List Nat) (I : MI) (L : ML) (G : MG) (a0 : Int32) (hG : SGC ns G) (hI : INV I) (ha0 : 0 ≤ a0.toInt ∧ a0.toInt ≤ 23) : Met l yX8_lossOf (wd yX8_lossOf cX8_lossOf 3 (some .int)) ({ frames := 0, cells := 0, slots := 0, locals := 0 }) (va_Pc [.ref (ad (110)), .int a0] (PM D A ad ns I L G)) (va_Qi (fun r u => u = (ad, ns, I, L, G) ∧ (True)) (BM D A) A) 0 0 A := by
  refine m_ofW (by decide) (Nat.le_of_ble_eq_true rfl) ?_
  intro p e s m below meth c ls args hC hE hM hA hS hl
  obtain ⟨hx, hb, hml, hown, hts, hr, hlocks, hin⟩ := hC
  have k0 : (0 : Int32).toInt = 0 := by decide
  have k72 : (72 : Int32).toInt = 72 := by decide
  have k168 : (168 : Int32).toInt = 168 := by decide
  have k1000 : (1000 : Int32).toInt = 1000 := by decide
  have hl : lv_has ls 3 [(0, .ref (ad (110))), (1, .int (a0))] := hl
  refine lv_aload_n hx hb dX8_lossOf_0 rfl (lv_at hl 0 rfl) ?_
  refine m_getr (110) 16 (117) hx hb hts hown hE oc8 hM (hG.1 110 (by decide)) rfl (by decide) rfl (hG.2 (110, 16, 117) (by decide)) (by decide) tb_82 dX8_lossOf_1 ?_
  refine lv_bipush (v := (72)) hx hb dX8_lossOf_4 (by decide) ?_
  refine lv_iload_n hx hb dX8_lossOf_6 rfl (lv_at hl 1 rfl) ?_
  refine lv_iadd hx hb dX8_lossOf_7 ?_
  refine lv_topi (fun v1 ev1 => ?_)
  have tv1 := a_add ev1 (by omega) (by omega)
  refine m_iald (117) hx hb hE hM (hG.1 117 (by decide)) rfl (vp_in_iff.mpr (by omega)) dX8_lossOf_8 ?_
  refine lv_aload_n hx hb dX8_lossOf_9 rfl (lv_at hl 0 rfl) ?_
  refine m_getr (110) 16 (117) hx hb hts hown hE oc8 hM (hG.1 110 (by decide)) rfl (by decide) rfl (hG.2 (110, 16, 117) (by decide)) (by decide) tb_82 dX8_lossOf_10 ?_
  refine lv_sipush (v := (168)) hx hb dX8_lossOf_13 (by decide) ?_
  refine lv_iload_n hx hb dX8_lossOf_16 rfl (lv_at hl 1 rfl) ?_
  refine lv_iadd hx hb dX8_lossOf_17 ?_
  refine lv_topi (fun v2 ev2 => ?_)
  have tv2 := a_add ev2 (by omega) (by omega)
  refine m_iald (117) hx hb hE hM (hG.1 117 (by decide)) rfl (vp_in_iff.mpr (by omega)) dX8_lossOf_18 ?_
  refine lv_iadd hx hb dX8_lossOf_19 ?_
  refine lv_topi (fun v3 ev3 => ?_)
  refine lv_istore_n (lv' := [(2, .int (v3)), (0, .ref (ad (110))), (1, .int (a0))]) hx hb dX8_lossOf_20 rfl hl (by decide) rfl (fun ls hl => ?_)
  refine lv_iload_n hx hb dX8_lossOf_21 rfl (lv_at hl 0 rfl) ?_
  refine lv_sipush (v := (1000)) hx hb dX8_lossOf_22 (by decide) ?_
  refine lv_icmp_ge (tgt := 32) hx hb dX8_lossOf_25 (by decide) (fun c4 => ?_) (fun c4 => ?_)
  · have hc4 := c4
    have q4 := q_le hc4
    refine lv_sipush (v := (1000)) hx hb dX8_lossOf_32 (by decide) ?_
    exact m_iret hx hb hr hlocks hM hS (Nat.le_of_ble_eq_true rfl) (Nat.le_of_ble_eq_true rfl) ⟨rfl, trivial⟩ dX8_lossOf_35
  · have hc4 := c4
    have q4 := q_nle hc4
    refine lv_iload_n hx hb dX8_lossOf_28 rfl (lv_at hl 0 rfl) ?_
    refine lv_goto (tgt := 35) hx hb dX8_lossOf_29 (by decide) ?_
    exact m_iret hx hb hr hlocks hM hS (Nat.le_of_ble_eq_true rfl) (Nat.le_of_ble_eq_true rfl) ⟨rfl, trivial⟩ dX8_lossOf_35
set_option maxHeartbeats 4000000 in
set_option maxRecDepth 20000 in
theorem V_X8_wayFrom_110 (l : Launch) (D : va_G) (A : Nat → Prop) (ad : Nat → Nat) (ns : List Nat) (I : MI) (L : ML) (G : MG) (a0 : Int32) (a1 : Int32) (hG : SGC ns G) (hI : INV I) (ha0 : 0 ≤ a0.toInt ∧ a0.toInt ≤ 23) : Met l yX8_wayFrom (wd yX8_wayFrom cX8_wayFrom 3 (some .int)) ({ frames := 0, cells := 0, slots := 0, locals := 0 }) (va_Pc [.ref (ad (110)), .int a0, .int a1] (PM D A ad ns I L G)) (va_Qi (fun r u => u = (ad, ns, I, L, G) ∧ (0 ≤ r.toInt ∧ r.toInt ≤ 7)) (BM D A) A) 0 0 A := by
  refine m_ofW (by decide) (Nat.le_of_ble_eq_true rfl) ?_
  intro p e s m below meth c ls args hC hE hM hA hS hl
  obtain ⟨hx, hb, hml, hown, hts, hr, hlocks, hin⟩ := hC
  have k0 : (0 : Int32).toInt = 0 := by decide
  have k7 : (7 : Int32).toInt = 7 := by decide
  have k48 : (48 : Int32).toInt = 48 := by decide
  have hl : lv_has ls 3 [(0, .ref (ad (110))), (1, .int (a0)), (2, .int (a1))] := hl
  refine lv_aload_n hx hb dX8_wayFrom_0 rfl (lv_at hl 0 rfl) ?_
  refine m_getr (110) 16 (117) hx hb hts hown hE oc8 hM (hG.1 110 (by decide)) rfl (by decide) rfl (hG.2 (110, 16, 117) (by decide)) (by decide) tb_82 dX8_wayFrom_1 ?_
  refine lv_bipush (v := (48)) hx hb dX8_wayFrom_4 (by decide) ?_
  refine lv_iload_n hx hb dX8_wayFrom_6 rfl (lv_at hl 1 rfl) ?_
  refine lv_iadd hx hb dX8_wayFrom_7 ?_
  refine lv_topi (fun v1 ev1 => ?_)
  have tv1 := a_add ev1 (by omega) (by omega)
  refine m_iald (117) hx hb hE hM (hG.1 117 (by decide)) rfl (vp_in_iff.mpr (by omega)) dX8_wayFrom_8 ?_
  refine lv_iload_n hx hb dX8_wayFrom_9 rfl (lv_at hl 2 rfl) ?_
  refine lv_isub hx hb dX8_wayFrom_10 ?_
  refine lv_topi (fun v2 ev2 => ?_)
  refine lv_bipush (v := (7)) hx hb dX8_wayFrom_11 (by decide) ?_
  refine lv_iand hx hb dX8_wayFrom_13 ?_
  refine lv_topi (fun v3 ev3 => ?_)
  have tv3 := a_and (c := 7) ev3 (by decide) (by decide)
  exact m_iret hx hb hr hlocks hM hS (Nat.le_of_ble_eq_true rfl) (Nat.le_of_ble_eq_true rfl) ⟨rfl, (by first | omega | decide)⟩ dX8_wayFrom_14
set_option maxHeartbeats 4000000 in
set_option maxRecDepth 20000 in
theorem V_X8_turnTowards_110 (l : Launch) (D : va_G) (A : Nat → Prop) (ad : Nat → Nat) (ns : List Nat) (I : MI) (L : ML) (G : MG) (a0 : Int32) (a1 : Int32) (hG : SGC ns G) (hI : INV I) (ha0 : 0 ≤ a0.toInt ∧ a0.toInt ≤ 23) : Met l yX8_turnTowards (wd yX8_turnTowards cX8_turnTowards 7 none) ({ frames := 1, cells := 0, slots := 0, locals := 23 }) (va_Pc [.ref (ad (110)), .int a0, .int a1] (PM D A ad ns I L G)) (va_Qv (fun u => ∃ I2 L2, u = (ad, ns, I2, L2, G) ∧ INV I2 ∧ Kp [(117, 118)] [] I I2) (BM D A) A) 0 0 A := by
  refine m_ofW (by decide) (Nat.le_of_ble_eq_true rfl) ?_
  intro p e s m below meth c ls args hC hE hM hA hS hl
  obtain ⟨hx, hb, hml, hown, hts, hr, hlocks, hin⟩ := hC
  have k0 : (0 : Int32).toInt = 0 := by decide
  have k2 : (2 : Int32).toInt = 2 := by decide
  have k4 : (4 : Int32).toInt = 4 := by decide
  have k5 : (5 : Int32).toInt = 5 := by decide
  have k7 : (7 : Int32).toInt = 7 := by decide
  have k8 : (8 : Int32).toInt = 8 := by decide
  have hK : Kp [(117, 118)] [] I I := Kp.rf
  have hl : lv_has ls 7 [(0, .ref (ad (110))), (1, .int (a0)), (2, .int (a1))] := hl
  refine lv_aload_n hx hb dX8_turnTowards_0 rfl (lv_at hl 0 rfl) ?_
  refine lv_iload_n hx hb dX8_turnTowards_1 rfl (lv_at hl 1 rfl) ?_
  refine lv_iconst (v := (2)) hx hb dX8_turnTowards_2 (by decide) ?_
  refine m_calli (m_runV (110) (As := [.int (a0), .int (2)]) (rest := []) hx hb hml hown hts hE hM hS hA ce_X8_ofMirror tb_792 (V_X8_ofMirror_110 l D A ad ns I L G (a0) (2) hG hI (by first | omega | decide) (by first | omega | decide)) rfl rfl ⟨Nat.le_of_ble_eq_true rfl, Nat.le_of_ble_eq_true rfl⟩ (hG.1 110 (by decide)) rfl rfl (by decide) rfl hl.1 rfl (Nat.le_of_ble_eq_true rfl) dX8_turnTowards_3 ⟨Nat.le_of_ble_eq_true rfl, Nat.le_of_ble_eq_true rfl⟩) hS (fun r1 u H locs hw hM hS => ?_)
  obtain ⟨rfl, xr1⟩ := hw
  have hM : Mem D A ad ns I L G H := hM
  refine lv_istore_n (lv' := [(3, .int (r1)), (0, .ref (ad (110))), (1, .int (a0)), (2, .int (a1))]) hx hb dX8_turnTowards_6 rfl hl (by decide) rfl (fun ls hl => ?_)
  refine lv_aload_n hx hb dX8_turnTowards_7 rfl (lv_at hl 1 rfl) ?_
  refine lv_iload_n hx hb dX8_turnTowards_8 rfl (lv_at hl 2 rfl) ?_
  refine lv_iconst (v := (5)) hx hb dX8_turnTowards_9 (by decide) ?_
  refine m_calli (m_runV (110) (As := [.int (a0), .int (5)]) (rest := []) hx hb hml hown hts hE hM hS hA ce_X8_ofMirror tb_792 (V_X8_ofMirror_110 l D A ad ns I L G (a0) (5) hG hI (by first | omega | decide) (by first | omega | decide)) rfl rfl ⟨Nat.le_of_ble_eq_true rfl, Nat.le_of_ble_eq_true rfl⟩ (hG.1 110 (by decide)) rfl rfl (by decide) rfl hl.1 rfl (Nat.le_of_ble_eq_true rfl) dX8_turnTowards_10 ⟨Nat.le_of_ble_eq_true rfl, Nat.le_of_ble_eq_true rfl⟩) hS (fun r2 u H locs hw hM hS => ?_)
  obtain ⟨rfl, xr2⟩ := hw
  have hM : Mem D A ad ns I L G H := hM
  refine lv_istore (lv' := [(4, .int (r2)), (3, .int (r1)), (0, .ref (ad (110))), (1, .int (a0)), (2, .int (a1))]) hx hb dX8_turnTowards_13 hl (by decide) rfl (fun ls hl => ?_)
  refine lv_iload_n hx hb dX8_turnTowards_15 rfl (lv_at hl 4 rfl) ?_
  refine lv_iload_n hx hb dX8_turnTowards_16 rfl (lv_at hl 1 rfl) ?_
  refine lv_isub hx hb dX8_turnTowards_17 ?_
  refine lv_topi (fun v3 ev3 => ?_)
  refine lv_bipush (v := (7)) hx hb dX8_turnTowards_18 (by decide) ?_
  refine lv_iand hx hb dX8_turnTowards_20 ?_
  refine lv_topi (fun v4 ev4 => ?_)
  have tv4 := a_and (c := 7) ev4 (by decide) (by decide)
  refine lv_istore (lv' := [(5, .int (v4)), (4, .int (r2)), (3, .int (r1)), (0, .ref (ad (110))), (1, .int (a0)), (2, .int (a1))]) hx hb dX8_turnTowards_21 hl (by decide) rfl (fun ls hl => ?_)
  refine lv_iload hx hb dX8_turnTowards_23 (lv_at hl 0 rfl) ?_
  refine lv_iconst (v := (4)) hx hb dX8_turnTowards_25 (by decide) ?_
  refine lv_icmp_gt (tgt := 39) hx hb dX8_turnTowards_26 (by decide) (fun c5 => ?_) (fun c5 => ?_)
  · have hc5 := c5
    have q5 := q_lt hc5
    refine lv_bipush (v := (8)) hx hb dX8_turnTowards_39 (by decide) ?_
    refine lv_iload hx hb dX8_turnTowards_41 (lv_at hl 0 rfl) ?_
    refine lv_isub hx hb dX8_turnTowards_43 ?_
    refine lv_topi (fun v6 ev6 => ?_)
    have tv6 := a_sub ev6 (by omega) (by omega)
    refine lv_iload hx hb dX8_turnTowards_44 (lv_at hl 1 rfl) ?_
    refine va_mmin hx hb (hml.trans hl.1.symm) hown (hts _ tb_793) (hts _ tb_794) (hts _ tb_18) (hts _ tb_795) (Nat.le_of_ble_eq_true rfl) (Nat.le_of_ble_eq_true rfl) (Nat.le_of_ble_eq_true rfl) (Nat.le_of_ble_eq_true rfl) dX8_turnTowards_46 ?_
    refine lv_topi (fun v7 ev7 => ?_)
    have tv7 := a_min ev7
    refine lv_ineg hx hb dX8_turnTowards_49 ?_
    refine lv_topi (fun v8 ev8 => ?_)
    refine lv_istore (lv' := [(6, .int (v8)), (5, .int (v4)), (4, .int (r2)), (3, .int (r1)), (0, .ref (ad (110))), (1, .int (a0)), (2, .int (a1))]) hx hb dX8_turnTowards_50 hl (by decide) rfl (fun ls hl => ?_)
    refine lv_aload_n hx hb dX8_turnTowards_52 rfl (lv_at hl 4 rfl) ?_
    refine lv_iload_n hx hb dX8_turnTowards_53 rfl (lv_at hl 5 rfl) ?_
    refine lv_iconst (v := (2)) hx hb dX8_turnTowards_54 (by decide) ?_
    refine lv_iload_n hx hb dX8_turnTowards_55 rfl (lv_at hl 3 rfl) ?_
    refine lv_iload hx hb dX8_turnTowards_56 (lv_at hl 0 rfl) ?_
    refine lv_iadd hx hb dX8_turnTowards_58 ?_
    refine lv_topi (fun v9 ev9 => ?_)
    refine lv_bipush (v := (7)) hx hb dX8_turnTowards_59 (by decide) ?_
    refine lv_iand hx hb dX8_turnTowards_61 ?_
    refine lv_topi (fun v10 ev10 => ?_)
    have tv10 := a_and (c := 7) ev10 (by decide) (by decide)
    refine m_callv (m_runV (110) (As := [.int (a0), .int (2), .int (v10)]) (rest := []) hx hb hml hown hts hE hM hS hA ce_X8_setMirror tb_499 (V_X8_setMirror_110 l D A ad ns I L G (a0) (2) (v10) hG hI (by first | omega | decide) (by first | omega | decide)) rfl rfl ⟨Nat.le_of_ble_eq_true rfl, Nat.le_of_ble_eq_true rfl⟩ (hG.1 110 (by decide)) rfl rfl (by decide) rfl hl.1 rfl (Nat.le_of_ble_eq_true rfl) dX8_turnTowards_62 ⟨Nat.le_of_ble_eq_true rfl, Nat.le_of_ble_eq_true rfl⟩) hS (fun u H locs hw hM hS => ?_)
    obtain ⟨I11, L12, rfl, hI, hkI11⟩ := hw
    have hM : Mem D A ad ns I11 L12 G H := hM
    have hK := hK.trans hkI11 rfl
    exact m_vret hx hb hr hlocks hM hS (Nat.le_of_ble_eq_true rfl) (Nat.le_of_ble_eq_true rfl) ⟨_, _, rfl, hI, hK⟩ dX8_turnTowards_65
  · have hc5 := c5
    have q5 := q_nlt hc5
    refine lv_iload hx hb dX8_turnTowards_29 (lv_at hl 0 rfl) ?_
    refine lv_iload hx hb dX8_turnTowards_31 (lv_at hl 1 rfl) ?_
    refine va_mmin hx hb (hml.trans hl.1.symm) hown (hts _ tb_793) (hts _ tb_794) (hts _ tb_18) (hts _ tb_795) (Nat.le_of_ble_eq_true rfl) (Nat.le_of_ble_eq_true rfl) (Nat.le_of_ble_eq_true rfl) (Nat.le_of_ble_eq_true rfl) dX8_turnTowards_33 ?_
    refine lv_topi (fun v13 ev13 => ?_)
    have tv13 := a_min ev13
    refine lv_goto (tgt := 50) hx hb dX8_turnTowards_36 (by decide) ?_
    refine lv_istore (lv' := [(6, .int (v13)), (5, .int (v4)), (4, .int (r2)), (3, .int (r1)), (0, .ref (ad (110))), (1, .int (a0)), (2, .int (a1))]) hx hb dX8_turnTowards_50 hl (by decide) rfl (fun ls hl => ?_)
    refine lv_aload_n hx hb dX8_turnTowards_52 rfl (lv_at hl 4 rfl) ?_
    refine lv_iload_n hx hb dX8_turnTowards_53 rfl (lv_at hl 5 rfl) ?_
    refine lv_iconst (v := (2)) hx hb dX8_turnTowards_54 (by decide) ?_
    refine lv_iload_n hx hb dX8_turnTowards_55 rfl (lv_at hl 3 rfl) ?_
    refine lv_iload hx hb dX8_turnTowards_56 (lv_at hl 0 rfl) ?_
    refine lv_iadd hx hb dX8_turnTowards_58 ?_
    refine lv_topi (fun v14 ev14 => ?_)
    refine lv_bipush (v := (7)) hx hb dX8_turnTowards_59 (by decide) ?_
    refine lv_iand hx hb dX8_turnTowards_61 ?_
    refine lv_topi (fun v15 ev15 => ?_)
    have tv15 := a_and (c := 7) ev15 (by decide) (by decide)
    refine m_callv (m_runV (110) (As := [.int (a0), .int (2), .int (v15)]) (rest := []) hx hb hml hown hts hE hM hS hA ce_X8_setMirror tb_499 (V_X8_setMirror_110 l D A ad ns I L G (a0) (2) (v15) hG hI (by first | omega | decide) (by first | omega | decide)) rfl rfl ⟨Nat.le_of_ble_eq_true rfl, Nat.le_of_ble_eq_true rfl⟩ (hG.1 110 (by decide)) rfl rfl (by decide) rfl hl.1 rfl (Nat.le_of_ble_eq_true rfl) dX8_turnTowards_62 ⟨Nat.le_of_ble_eq_true rfl, Nat.le_of_ble_eq_true rfl⟩) hS (fun u H locs hw hM hS => ?_)
    obtain ⟨I16, L17, rfl, hI, hkI16⟩ := hw
    have hM : Mem D A ad ns I16 L17 G H := hM
    have hK := hK.trans hkI16 rfl
    exact m_vret hx hb hr hlocks hM hS (Nat.le_of_ble_eq_true rfl) (Nat.le_of_ble_eq_true rfl) ⟨_, _, rfl, hI, hK⟩ dX8_turnTowards_65
set_option maxHeartbeats 4000000 in
set_option maxRecDepth 20000 in
theorem V_X8_endDay_110 (l : Launch) (D : va_G) (A : Nat → Prop) (ad : Nat → Nat) (ns : List Nat) (I : MI) (L : ML) (G : MG) (hG : SGC ns G) (hI : INV I) : Met l yX8_endDay (wd yX8_endDay cX8_endDay 3 none) ({ frames := 1, cells := 0, slots := 0, locals := 23 }) (va_Pc [.ref (ad (110)), .ref (ad (21))] (PM D A ad ns I L G)) (va_Qv (fun u => ∃ I2 L2, u = (ad, ns, I2, L2, G) ∧ INV I2 ∧ Kp [(117, 119)] [(110, 6)] I I2) (BM D A) A) 0 0 A := by
  refine m_ofW (by decide) (Nat.le_of_ble_eq_true rfl) ?_
  intro p e s m below meth c ls args hC hE hM hA hS hl
  obtain ⟨hx, hb, hml, hown, hts, hr, hlocks, hin⟩ := hC
  have k0 : (0 : Int32).toInt = 0 := by decide
  have k1 : (1 : Int32).toInt = 1 := by decide
  have k7 : (7 : Int32).toInt = 7 := by decide
  have k1000 : (1000 : Int32).toInt = 1000 := by decide
  have hK : Kp [(117, 119)] [(110, 6)] I I := Kp.rf
  have hl : lv_has ls 3 [(0, .ref (ad (110))), (1, .ref (ad (21)))] := hl
  refine lv_iconst (v := (0)) hx hb dX8_endDay_0 (by decide) ?_
  refine lv_istore_n (lv' := [(2, .int (0)), (0, .ref (ad (110))), (1, .ref (ad (21)))]) hx hb dX8_endDay_1 rfl hl (by decide) rfl (fun ls hl => ?_)
  have loop2 : ∀ (n : Nat) (x2_2 : Int32) (Ia2 : MI) (La2 : ML) (H : Heap) (locs : List Loc) (ls : Array Slot), INV Ia2 → Kp [(117, 119)] [(110, 6)] I Ia2 → (0 ≤ x2_2.toInt ∧ x2_2.toInt ≤ 24) → (24 - x2_2.toInt).toNat < n → Mem D A ad ns Ia2 La2 G H → va_S A s.heap H locs → lv_has ls 3 [(2, .int (x2_2)), (0, .ref (ad (110))), (1, .ref (ad (21)))] → W p l e ({ frames := 1, cells := 0, slots := 0, locals := 23 } : Room) s m args below meth c H locs 0 0 (MQ below (va_Qv (fun u => ∃ I2 L2, u = (ad, ns, I2, L2, G) ∧ INV I2 ∧ Kp [(117, 119)] [(110, 6)] I I2) (BM D A) A) args s 0 0 A) (F0 m 2 ls []) := by
    intro n
    induction n with
    | zero =>
      intro x2_2 Ia2 La2 H locs ls hI hK hr2_2 hmu
      exact absurd hmu (Nat.not_lt_zero _)
    | succ n ih2 =>
      intro x2_2 Ia2 La2 H locs ls hI hK hr2_2 hmu2 hM hS hl
      refine lv_iload_n hx hb dX8_endDay_2 rfl (lv_at hl 0 rfl) ?_
      refine lv_aload_n hx hb dX8_endDay_3 rfl (lv_at hl 1 rfl) ?_
      refine m_geti (110) 8 hx hb hts hown hE oc8 hM (hG.1 110 (by decide)) rfl (by decide) rfl tb_59 dX8_endDay_4 ?_
      have g1 := hI.get (110) 8 (lo := 0) (hi := 24) rfl
      refine lv_icmp_ge (tgt := 41) hx hb dX8_endDay_7 (by decide) (fun c2 => ?_) (fun c2 => ?_)
      · have hc2 := c2
        have q2 := q_le hc2
        refine lv_iconst (v := (0)) hx hb dX8_endDay_41 (by decide) ?_
        refine lv_istore_n (lv' := [(2, .int (0)), (0, .ref (ad (110))), (1, .ref (ad (21)))]) hx hb dX8_endDay_42 rfl hl (by decide) rfl (fun ls hl => ?_)
        have loop43 : ∀ (n : Nat) (x2_43 : Int32) (Ia43 : MI) (La43 : ML) (H : Heap) (locs : List Loc) (ls : Array Slot), INV Ia43 → Kp [(117, 119)] [(110, 6)] I Ia43 → (0 ≤ x2_43.toInt ∧ x2_43.toInt ≤ 8) → (8 - x2_43.toInt).toNat < n → Mem D A ad ns Ia43 La43 G H → va_S A s.heap H locs → lv_has ls 3 [(2, .int (x2_43)), (0, .ref (ad (110))), (1, .ref (ad (21)))] → W p l e ({ frames := 1, cells := 0, slots := 0, locals := 23 } : Room) s m args below meth c H locs 0 0 (MQ below (va_Qv (fun u => ∃ I2 L2, u = (ad, ns, I2, L2, G) ∧ INV I2 ∧ Kp [(117, 119)] [(110, 6)] I I2) (BM D A) A) args s 0 0 A) (F0 m 43 ls []) := by
          intro n
          induction n with
          | zero =>
            intro x2_43 Ia43 La43 H locs ls hI hK hr2_43 hmu
            exact absurd hmu (Nat.not_lt_zero _)
          | succ n ih43 =>
            intro x2_43 Ia43 La43 H locs ls hI hK hr2_43 hmu43 hM hS hl
            refine lv_iload_n hx hb dX8_endDay_43 rfl (lv_at hl 0 rfl) ?_
            refine lv_aload_n hx hb dX8_endDay_44 rfl (lv_at hl 1 rfl) ?_
            refine m_geti (110) 9 hx hb hts hown hE oc8 hM (hG.1 110 (by decide)) rfl (by decide) rfl tb_63 dX8_endDay_45 ?_
            have g3 := hI.get (110) 9 (lo := 0) (hi := 8) rfl
            refine lv_icmp_ge (tgt := 66) hx hb dX8_endDay_48 (by decide) (fun c4 => ?_) (fun c4 => ?_)
            · have hc4 := c4
              have q4 := q_le hc4
              refine lv_aload_n hx hb dX8_endDay_66 rfl (lv_at hl 1 rfl) ?_
              refine lv_dup hx hb dX8_endDay_67 rfl ?_
              refine m_geti (110) 6 hx hb hts hown hE oc8 hM (hG.1 110 (by decide)) rfl (by decide) rfl tb_54 dX8_endDay_68 ?_
              refine lv_iconst (v := (1)) hx hb dX8_endDay_71 (by decide) ?_
              refine lv_iadd hx hb dX8_endDay_72 ?_
              refine lv_topi (fun v5 ev5 => ?_)
              refine m_puti (110) 6 hx hb hts hown hE oc8 hM hS (hG.1 110 (by decide)) rfl (by decide) rfl rfl rfl rfl tb_54 dX8_endDay_73 (fun H locs I6 eI6 hM hS => ?_)
              subst eI6
              have hI := hI.putF (n := 110) (k := 6) (v := v5) rfl
              have hK := hK.put (n := 110) (k := 6) (v := v5) (by first | rfl | simp [inR])
              exact m_vret hx hb hr hlocks hM hS (Nat.le_of_ble_eq_true rfl) (Nat.le_of_ble_eq_true rfl) ⟨_, _, rfl, hI, hK⟩ dX8_endDay_76
            · have hc4 := c4
              have q4 := q_nle hc4
              refine lv_aload_n hx hb dX8_endDay_51 rfl (lv_at hl 1 rfl) ?_
              refine lv_iload_n hx hb dX8_endDay_52 rfl (lv_at hl 0 rfl) ?_
              refine lv_iconst (v := (0)) hx hb dX8_endDay_53 (by decide) ?_
              refine lv_aload_n hx hb dX8_endDay_54 rfl (lv_at hl 2 rfl) ?_
              refine lv_iload_n hx hb dX8_endDay_55 rfl (lv_at hl 0 rfl) ?_
              refine m_iald (21) hx hb hE hM (hG.1 21 (by decide)) rfl (vp_in_iff.mpr (by omega)) dX8_endDay_56 ?_
              refine m_callv (m_runV (110) (As := [.int (x2_43), .int (0), .int (Ia43 (21) (x2_43).toNatClampNeg)]) (rest := []) hx hb hml hown hts hE hM hS hA ce_X8_setYard tb_529 (V_X8_setYard_110 l D A ad ns Ia43 La43 G (x2_43) (0) (Ia43 (21) (x2_43).toNatClampNeg) hG hI (by first | omega | decide) (by first | omega | decide)) rfl rfl ⟨Nat.le_of_ble_eq_true rfl, Nat.le_of_ble_eq_true rfl⟩ (hG.1 110 (by decide)) rfl rfl (by decide) rfl hl.1 rfl (Nat.le_of_ble_eq_true rfl) dX8_endDay_57 ⟨Nat.le_of_ble_eq_true rfl, Nat.le_of_ble_eq_true rfl⟩) hS (fun u H locs hw hM hS => ?_)
              obtain ⟨I7, L8, rfl, hI, hkI7⟩ := hw
              have hM : Mem D A ad ns I7 L8 G H := hM
              have hK := hK.trans hkI7 rfl
              obtain ⟨v9, ev9⟩ : ∃ z : Int32, z = x2_43 + Int32.ofInt (1) := ⟨_, rfl⟩
              have tv9 := a_inc ev9 (by decide) (by omega) (by omega)
              refine lv_iinc (v := v9) (lv' := [(2, .int (v9)), (0, .ref (ad (110))), (1, .ref (ad (21)))]) hx hb dX8_endDay_60 hl (k := 0) rfl ev9.symm (by decide) rfl (fun ls hl => ?_)
              refine lv_goto (tgt := 43) hx hb dX8_endDay_63 (by decide) ?_
              exact ih43 (v9) I7 L8 _ _ ls hI hK (by first | omega | decide) (by omega) hM hS (lv_sub hl [0, 1, 2] rfl)
        exact loop43 (_ + 1) (0) Ia2 La2 _ _ ls hI hK (by first | omega | decide) (Nat.lt_succ_self _) hM hS (lv_sub hl [0, 1, 2] rfl)
      · have hc2 := c2
        have q2 := q_nle hc2
        refine lv_aload_n hx hb dX8_endDay_10 rfl (lv_at hl 1 rfl) ?_
        refine lv_iload_n hx hb dX8_endDay_11 rfl (lv_at hl 0 rfl) ?_
        refine lv_bipush (v := (7)) hx hb dX8_endDay_12 (by decide) ?_
        refine lv_aload_n hx hb dX8_endDay_14 rfl (lv_at hl 1 rfl) ?_
        refine lv_iload_n hx hb dX8_endDay_15 rfl (lv_at hl 0 rfl) ?_
        refine lv_bipush (v := (7)) hx hb dX8_endDay_16 (by decide) ?_
        refine m_calli (m_runV (110) (As := [.int (x2_2), .int (7)]) (rest := [.int (7), .int (x2_2), .ref (ad (110))]) hx hb hml hown hts hE hM hS hA ce_X8_ofMirror tb_792 (V_X8_ofMirror_110 l D A ad ns Ia2 La2 G (x2_2) (7) hG hI (by first | omega | decide) (by first | omega | decide)) rfl rfl ⟨Nat.le_of_ble_eq_true rfl, Nat.le_of_ble_eq_true rfl⟩ (hG.1 110 (by decide)) rfl rfl (by decide) rfl hl.1 rfl (Nat.le_of_ble_eq_true rfl) dX8_endDay_18 ⟨Nat.le_of_ble_eq_true rfl, Nat.le_of_ble_eq_true rfl⟩) hS (fun r10 u H locs hw hM hS => ?_)
        obtain ⟨rfl, xr10⟩ := hw
        have hM : Mem D A ad ns Ia2 La2 G H := hM
        refine lv_aload_n hx hb dX8_endDay_21 rfl (lv_at hl 1 rfl) ?_
        refine m_geti (110) 7 hx hb hts hown hE oc8 hM (hG.1 110 (by decide)) rfl (by decide) rfl tb_57 dX8_endDay_22 ?_
        refine lv_iadd hx hb dX8_endDay_25 ?_
        refine lv_topi (fun v11 ev11 => ?_)
        refine lv_sipush (v := (1000)) hx hb dX8_endDay_26 (by decide) ?_
        refine va_mmin hx hb (hml.trans hl.1.symm) hown (hts _ tb_793) (hts _ tb_794) (hts _ tb_18) (hts _ tb_795) (Nat.le_of_ble_eq_true rfl) (Nat.le_of_ble_eq_true rfl) (Nat.le_of_ble_eq_true rfl) (Nat.le_of_ble_eq_true rfl) dX8_endDay_29 ?_
        refine lv_topi (fun v12 ev12 => ?_)
        have tv12 := a_min ev12
        refine m_callv (m_runV (110) (As := [.int (x2_2), .int (7), .int (v12)]) (rest := []) hx hb hml hown hts hE hM hS hA ce_X8_setMirror tb_499 (V_X8_setMirror_110 l D A ad ns Ia2 La2 G (x2_2) (7) (v12) hG hI (by first | omega | decide) (by first | omega | decide)) rfl rfl ⟨Nat.le_of_ble_eq_true rfl, Nat.le_of_ble_eq_true rfl⟩ (hG.1 110 (by decide)) rfl rfl (by decide) rfl hl.1 rfl (Nat.le_of_ble_eq_true rfl) dX8_endDay_32 ⟨Nat.le_of_ble_eq_true rfl, Nat.le_of_ble_eq_true rfl⟩) hS (fun u H locs hw hM hS => ?_)
        obtain ⟨I13, L14, rfl, hI, hkI13⟩ := hw
        have hM : Mem D A ad ns I13 L14 G H := hM
        have hK := hK.trans hkI13 rfl
        obtain ⟨v15, ev15⟩ : ∃ z : Int32, z = x2_2 + Int32.ofInt (1) := ⟨_, rfl⟩
        have tv15 := a_inc ev15 (by decide) (by omega) (by omega)
        refine lv_iinc (v := v15) (lv' := [(2, .int (v15)), (0, .ref (ad (110))), (1, .ref (ad (21)))]) hx hb dX8_endDay_35 hl (k := 0) rfl ev15.symm (by decide) rfl (fun ls hl => ?_)
        refine lv_goto (tgt := 2) hx hb dX8_endDay_38 (by decide) ?_
        exact ih2 (v15) I13 L14 _ _ ls hI hK (by first | omega | decide) (by omega) hM hS (lv_sub hl [0, 1, 2] rfl)
  exact loop2 (_ + 1) (0) I L _ _ ls hI hK (by first | omega | decide) (Nat.lt_succ_self _) hM hS (lv_sub hl [0, 1, 2] rfl)
set_option maxHeartbeats 4000000 in
set_option maxRecDepth 20000 in
theorem V_X8_metCount_110 (l : Launch) (D : va_G) (A : Nat → Prop) (ad : Nat → Nat) (ns : List Nat) (I : MI) (L : ML) (G : MG) (hG : SGC ns G) (hI : INV I) : Met l yX8_metCount (wd yX8_metCount cX8_metCount 3 (some .int)) ({ frames := 1, cells := 0, slots := 0, locals := 22 }) (va_Pc [.ref (ad (110))] (PM D A ad ns I L G)) (va_Qi (fun r u => u = (ad, ns, I, L, G) ∧ (True)) (BM D A) A) 0 0 A := by
  refine m_ofW (by decide) (Nat.le_of_ble_eq_true rfl) ?_
  intro p e s m below meth c ls args hC hE hM hA hS hl
  obtain ⟨hx, hb, hml, hown, hts, hr, hlocks, hin⟩ := hC
  have k0 : (0 : Int32).toInt = 0 := by decide
  have k1 : (1 : Int32).toInt = 1 := by decide
  have hl : lv_has ls 3 [(0, .ref (ad (110)))] := hl
  refine lv_iconst (v := (0)) hx hb dX8_metCount_0 (by decide) ?_
  refine lv_istore_n (lv' := [(1, .int (0)), (0, .ref (ad (110)))]) hx hb dX8_metCount_1 rfl hl (by decide) rfl (fun ls hl => ?_)
  refine lv_iconst (v := (0)) hx hb dX8_metCount_2 (by decide) ?_
  refine lv_istore_n (lv' := [(2, .int (0)), (1, .int (0)), (0, .ref (ad (110)))]) hx hb dX8_metCount_3 rfl hl (by decide) rfl (fun ls hl => ?_)
  have loop4 : ∀ (n : Nat) (x2_4 : Int32) (x1_4 : Int32) (H : Heap) (locs : List Loc) (ls : Array Slot), (0 ≤ x2_4.toInt ∧ x2_4.toInt ≤ 8) → (8 - x2_4.toInt).toNat < n → Mem D A ad ns I L G H → va_S A s.heap H locs → lv_has ls 3 [(2, .int (x2_4)), (1, .int (x1_4)), (0, .ref (ad (110)))] → W p l e ({ frames := 1, cells := 0, slots := 0, locals := 22 } : Room) s m args below meth c H locs 0 0 (MQ below (va_Qi (fun r u => u = (ad, ns, I, L, G) ∧ (True)) (BM D A) A) args s 0 0 A) (F0 m 4 ls []) := by
    intro n
    induction n with
    | zero =>
      intro x2_4 x1_4 H locs ls hr2_4 hmu
      exact absurd hmu (Nat.not_lt_zero _)
    | succ n ih4 =>
      intro x2_4 x1_4 H locs ls hr2_4 hmu4 hM hS hl
      refine lv_iload_n hx hb dX8_metCount_4 rfl (lv_at hl 0 rfl) ?_
      refine lv_aload_n hx hb dX8_metCount_5 rfl (lv_at hl 2 rfl) ?_
      refine m_geti (110) 9 hx hb hts hown hE oc8 hM (hG.1 110 (by decide)) rfl (by decide) rfl tb_63 dX8_metCount_6 ?_
      have g1 := hI.get (110) 9 (lo := 0) (hi := 8) rfl
      refine lv_icmp_ge (tgt := 36) hx hb dX8_metCount_9 (by decide) (fun c2 => ?_) (fun c2 => ?_)
      · have hc2 := c2
        have q2 := q_le hc2
        refine lv_iload_n hx hb dX8_metCount_36 rfl (lv_at hl 1 rfl) ?_
        exact m_iret hx hb hr hlocks hM hS (Nat.le_of_ble_eq_true rfl) (Nat.le_of_ble_eq_true rfl) ⟨rfl, trivial⟩ dX8_metCount_37
      · have hc2 := c2
        have q2 := q_nle hc2
        refine lv_aload_n hx hb dX8_metCount_12 rfl (lv_at hl 2 rfl) ?_
        refine lv_iload_n hx hb dX8_metCount_13 rfl (lv_at hl 0 rfl) ?_
        refine lv_iconst (v := (0)) hx hb dX8_metCount_14 (by decide) ?_
        refine m_calli (m_runV (110) (As := [.int (x2_4), .int (0)]) (rest := []) hx hb hml hown hts hE hM hS hA ce_X8_ofYard tb_884 (V_X8_ofYard_110 l D A ad ns I L G (x2_4) (0) hG hI (by first | omega | decide) (by first | omega | decide)) rfl rfl ⟨Nat.le_of_ble_eq_true rfl, Nat.le_of_ble_eq_true rfl⟩ (hG.1 110 (by decide)) rfl rfl (by decide) rfl hl.1 rfl (Nat.le_of_ble_eq_true rfl) dX8_metCount_15 ⟨Nat.le_of_ble_eq_true rfl, Nat.le_of_ble_eq_true rfl⟩) hS (fun r3 u H locs hw hM hS => ?_)
        obtain ⟨rfl, xr3⟩ := hw
        have hM : Mem D A ad ns I L G H := hM
        refine lv_aload_n hx hb dX8_metCount_18 rfl (lv_at hl 2 rfl) ?_
        refine lv_iload_n hx hb dX8_metCount_19 rfl (lv_at hl 0 rfl) ?_
        refine lv_iconst (v := (1)) hx hb dX8_metCount_20 (by decide) ?_
        refine m_calli (m_runV (110) (As := [.int (x2_4), .int (1)]) (rest := [.int (r3)]) hx hb hml hown hts hE hM hS hA ce_X8_ofYard tb_884 (V_X8_ofYard_110 l D A ad ns I L G (x2_4) (1) hG hI (by first | omega | decide) (by first | omega | decide)) rfl rfl ⟨Nat.le_of_ble_eq_true rfl, Nat.le_of_ble_eq_true rfl⟩ (hG.1 110 (by decide)) rfl rfl (by decide) rfl hl.1 rfl (Nat.le_of_ble_eq_true rfl) dX8_metCount_21 ⟨Nat.le_of_ble_eq_true rfl, Nat.le_of_ble_eq_true rfl⟩) hS (fun r4 u H locs hw hM hS => ?_)
        obtain ⟨rfl, xr4⟩ := hw
        have hM : Mem D A ad ns I L G H := hM
        refine lv_icmp_lt (tgt := 30) hx hb dX8_metCount_24 (by decide) (fun c5 => ?_) (fun c5 => ?_)
        · have hc5 := c5
          have q5 := q_lt hc5
          obtain ⟨v6, ev6⟩ : ∃ z : Int32, z = x2_4 + Int32.ofInt (1) := ⟨_, rfl⟩
          have tv6 := a_inc ev6 (by decide) (by omega) (by omega)
          refine lv_iinc (v := v6) (lv' := [(2, .int (v6)), (1, .int (x1_4)), (0, .ref (ad (110)))]) hx hb dX8_metCount_30 hl (k := 0) rfl ev6.symm (by decide) rfl (fun ls hl => ?_)
          refine lv_goto (tgt := 4) hx hb dX8_metCount_33 (by decide) ?_
          exact ih4 (v6) (x1_4) _ _ ls (by first | omega | decide) (by omega) hM hS (lv_sub hl [0, 1, 2] rfl)
        · have hc5 := c5
          have q5 := q_nlt hc5
          obtain ⟨v7, ev7⟩ : ∃ z : Int32, z = x1_4 + Int32.ofInt (1) := ⟨_, rfl⟩
          refine lv_iinc (v := v7) (lv' := [(1, .int (v7)), (2, .int (x2_4)), (0, .ref (ad (110)))]) hx hb dX8_metCount_27 hl (k := 1) rfl ev7.symm (by decide) rfl (fun ls hl => ?_)
          obtain ⟨v8, ev8⟩ : ∃ z : Int32, z = x2_4 + Int32.ofInt (1) := ⟨_, rfl⟩
          have tv8 := a_inc ev8 (by decide) (by omega) (by omega)
          refine lv_iinc (v := v8) (lv' := [(2, .int (v8)), (1, .int (v7)), (0, .ref (ad (110)))]) hx hb dX8_metCount_30 hl (k := 1) rfl ev8.symm (by decide) rfl (fun ls hl => ?_)
          refine lv_goto (tgt := 4) hx hb dX8_metCount_33 (by decide) ?_
          exact ih4 (v8) (v7) _ _ ls (by first | omega | decide) (by omega) hM hS (lv_sub hl [0, 1, 2] rfl)
  exact loop4 (_ + 1) (0) (0) _ _ ls (by first | omega | decide) (Nat.lt_succ_self _) hM hS (lv_sub hl [0, 1, 2] rfl)
