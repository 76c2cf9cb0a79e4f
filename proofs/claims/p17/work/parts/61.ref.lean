theorem dX10_in_0 : decode cX10_in 0 = .ok (.lload_n 0, 1) := by decide +kernel
theorem dX10_in_1 : decode cX10_in 1 = .ok (.lload_n 2, 1) := by decide +kernel
theorem dX10_in_2 : decode cX10_in 2 = .ok (.lcmp, 1) := by decide +kernel
theorem dX10_in_3 : decode cX10_in 3 = .ok (.ifCond .lt 14, 3) := by decide +kernel
theorem dX10_in_6 : decode cX10_in 6 = .ok (.lload_n 0, 1) := by decide +kernel
theorem dX10_in_7 : decode cX10_in 7 = .ok (.lload 4, 2) := by decide +kernel
theorem dX10_in_9 : decode cX10_in 9 = .ok (.lcmp, 1) := by decide +kernel
theorem dX10_in_10 : decode cX10_in 10 = .ok (.ifCond .gt 7, 3) := by decide +kernel
theorem dX10_in_13 : decode cX10_in 13 = .ok (.iconst 1, 1) := by decide +kernel
theorem dX10_in_14 : decode cX10_in 14 = .ok (.goto 4, 3) := by decide +kernel
theorem dX10_in_17 : decode cX10_in 17 = .ok (.iconst 0, 1) := by decide +kernel
theorem dX10_in_18 : decode cX10_in 18 = .ok (.ireturn, 1) := by decide +kernel
theorem ce_X10_in : CeS yX10_in cX10_in 6 (some .boolean) 3 := ⟨tb_1426, tb_11, tb_1427, by decide, by decide, by decide +kernel⟩
set_option maxHeartbeats 4000000 in
set_option maxRecDepth 20000 in
theorem V_X10_in (l : Launch) (D : va_G) (A : Nat → Prop) (ad : Nat → Nat) (ns : List Nat) (I : MI) (L : ML) (G : MG) (a0 : Int64) (a1 : Int64) (a2 : Int64) (hI : INV I) : Met l yX10_in (wd yX10_in cX10_in 6 (some .boolean)) ({ frames := 0, cells := 0, slots := 0, locals := 0 }) (va_Pc [.long a0, .long a1, .long a2] (PM D A ad ns I L G)) (va_Qi (fun r u => u = (ad, ns, I, L, G) ∧ (Bo r (a1.toInt ≤ a0.toInt ∧ a0.toInt ≤ a2.toInt))) (BM D A) A) 0 0 A := by
  refine m_ofW (by decide) (Nat.le_of_ble_eq_true rfl) ?_
  intro p e s m below meth c ls args hC hE hM hA hS hl
  obtain ⟨hx, hb, hml, hown, hts, hr, hlocks, hin⟩ := hC
  have k0 : (0 : Int32).toInt = 0 := by decide
  have k1 : (1 : Int32).toInt = 1 := by decide
  have hl : lv_has ls 6 [(0, .long (a0)), (2, .long (a1)), (4, .long (a2))] := hl
  refine lv_lload_n hx hb dX10_in_0 rfl (lv_at hl 0 rfl) ?_
  refine lv_lload_n hx hb dX10_in_1 rfl (lv_at hl 1 rfl) ?_
  refine W.lcmp hx hb dX10_in_2 ?_
  refine lv_if_lt (tgt := 17) hx hb dX10_in_3 (by decide) (fun c1 => ?_) (fun c1 => ?_)
  · have hc1 := c1
    have q1 := l_lt hc1
    refine lv_iconst (v := (0)) hx hb dX10_in_17 (by decide) ?_
    exact m_zret hx hb hr rfl hlocks hM hS (Nat.le_of_ble_eq_true rfl) (Nat.le_of_ble_eq_true rfl) ⟨rfl, (Bo.n (by omega))⟩ dX10_in_18
  · have hc1 := c1
    have q1 := l_nlt hc1
    refine lv_lload_n hx hb dX10_in_6 rfl (lv_at hl 0 rfl) ?_
    refine lv_lload hx hb dX10_in_7 (lv_at hl 2 rfl) ?_
    refine W.lcmp hx hb dX10_in_9 ?_
    refine lv_if_gt (tgt := 17) hx hb dX10_in_10 (by decide) (fun c2 => ?_) (fun c2 => ?_)
    · have hc2 := c2
      have q2 := l_gt hc2
      refine lv_iconst (v := (0)) hx hb dX10_in_17 (by decide) ?_
      exact m_zret hx hb hr rfl hlocks hM hS (Nat.le_of_ble_eq_true rfl) (Nat.le_of_ble_eq_true rfl) ⟨rfl, (Bo.n (by omega))⟩ dX10_in_18
    · have hc2 := c2
      have q2 := l_ngt hc2
      refine lv_iconst (v := (1)) hx hb dX10_in_13 (by decide) ?_
      refine lv_goto (tgt := 18) hx hb dX10_in_14 (by decide) ?_
      exact m_zret hx hb hr rfl hlocks hM hS (Nat.le_of_ble_eq_true rfl) (Nat.le_of_ble_eq_true rfl) ⟨rfl, (Bo.y (by omega))⟩ dX10_in_18
theorem dX10_has_0 : decode cX10_has 0 = .ok (.iload_n 0, 1) := by decide +kernel
theorem dX10_has_1 : decode cX10_has 1 = .ok (.iload_n 1, 1) := by decide +kernel
theorem dX10_has_2 : decode cX10_has 2 = .ok (.ishr, 1) := by decide +kernel
theorem dX10_has_3 : decode cX10_has 3 = .ok (.iconst 1, 1) := by decide +kernel
theorem dX10_has_4 : decode cX10_has 4 = .ok (.iand, 1) := by decide +kernel
theorem dX10_has_5 : decode cX10_has 5 = .ok (.iconst 1, 1) := by decide +kernel
theorem dX10_has_6 : decode cX10_has 6 = .ok (.if_icmp .ne 7, 3) := by decide +kernel
theorem dX10_has_9 : decode cX10_has 9 = .ok (.iconst 1, 1) := by decide +kernel
theorem dX10_has_10 : decode cX10_has 10 = .ok (.goto 4, 3) := by decide +kernel
theorem dX10_has_13 : decode cX10_has 13 = .ok (.iconst 0, 1) := by decide +kernel
theorem dX10_has_14 : decode cX10_has 14 = .ok (.ireturn, 1) := by decide +kernel
theorem ce_X10_has : CeS yX10_has cX10_has 2 (some .boolean) 2 := ⟨tb_1751, tb_11, tb_1752, by decide, by decide, by decide +kernel⟩
theorem dX10_truth_0 : decode cX10_truth 0 = .ok (.iload_n 0, 1) := by decide +kernel
theorem dX10_truth_1 : decode cX10_truth 1 = .ok (.ifCond .eq 7, 3) := by decide +kernel
theorem dX10_truth_4 : decode cX10_truth 4 = .ok (.lconst 1, 1) := by decide +kernel
theorem dX10_truth_5 : decode cX10_truth 5 = .ok (.goto 4, 3) := by decide +kernel
theorem dX10_truth_8 : decode cX10_truth 8 = .ok (.lconst 0, 1) := by decide +kernel
theorem dX10_truth_9 : decode cX10_truth 9 = .ok (.lreturn, 1) := by decide +kernel
theorem ce_X10_truth : CeS yX10_truth cX10_truth 1 (some .long) 1 := ⟨tb_1638, tb_11, tb_1639, by decide, by decide, by decide +kernel⟩
set_option maxHeartbeats 4000000 in
set_option maxRecDepth 20000 in
theorem V_X10_truth (l : Launch) (D : va_G) (A : Nat → Prop) (ad : Nat → Nat) (ns : List Nat) (I : MI) (L : ML) (G : MG) (a0 : Int32) (hI : INV I) (ha0 : 0 ≤ a0.toInt ∧ a0.toInt ≤ 1) : Met l yX10_truth (wd yX10_truth cX10_truth 1 (some .long)) ({ frames := 0, cells := 0, slots := 0, locals := 0 }) (va_Pc [.int a0] (PM D A ad ns I L G)) (va_Ql (fun r u => u = (ad, ns, I, L, G) ∧ (True)) (BM D A) A) 0 0 A := by
  refine m_ofW (by decide) (Nat.le_of_ble_eq_true rfl) ?_
  intro p e s m below meth c ls args hC hE hM hA hS hl
  obtain ⟨hx, hb, hml, hown, hts, hr, hlocks, hin⟩ := hC
  have k0 : (0 : Int32).toInt = 0 := by decide
  have kl0 : (0 : Int64).toInt = 0 := by decide
  have kl1 : (1 : Int64).toInt = 1 := by decide
  have hl : lv_has ls 1 [(0, .int (a0))] := hl
  refine lv_iload_n hx hb dX10_truth_0 rfl (lv_at hl 0 rfl) ?_
  refine lv_if_eq (tgt := 8) hx hb dX10_truth_1 (by decide) (fun c1 => ?_) (fun c1 => ?_)
  · have hc1 := c1
    have q1 := q_eq hc1
    refine lv_lconst (v := 0) hx hb dX10_truth_8 (by decide) ?_
    exact m_lret hx hb hr hlocks hM hS (Nat.le_of_ble_eq_true rfl) (Nat.le_of_ble_eq_true rfl) ⟨rfl, trivial⟩ dX10_truth_9
  · have hc1 := c1
    have q1 := q_ne hc1
    refine lv_lconst (v := 1) hx hb dX10_truth_4 (by decide) ?_
    refine lv_goto (tgt := 9) hx hb dX10_truth_5 (by decide) ?_
    exact m_lret hx hb hr hlocks hM hS (Nat.le_of_ble_eq_true rfl) (Nat.le_of_ble_eq_true rfl) ⟨rfl, trivial⟩ dX10_truth_9
theorem dX10_stepX_0 : decode cX10_stepX 0 = .ok (.iload_n 0, 1) := by decide +kernel
theorem dX10_stepX_1 : decode cX10_stepX 1 = .ok (.ifCond .eq 14, 3) := by decide +kernel
theorem dX10_stepX_4 : decode cX10_stepX 4 = .ok (.iload_n 0, 1) := by decide +kernel
theorem dX10_stepX_5 : decode cX10_stepX 5 = .ok (.iconst 1, 1) := by decide +kernel
theorem dX10_stepX_6 : decode cX10_stepX 6 = .ok (.if_icmp .eq 9, 3) := by decide +kernel
theorem dX10_stepX_9 : decode cX10_stepX 9 = .ok (.iload_n 0, 1) := by decide +kernel
theorem dX10_stepX_10 : decode cX10_stepX 10 = .ok (.bipush 7, 2) := by decide +kernel
theorem dX10_stepX_12 : decode cX10_stepX 12 = .ok (.if_icmp .ne 7, 3) := by decide +kernel
theorem dX10_stepX_15 : decode cX10_stepX 15 = .ok (.iconst 1, 1) := by decide +kernel
theorem dX10_stepX_16 : decode cX10_stepX 16 = .ok (.goto 23, 3) := by decide +kernel
theorem dX10_stepX_19 : decode cX10_stepX 19 = .ok (.iload_n 0, 1) := by decide +kernel
theorem dX10_stepX_20 : decode cX10_stepX 20 = .ok (.iconst 3, 1) := by decide +kernel
theorem dX10_stepX_21 : decode cX10_stepX 21 = .ok (.if_icmp .eq 13, 3) := by decide +kernel
theorem dX10_stepX_24 : decode cX10_stepX 24 = .ok (.iload_n 0, 1) := by decide +kernel
theorem dX10_stepX_25 : decode cX10_stepX 25 = .ok (.iconst 4, 1) := by decide +kernel
theorem dX10_stepX_26 : decode cX10_stepX 26 = .ok (.if_icmp .eq 8, 3) := by decide +kernel
theorem dX10_stepX_29 : decode cX10_stepX 29 = .ok (.iload_n 0, 1) := by decide +kernel
theorem dX10_stepX_30 : decode cX10_stepX 30 = .ok (.iconst 5, 1) := by decide +kernel
theorem dX10_stepX_31 : decode cX10_stepX 31 = .ok (.if_icmp .ne 7, 3) := by decide +kernel
theorem dX10_stepX_34 : decode cX10_stepX 34 = .ok (.iconst (-1), 1) := by decide +kernel
theorem dX10_stepX_35 : decode cX10_stepX 35 = .ok (.goto 4, 3) := by decide +kernel
theorem dX10_stepX_38 : decode cX10_stepX 38 = .ok (.iconst 0, 1) := by decide +kernel
theorem dX10_stepX_39 : decode cX10_stepX 39 = .ok (.ireturn, 1) := by decide +kernel
theorem ce_X10_stepX : CeS yX10_stepX cX10_stepX 1 (some .int) 1 := ⟨tb_1661, tb_11, tb_1662, by decide, by decide, by decide +kernel⟩
set_option maxHeartbeats 4000000 in
set_option maxRecDepth 20000 in
theorem V_X10_stepX (l : Launch) (D : va_G) (A : Nat → Prop) (ad : Nat → Nat) (ns : List Nat) (I : MI) (L : ML) (G : MG) (a0 : Int32) (hI : INV I) : Met l yX10_stepX (wd yX10_stepX cX10_stepX 1 (some .int)) ({ frames := 0, cells := 0, slots := 0, locals := 0 }) (va_Pc [.int a0] (PM D A ad ns I L G)) (va_Qi (fun r u => u = (ad, ns, I, L, G) ∧ (-1 ≤ r.toInt ∧ r.toInt ≤ 1)) (BM D A) A) 0 0 A := by
  refine m_ofW (by decide) (Nat.le_of_ble_eq_true rfl) ?_
  intro p e s m below meth c ls args hC hE hM hA hS hl
  obtain ⟨hx, hb, hml, hown, hts, hr, hlocks, hin⟩ := hC
  have km1 : (-1 : Int32).toInt = -1 := by decide
  have k0 : (0 : Int32).toInt = 0 := by decide
  have k1 : (1 : Int32).toInt = 1 := by decide
  have k3 : (3 : Int32).toInt = 3 := by decide
  have k4 : (4 : Int32).toInt = 4 := by decide
  have k5 : (5 : Int32).toInt = 5 := by decide
  have k7 : (7 : Int32).toInt = 7 := by decide
  have hl : lv_has ls 1 [(0, .int (a0))] := hl
  refine lv_iload_n hx hb dX10_stepX_0 rfl (lv_at hl 0 rfl) ?_
  refine lv_if_eq (tgt := 15) hx hb dX10_stepX_1 (by decide) (fun c1 => ?_) (fun c1 => ?_)
  · have hc1 := c1
    have q1 := q_eq hc1
    refine lv_iconst (v := (1)) hx hb dX10_stepX_15 (by decide) ?_
    refine lv_goto (tgt := 39) hx hb dX10_stepX_16 (by decide) ?_
    exact m_iret hx hb hr hlocks hM hS (Nat.le_of_ble_eq_true rfl) (Nat.le_of_ble_eq_true rfl) ⟨rfl, (by first | omega | decide)⟩ dX10_stepX_39
  · have hc1 := c1
    have q1 := q_ne hc1
    refine lv_iload_n hx hb dX10_stepX_4 rfl (lv_at hl 0 rfl) ?_
    refine lv_iconst (v := (1)) hx hb dX10_stepX_5 (by decide) ?_
    refine lv_icmp_eq (tgt := 15) hx hb dX10_stepX_6 (by decide) (fun c2 => ?_) (fun c2 => ?_)
    · have hc2 := c2
      have q2 := q_eq hc2
      refine lv_iconst (v := (1)) hx hb dX10_stepX_15 (by decide) ?_
      refine lv_goto (tgt := 39) hx hb dX10_stepX_16 (by decide) ?_
      exact m_iret hx hb hr hlocks hM hS (Nat.le_of_ble_eq_true rfl) (Nat.le_of_ble_eq_true rfl) ⟨rfl, (by first | omega | decide)⟩ dX10_stepX_39
    · have hc2 := c2
      have q2 := q_ne hc2
      refine lv_iload_n hx hb dX10_stepX_9 rfl (lv_at hl 0 rfl) ?_
      refine lv_bipush (v := (7)) hx hb dX10_stepX_10 (by decide) ?_
      refine lv_icmp_ne (tgt := 19) hx hb dX10_stepX_12 (by decide) (fun c3 => ?_) (fun c3 => ?_)
      · have hc3 := c3
        have q3 := q_ne hc3
        refine lv_iload_n hx hb dX10_stepX_19 rfl (lv_at hl 0 rfl) ?_
        refine lv_iconst (v := (3)) hx hb dX10_stepX_20 (by decide) ?_
        refine lv_icmp_eq (tgt := 34) hx hb dX10_stepX_21 (by decide) (fun c4 => ?_) (fun c4 => ?_)
        · have hc4 := c4
          have q4 := q_eq hc4
          refine lv_iconst (v := (-1)) hx hb dX10_stepX_34 (by decide) ?_
          refine lv_goto (tgt := 39) hx hb dX10_stepX_35 (by decide) ?_
          exact m_iret hx hb hr hlocks hM hS (Nat.le_of_ble_eq_true rfl) (Nat.le_of_ble_eq_true rfl) ⟨rfl, (by first | omega | decide)⟩ dX10_stepX_39
        · have hc4 := c4
          have q4 := q_ne hc4
          refine lv_iload_n hx hb dX10_stepX_24 rfl (lv_at hl 0 rfl) ?_
          refine lv_iconst (v := (4)) hx hb dX10_stepX_25 (by decide) ?_
          refine lv_icmp_eq (tgt := 34) hx hb dX10_stepX_26 (by decide) (fun c5 => ?_) (fun c5 => ?_)
          · have hc5 := c5
            have q5 := q_eq hc5
            refine lv_iconst (v := (-1)) hx hb dX10_stepX_34 (by decide) ?_
            refine lv_goto (tgt := 39) hx hb dX10_stepX_35 (by decide) ?_
            exact m_iret hx hb hr hlocks hM hS (Nat.le_of_ble_eq_true rfl) (Nat.le_of_ble_eq_true rfl) ⟨rfl, (by first | omega | decide)⟩ dX10_stepX_39
          · have hc5 := c5
            have q5 := q_ne hc5
            refine lv_iload_n hx hb dX10_stepX_29 rfl (lv_at hl 0 rfl) ?_
            refine lv_iconst (v := (5)) hx hb dX10_stepX_30 (by decide) ?_
            refine lv_icmp_ne (tgt := 38) hx hb dX10_stepX_31 (by decide) (fun c6 => ?_) (fun c6 => ?_)
            · have hc6 := c6
              have q6 := q_ne hc6
              refine lv_iconst (v := (0)) hx hb dX10_stepX_38 (by decide) ?_
              exact m_iret hx hb hr hlocks hM hS (Nat.le_of_ble_eq_true rfl) (Nat.le_of_ble_eq_true rfl) ⟨rfl, (by first | omega | decide)⟩ dX10_stepX_39
            · have hc6 := c6
              have q6 := q_eq hc6
              refine lv_iconst (v := (-1)) hx hb dX10_stepX_34 (by decide) ?_
              refine lv_goto (tgt := 39) hx hb dX10_stepX_35 (by decide) ?_
              exact m_iret hx hb hr hlocks hM hS (Nat.le_of_ble_eq_true rfl) (Nat.le_of_ble_eq_true rfl) ⟨rfl, (by first | omega | decide)⟩ dX10_stepX_39
      · have hc3 := c3
        have q3 := q_eq hc3
        refine lv_iconst (v := (1)) hx hb dX10_stepX_15 (by decide) ?_
        refine lv_goto (tgt := 39) hx hb dX10_stepX_16 (by decide) ?_
        exact m_iret hx hb hr hlocks hM hS (Nat.le_of_ble_eq_true rfl) (Nat.le_of_ble_eq_true rfl) ⟨rfl, (by first | omega | decide)⟩ dX10_stepX_39
theorem dX10_stepY_0 : decode cX10_stepY 0 = .ok (.iload_n 0, 1) := by decide +kernel
theorem dX10_stepY_1 : decode cX10_stepY 1 = .ok (.iconst 1, 1) := by decide +kernel
theorem dX10_stepY_2 : decode cX10_stepY 2 = .ok (.if_icmp .eq 13, 3) := by decide +kernel
theorem dX10_stepY_5 : decode cX10_stepY 5 = .ok (.iload_n 0, 1) := by decide +kernel
theorem dX10_stepY_6 : decode cX10_stepY 6 = .ok (.iconst 2, 1) := by decide +kernel
theorem dX10_stepY_7 : decode cX10_stepY 7 = .ok (.if_icmp .eq 8, 3) := by decide +kernel
theorem dX10_stepY_10 : decode cX10_stepY 10 = .ok (.iload_n 0, 1) := by decide +kernel
theorem dX10_stepY_11 : decode cX10_stepY 11 = .ok (.iconst 3, 1) := by decide +kernel
theorem dX10_stepY_12 : decode cX10_stepY 12 = .ok (.if_icmp .ne 7, 3) := by decide +kernel
theorem dX10_stepY_15 : decode cX10_stepY 15 = .ok (.iconst 1, 1) := by decide +kernel
theorem dX10_stepY_16 : decode cX10_stepY 16 = .ok (.goto 25, 3) := by decide +kernel
theorem dX10_stepY_19 : decode cX10_stepY 19 = .ok (.iload_n 0, 1) := by decide +kernel
theorem dX10_stepY_20 : decode cX10_stepY 20 = .ok (.iconst 5, 1) := by decide +kernel
theorem dX10_stepY_21 : decode cX10_stepY 21 = .ok (.if_icmp .eq 15, 3) := by decide +kernel
theorem dX10_stepY_24 : decode cX10_stepY 24 = .ok (.iload_n 0, 1) := by decide +kernel
theorem dX10_stepY_25 : decode cX10_stepY 25 = .ok (.bipush 6, 2) := by decide +kernel
theorem dX10_stepY_27 : decode cX10_stepY 27 = .ok (.if_icmp .eq 9, 3) := by decide +kernel
theorem dX10_stepY_30 : decode cX10_stepY 30 = .ok (.iload_n 0, 1) := by decide +kernel
theorem dX10_stepY_31 : decode cX10_stepY 31 = .ok (.bipush 7, 2) := by decide +kernel
theorem dX10_stepY_33 : decode cX10_stepY 33 = .ok (.if_icmp .ne 7, 3) := by decide +kernel
theorem dX10_stepY_36 : decode cX10_stepY 36 = .ok (.iconst (-1), 1) := by decide +kernel
theorem dX10_stepY_37 : decode cX10_stepY 37 = .ok (.goto 4, 3) := by decide +kernel
theorem dX10_stepY_40 : decode cX10_stepY 40 = .ok (.iconst 0, 1) := by decide +kernel
theorem dX10_stepY_41 : decode cX10_stepY 41 = .ok (.ireturn, 1) := by decide +kernel
theorem ce_X10_stepY : CeS yX10_stepY cX10_stepY 1 (some .int) 1 := ⟨tb_1664, tb_11, tb_1665, by decide, by decide, by decide +kernel⟩
set_option maxHeartbeats 4000000 in
set_option maxRecDepth 20000 in
theorem V_X10_stepY (l : Launch) (D : va_G) (A : Nat → Prop) (ad : Nat → Nat) (ns : List Nat) (I : MI) (L : ML) (G : MG) (a0 : Int32) (hI : INV I) : Met l yX10_stepY (wd yX10_stepY cX10_stepY 1 (some .int)) ({ frames := 0, cells := 0, slots := 0, locals := 0 }) (va_Pc [.int a0] (PM D A ad ns I L G)) (va_Qi (fun r u => u = (ad, ns, I, L, G) ∧ (-1 ≤ r.toInt ∧ r.toInt ≤ 1)) (BM D A) A) 0 0 A := by
  refine m_ofW (by decide) (Nat.le_of_ble_eq_true rfl) ?_
  intro p e s m below meth c ls args hC hE hM hA hS hl
  obtain ⟨hx, hb, hml, hown, hts, hr, hlocks, hin⟩ := hC
  have km1 : (-1 : Int32).toInt = -1 := by decide
  have k0 : (0 : Int32).toInt = 0 := by decide
  have k1 : (1 : Int32).toInt = 1 := by decide
  have k2 : (2 : Int32).toInt = 2 := by decide
  have k3 : (3 : Int32).toInt = 3 := by decide
  have k5 : (5 : Int32).toInt = 5 := by decide
  have k6 : (6 : Int32).toInt = 6 := by decide
  have k7 : (7 : Int32).toInt = 7 := by decide
  have hl : lv_has ls 1 [(0, .int (a0))] := hl
  refine lv_iload_n hx hb dX10_stepY_0 rfl (lv_at hl 0 rfl) ?_
  refine lv_iconst (v := (1)) hx hb dX10_stepY_1 (by decide) ?_
  refine lv_icmp_eq (tgt := 15) hx hb dX10_stepY_2 (by decide) (fun c1 => ?_) (fun c1 => ?_)
  · have hc1 := c1
    have q1 := q_eq hc1
    refine lv_iconst (v := (1)) hx hb dX10_stepY_15 (by decide) ?_
    refine lv_goto (tgt := 41) hx hb dX10_stepY_16 (by decide) ?_
    exact m_iret hx hb hr hlocks hM hS (Nat.le_of_ble_eq_true rfl) (Nat.le_of_ble_eq_true rfl) ⟨rfl, (by first | omega | decide)⟩ dX10_stepY_41
  · have hc1 := c1
    have q1 := q_ne hc1
    refine lv_iload_n hx hb dX10_stepY_5 rfl (lv_at hl 0 rfl) ?_
    refine lv_iconst (v := (2)) hx hb dX10_stepY_6 (by decide) ?_
    refine lv_icmp_eq (tgt := 15) hx hb dX10_stepY_7 (by decide) (fun c2 => ?_) (fun c2 => ?_)
    · have hc2 := c2
      have q2 := q_eq hc2
      refine lv_iconst (v := (1)) hx hb dX10_stepY_15 (by decide) ?_
      refine lv_goto (tgt := 41) hx hb dX10_stepY_16 (by decide) ?_
      exact m_iret hx hb hr hlocks hM hS (Nat.le_of_ble_eq_true rfl) (Nat.le_of_ble_eq_true rfl) ⟨rfl, (by first | omega | decide)⟩ dX10_stepY_41
    · have hc2 := c2
      have q2 := q_ne hc2
      refine lv_iload_n hx hb dX10_stepY_10 rfl (lv_at hl 0 rfl) ?_
      refine lv_iconst (v := (3)) hx hb dX10_stepY_11 (by decide) ?_
      refine lv_icmp_ne (tgt := 19) hx hb dX10_stepY_12 (by decide) (fun c3 => ?_) (fun c3 => ?_)
      · have hc3 := c3
        have q3 := q_ne hc3
        refine lv_iload_n hx hb dX10_stepY_19 rfl (lv_at hl 0 rfl) ?_
        refine lv_iconst (v := (5)) hx hb dX10_stepY_20 (by decide) ?_
        refine lv_icmp_eq (tgt := 36) hx hb dX10_stepY_21 (by decide) (fun c4 => ?_) (fun c4 => ?_)
        · have hc4 := c4
          have q4 := q_eq hc4
          refine lv_iconst (v := (-1)) hx hb dX10_stepY_36 (by decide) ?_
          refine lv_goto (tgt := 41) hx hb dX10_stepY_37 (by decide) ?_
          exact m_iret hx hb hr hlocks hM hS (Nat.le_of_ble_eq_true rfl) (Nat.le_of_ble_eq_true rfl) ⟨rfl, (by first | omega | decide)⟩ dX10_stepY_41
        · have hc4 := c4
          have q4 := q_ne hc4
          refine lv_iload_n hx hb dX10_stepY_24 rfl (lv_at hl 0 rfl) ?_
          refine lv_bipush (v := (6)) hx hb dX10_stepY_25 (by decide) ?_
          refine lv_icmp_eq (tgt := 36) hx hb dX10_stepY_27 (by decide) (fun c5 => ?_) (fun c5 => ?_)
          · have hc5 := c5
            have q5 := q_eq hc5
            refine lv_iconst (v := (-1)) hx hb dX10_stepY_36 (by decide) ?_
            refine lv_goto (tgt := 41) hx hb dX10_stepY_37 (by decide) ?_
            exact m_iret hx hb hr hlocks hM hS (Nat.le_of_ble_eq_true rfl) (Nat.le_of_ble_eq_true rfl) ⟨rfl, (by first | omega | decide)⟩ dX10_stepY_41
          · have hc5 := c5
            have q5 := q_ne hc5
            refine lv_iload_n hx hb dX10_stepY_30 rfl (lv_at hl 0 rfl) ?_
            refine lv_bipush (v := (7)) hx hb dX10_stepY_31 (by decide) ?_
            refine lv_icmp_ne (tgt := 40) hx hb dX10_stepY_33 (by decide) (fun c6 => ?_) (fun c6 => ?_)
            · have hc6 := c6
              have q6 := q_ne hc6
              refine lv_iconst (v := (0)) hx hb dX10_stepY_40 (by decide) ?_
              exact m_iret hx hb hr hlocks hM hS (Nat.le_of_ble_eq_true rfl) (Nat.le_of_ble_eq_true rfl) ⟨rfl, (by first | omega | decide)⟩ dX10_stepY_41
            · have hc6 := c6
              have q6 := q_eq hc6
              refine lv_iconst (v := (-1)) hx hb dX10_stepY_36 (by decide) ?_
              refine lv_goto (tgt := 41) hx hb dX10_stepY_37 (by decide) ?_
              exact m_iret hx hb hr hlocks hM hS (Nat.le_of_ble_eq_true rfl) (Nat.le_of_ble_eq_true rfl) ⟨rfl, (by first | omega | decide)⟩ dX10_stepY_41
      · have hc3 := c3
        have q3 := q_eq hc3
        refine lv_iconst (v := (1)) hx hb dX10_stepY_15 (by decide) ?_
        refine lv_goto (tgt := 41) hx hb dX10_stepY_16 (by decide) ?_
        exact m_iret hx hb hr hlocks hM hS (Nat.le_of_ble_eq_true rfl) (Nat.le_of_ble_eq_true rfl) ⟨rfl, (by first | omega | decide)⟩ dX10_stepY_41
theorem dX10_isTown_0 : decode cX10_isTown 0 = .ok (.aload_n 0, 1) := by decide +kernel
theorem dX10_isTown_1 : decode cX10_isTown 1 = .ok (.getfield 7, 3) := by decide +kernel
theorem dX10_isTown_4 : decode cX10_isTown 4 = .ok (.iconst 0, 1) := by decide +kernel
theorem dX10_isTown_5 : decode cX10_isTown 5 = .ok (.iaload, 1) := by decide +kernel
theorem dX10_isTown_6 : decode cX10_isTown 6 = .ok (.iconst 1, 1) := by decide +kernel
theorem dX10_isTown_7 : decode cX10_isTown 7 = .ok (.if_icmp .ne 7, 3) := by decide +kernel
theorem dX10_isTown_10 : decode cX10_isTown 10 = .ok (.iconst 1, 1) := by decide +kernel
theorem dX10_isTown_11 : decode cX10_isTown 11 = .ok (.goto 4, 3) := by decide +kernel
theorem dX10_isTown_14 : decode cX10_isTown 14 = .ok (.iconst 0, 1) := by decide +kernel
theorem dX10_isTown_15 : decode cX10_isTown 15 = .ok (.ireturn, 1) := by decide +kernel
theorem ce_X10_isTown : CeV RX10 yX10_isTown cX10_isTown 1 (some .boolean) 0 := ⟨tb_1443, tp_58, tb_11, tb_1444, rfl, by decide, by decide, by decide +kernel⟩
set_option maxHeartbeats 4000000 in
set_option maxRecDepth 20000 in
theorem V_X10_isTown (l : Launch) (D : va_G) (A : Nat → Prop) (ad : Nat → Nat) (ns : List Nat) (I : MI) (L : ML) (G : MG) (hJ : SGM ns G) (hI : INV I) : Met l yX10_isTown (wd yX10_isTown cX10_isTown 1 (some .boolean)) ({ frames := 0, cells := 0, slots := 0, locals := 0 }) (va_Pc [.ref (ad (1000))] (PM D A ad ns I L G)) (va_Qi (fun r u => u = (ad, ns, I, L, G) ∧ (Bo r ((I 1001 0).toInt = 1))) (BM D A) A) 0 0 A := by
  refine m_ofW (by decide) (Nat.le_of_ble_eq_true rfl) ?_
  intro p e s m below meth c ls args hC hE hM hA hS hl
  obtain ⟨hx, hb, hml, hown, hts, hr, hlocks, hin⟩ := hC
  have k0 : (0 : Int32).toInt = 0 := by decide
  have k1 : (1 : Int32).toInt = 1 := by decide
  have hl : lv_has ls 1 [(0, .ref (ad (1000)))] := hl
  refine lv_aload_n hx hb dX10_isTown_0 rfl (lv_at hl 0 rfl) ?_
  refine m_getr (1000) 1 (1001) hx hb hts hown hE oc10 hM hJ.1 rfl (by decide) rfl (hJ.2 1 (by decide)).2 (by decide) tb_1178 dX10_isTown_1 ?_
  refine lv_iconst (v := (0)) hx hb dX10_isTown_4 (by decide) ?_
  refine m_iald (1001) hx hb hE hM (hJ.2 1 (by decide)).1 rfl (vp_in_iff.mpr (by decide)) dX10_isTown_5 ?_
  rw [show (0 : Int32).toNatClampNeg = 0 from rfl]
  have g1 := hI.get (1001) 0 (lo := 0) (hi := 1) rfl
  refine lv_iconst (v := (1)) hx hb dX10_isTown_6 (by decide) ?_
  refine lv_icmp_ne (tgt := 14) hx hb dX10_isTown_7 (by decide) (fun c2 => ?_) (fun c2 => ?_)
  · have hc2 := c2
    have q2 := q_ne hc2
    refine lv_iconst (v := (0)) hx hb dX10_isTown_14 (by decide) ?_
    exact m_zret hx hb hr rfl hlocks hM hS (Nat.le_of_ble_eq_true rfl) (Nat.le_of_ble_eq_true rfl) ⟨rfl, (Bo.n (by omega))⟩ dX10_isTown_15
  · have hc2 := c2
    have q2 := q_eq hc2
    refine lv_iconst (v := (1)) hx hb dX10_isTown_10 (by decide) ?_
    refine lv_goto (tgt := 15) hx hb dX10_isTown_11 (by decide) ?_
    exact m_zret hx hb hr rfl hlocks hM hS (Nat.le_of_ble_eq_true rfl) (Nat.le_of_ble_eq_true rfl) ⟨rfl, (Bo.y (by omega))⟩ dX10_isTown_15
theorem dX10_isCell_0 : decode cX10_isCell 0 = .ok (.aload_n 0, 1) := by decide +kernel
theorem dX10_isCell_1 : decode cX10_isCell 1 = .ok (.invokevirtual 188, 3) := by decide +kernel
theorem dX10_isCell_4 : decode cX10_isCell 4 = .ok (.ifCond .eq 43, 3) := by decide +kernel
theorem dX10_isCell_7 : decode cX10_isCell 7 = .ok (.iload_n 1, 1) := by decide +kernel
theorem dX10_isCell_8 : decode cX10_isCell 8 = .ok (.i2l, 1) := by decide +kernel
theorem dX10_isCell_9 : decode cX10_isCell 9 = .ok (.lconst 0, 1) := by decide +kernel
theorem dX10_isCell_10 : decode cX10_isCell 10 = .ok (.aload_n 0, 1) := by decide +kernel
theorem dX10_isCell_11 : decode cX10_isCell 11 = .ok (.getfield 7, 3) := by decide +kernel
theorem dX10_isCell_14 : decode cX10_isCell 14 = .ok (.iconst 1, 1) := by decide +kernel
theorem dX10_isCell_15 : decode cX10_isCell 15 = .ok (.iaload, 1) := by decide +kernel
theorem dX10_isCell_16 : decode cX10_isCell 16 = .ok (.iconst 1, 1) := by decide +kernel
theorem dX10_isCell_17 : decode cX10_isCell 17 = .ok (.isub, 1) := by decide +kernel
theorem dX10_isCell_18 : decode cX10_isCell 18 = .ok (.i2l, 1) := by decide +kernel
theorem dX10_isCell_19 : decode cX10_isCell 19 = .ok (.invokestatic 192, 3) := by decide +kernel
theorem dX10_isCell_22 : decode cX10_isCell 22 = .ok (.ifCond .eq 25, 3) := by decide +kernel
theorem dX10_isCell_25 : decode cX10_isCell 25 = .ok (.iload_n 2, 1) := by decide +kernel
theorem dX10_isCell_26 : decode cX10_isCell 26 = .ok (.i2l, 1) := by decide +kernel
theorem dX10_isCell_27 : decode cX10_isCell 27 = .ok (.lconst 0, 1) := by decide +kernel
theorem dX10_isCell_28 : decode cX10_isCell 28 = .ok (.aload_n 0, 1) := by decide +kernel
theorem dX10_isCell_29 : decode cX10_isCell 29 = .ok (.getfield 7, 3) := by decide +kernel
theorem dX10_isCell_32 : decode cX10_isCell 32 = .ok (.iconst 2, 1) := by decide +kernel
theorem dX10_isCell_33 : decode cX10_isCell 33 = .ok (.iaload, 1) := by decide +kernel
theorem dX10_isCell_34 : decode cX10_isCell 34 = .ok (.iconst 1, 1) := by decide +kernel
theorem dX10_isCell_35 : decode cX10_isCell 35 = .ok (.isub, 1) := by decide +kernel
theorem dX10_isCell_36 : decode cX10_isCell 36 = .ok (.i2l, 1) := by decide +kernel
theorem dX10_isCell_37 : decode cX10_isCell 37 = .ok (.invokestatic 192, 3) := by decide +kernel
theorem dX10_isCell_40 : decode cX10_isCell 40 = .ok (.ifCond .eq 7, 3) := by decide +kernel
theorem dX10_isCell_43 : decode cX10_isCell 43 = .ok (.iconst 1, 1) := by decide +kernel
theorem dX10_isCell_44 : decode cX10_isCell 44 = .ok (.goto 4, 3) := by decide +kernel
theorem dX10_isCell_47 : decode cX10_isCell 47 = .ok (.iconst 0, 1) := by decide +kernel
theorem dX10_isCell_48 : decode cX10_isCell 48 = .ok (.ireturn, 1) := by decide +kernel
theorem ce_X10_isCell : CeV RX10 yX10_isCell cX10_isCell 3 (some .boolean) 2 := ⟨tb_1439, tp_57, tb_11, tb_1440, rfl, by decide, by decide, by decide +kernel⟩
set_option maxHeartbeats 4000000 in
set_option maxRecDepth 20000 in
theorem V_X10_isCell (l : Launch) (D : va_G) (A : Nat → Prop) (ad : Nat → Nat) (ns : List Nat) (I : MI) (L : ML) (G : MG) (a0 : Int32) (a1 : Int32) (hJ : SGM ns G) (hI : INV I) : Met l yX10_isCell (wd yX10_isCell cX10_isCell 3 (some .boolean)) ({ frames := 1, cells := 0, slots := 0, locals := 25 }) (va_Pc [.ref (ad (1000)), .int a0, .int a1] (PM D A ad ns I L G)) (va_Qi (fun r u => u = (ad, ns, I, L, G) ∧ (Bo r ((I 1001 0).toInt = 1 ∧ 0 ≤ a0.toInt ∧ a0.toInt < (I 1001 1).toInt ∧ 0 ≤ a1.toInt ∧ a1.toInt < (I 1001 2).toInt))) (BM D A) A) 0 0 A := by
  refine m_ofW (by decide) (Nat.le_of_ble_eq_true rfl) ?_
  intro p e s m below meth c ls args hC hE hM hA hS hl
  obtain ⟨hx, hb, hml, hown, hts, hr, hlocks, hin⟩ := hC
  have k0 : (0 : Int32).toInt = 0 := by decide
  have k1 : (1 : Int32).toInt = 1 := by decide
  have k2 : (2 : Int32).toInt = 2 := by decide
  have kl0 : (0 : Int64).toInt = 0 := by decide
  have hl : lv_has ls 3 [(0, .ref (ad (1000))), (1, .int (a0)), (2, .int (a1))] := hl
  refine lv_aload_n hx hb dX10_isCell_0 rfl (lv_at hl 0 rfl) ?_
  refine m_calli (m_runV (1000) (As := []) (rest := []) hx hb hml hown hts hE hM hS hA ce_X10_isTown tb_1441 (V_X10_isTown l D A ad ns I L G hJ hI) rfl rfl ⟨Nat.le_of_ble_eq_true rfl, Nat.le_of_ble_eq_true rfl⟩ hJ.1 rfl rfl (by decide) rfl hl.1 rfl (Nat.le_of_ble_eq_true rfl) dX10_isCell_1 ⟨Nat.le_of_ble_eq_true rfl, Nat.le_of_ble_eq_true rfl⟩) hS (fun r1 u H locs hw hM hS => ?_)
  obtain ⟨rfl, xr1⟩ := hw
  have hM : Mem D A ad ns I L G H := hM
  have yr1 := bo01 xr1
  refine lv_if_eq (tgt := 47) hx hb dX10_isCell_4 (by decide) (fun c2 => ?_) (fun c2 => ?_)
  · have hc2 := c2
    have q2 := xr1.f hc2
    refine lv_iconst (v := (0)) hx hb dX10_isCell_47 (by decide) ?_
    exact m_zret hx hb hr rfl hlocks hM hS (Nat.le_of_ble_eq_true rfl) (Nat.le_of_ble_eq_true rfl) ⟨rfl, (Bo.n (by omega))⟩ dX10_isCell_48
  · have hc2 := c2
    have q2 := xr1.t hc2
    refine lv_iload_n hx hb dX10_isCell_7 rfl (lv_at hl 1 rfl) ?_
    refine lv_i2l hx hb dX10_isCell_8 rfl ?_
    refine lv_topl (fun v3 ev3 => ?_)
    have tv3 := q_i2l ev3
    refine lv_lconst (v := 0) hx hb dX10_isCell_9 (by decide) ?_
    refine lv_aload_n hx hb dX10_isCell_10 rfl (lv_at hl 0 rfl) ?_
    refine m_getr (1000) 1 (1001) hx hb hts hown hE oc10 hM hJ.1 rfl (by decide) rfl (hJ.2 1 (by decide)).2 (by decide) tb_1178 dX10_isCell_11 ?_
    refine lv_iconst (v := (1)) hx hb dX10_isCell_14 (by decide) ?_
    refine m_iald (1001) hx hb hE hM (hJ.2 1 (by decide)).1 rfl (vp_in_iff.mpr (by decide)) dX10_isCell_15 ?_
    rw [show (1 : Int32).toNatClampNeg = 1 from rfl]
    have g4 := hI.get (1001) 1 (lo := 0) (hi := 24) rfl
    refine lv_iconst (v := (1)) hx hb dX10_isCell_16 (by decide) ?_
    refine lv_isub hx hb dX10_isCell_17 ?_
    refine lv_topi (fun v5 ev5 => ?_)
    have tv5 := a_sub ev5 (by omega) (by omega)
    refine lv_i2l hx hb dX10_isCell_18 rfl ?_
    refine lv_topl (fun v6 ev6 => ?_)
    have tv6 := q_i2l ev6
    refine m_calli (m_runS (As := [.long (v3), .long (0), .long (v6)]) (rest := []) hx hb hml hown hts hE hM hS hA ce_X10_in tb_1425 (V_X10_in l D A ad ns I L G (v3) (0) (v6) hI) rfl rfl ⟨Nat.le_of_ble_eq_true rfl, Nat.le_of_ble_eq_true rfl⟩  rfl hl.1 rfl (Nat.le_of_ble_eq_true rfl) dX10_isCell_19 ⟨Nat.le_of_ble_eq_true rfl, Nat.le_of_ble_eq_true rfl⟩) hS (fun r7 u H locs hw hM hS => ?_)
    obtain ⟨rfl, xr7⟩ := hw
    have hM : Mem D A ad ns I L G H := hM
    have yr7 := bo01 xr7
    refine lv_if_eq (tgt := 47) hx hb dX10_isCell_22 (by decide) (fun c8 => ?_) (fun c8 => ?_)
    · have hc8 := c8
      have q8 := xr7.f hc8
      refine lv_iconst (v := (0)) hx hb dX10_isCell_47 (by decide) ?_
      exact m_zret hx hb hr rfl hlocks hM hS (Nat.le_of_ble_eq_true rfl) (Nat.le_of_ble_eq_true rfl) ⟨rfl, (Bo.n (by omega))⟩ dX10_isCell_48
    · have hc8 := c8
      have q8 := xr7.t hc8
      refine lv_iload_n hx hb dX10_isCell_25 rfl (lv_at hl 2 rfl) ?_
      refine lv_i2l hx hb dX10_isCell_26 rfl ?_
      refine lv_topl (fun v9 ev9 => ?_)
      have tv9 := q_i2l ev9
      refine lv_lconst (v := 0) hx hb dX10_isCell_27 (by decide) ?_
      refine lv_aload_n hx hb dX10_isCell_28 rfl (lv_at hl 0 rfl) ?_
      refine m_getr (1000) 1 (1001) hx hb hts hown hE oc10 hM hJ.1 rfl (by decide) rfl (hJ.2 1 (by decide)).2 (by decide) tb_1178 dX10_isCell_29 ?_
      refine lv_iconst (v := (2)) hx hb dX10_isCell_32 (by decide) ?_
      refine m_iald (1001) hx hb hE hM (hJ.2 1 (by decide)).1 rfl (vp_in_iff.mpr (by decide)) dX10_isCell_33 ?_
      rw [show (2 : Int32).toNatClampNeg = 2 from rfl]
      have g10 := hI.get (1001) 2 (lo := 0) (hi := 24) rfl
      refine lv_iconst (v := (1)) hx hb dX10_isCell_34 (by decide) ?_
      refine lv_isub hx hb dX10_isCell_35 ?_
      refine lv_topi (fun v11 ev11 => ?_)
      have tv11 := a_sub ev11 (by omega) (by omega)
      refine lv_i2l hx hb dX10_isCell_36 rfl ?_
      refine lv_topl (fun v12 ev12 => ?_)
      have tv12 := q_i2l ev12
      refine m_calli (m_runS (As := [.long (v9), .long (0), .long (v12)]) (rest := []) hx hb hml hown hts hE hM hS hA ce_X10_in tb_1425 (V_X10_in l D A ad ns I L G (v9) (0) (v12) hI) rfl rfl ⟨Nat.le_of_ble_eq_true rfl, Nat.le_of_ble_eq_true rfl⟩  rfl hl.1 rfl (Nat.le_of_ble_eq_true rfl) dX10_isCell_37 ⟨Nat.le_of_ble_eq_true rfl, Nat.le_of_ble_eq_true rfl⟩) hS (fun r13 u H locs hw hM hS => ?_)
      obtain ⟨rfl, xr13⟩ := hw
      have hM : Mem D A ad ns I L G H := hM
      have yr13 := bo01 xr13
      refine lv_if_eq (tgt := 47) hx hb dX10_isCell_40 (by decide) (fun c14 => ?_) (fun c14 => ?_)
      · have hc14 := c14
        have q14 := xr13.f hc14
        refine lv_iconst (v := (0)) hx hb dX10_isCell_47 (by decide) ?_
        exact m_zret hx hb hr rfl hlocks hM hS (Nat.le_of_ble_eq_true rfl) (Nat.le_of_ble_eq_true rfl) ⟨rfl, (Bo.n (by omega))⟩ dX10_isCell_48
      · have hc14 := c14
        have q14 := xr13.t hc14
        refine lv_iconst (v := (1)) hx hb dX10_isCell_43 (by decide) ?_
        refine lv_goto (tgt := 48) hx hb dX10_isCell_44 (by decide) ?_
        exact m_zret hx hb hr rfl hlocks hM hS (Nat.le_of_ble_eq_true rfl) (Nat.le_of_ble_eq_true rfl) ⟨rfl, (Bo.y (by omega))⟩ dX10_isCell_48
theorem dX10_isArea_0 : decode cX10_isArea 0 = .ok (.aload_n 0, 1) := by decide +kernel
theorem dX10_isArea_1 : decode cX10_isArea 1 = .ok (.iload_n 1, 1) := by decide +kernel
theorem dX10_isArea_2 : decode cX10_isArea 2 = .ok (.iload_n 2, 1) := by decide +kernel
theorem dX10_isArea_3 : decode cX10_isArea 3 = .ok (.invokevirtual 196, 3) := by decide +kernel
theorem dX10_isArea_6 : decode cX10_isArea 6 = .ok (.ifCond .eq 28, 3) := by decide +kernel
theorem dX10_isArea_9 : decode cX10_isArea 9 = .ok (.aload_n 0, 1) := by decide +kernel
theorem dX10_isArea_10 : decode cX10_isArea 10 = .ok (.iload_n 3, 1) := by decide +kernel
theorem dX10_isArea_11 : decode cX10_isArea 11 = .ok (.iload 4, 2) := by decide +kernel
theorem dX10_isArea_13 : decode cX10_isArea 13 = .ok (.invokevirtual 196, 3) := by decide +kernel
theorem dX10_isArea_16 : decode cX10_isArea 16 = .ok (.ifCond .eq 18, 3) := by decide +kernel
theorem dX10_isArea_19 : decode cX10_isArea 19 = .ok (.iload_n 3, 1) := by decide +kernel
theorem dX10_isArea_20 : decode cX10_isArea 20 = .ok (.iload_n 1, 1) := by decide +kernel
theorem dX10_isArea_21 : decode cX10_isArea 21 = .ok (.if_icmp .lt 13, 3) := by decide +kernel
theorem dX10_isArea_24 : decode cX10_isArea 24 = .ok (.iload 4, 2) := by decide +kernel
theorem dX10_isArea_26 : decode cX10_isArea 26 = .ok (.iload_n 2, 1) := by decide +kernel
theorem dX10_isArea_27 : decode cX10_isArea 27 = .ok (.if_icmp .lt 7, 3) := by decide +kernel
theorem dX10_isArea_30 : decode cX10_isArea 30 = .ok (.iconst 1, 1) := by decide +kernel
theorem dX10_isArea_31 : decode cX10_isArea 31 = .ok (.goto 4, 3) := by decide +kernel
theorem dX10_isArea_34 : decode cX10_isArea 34 = .ok (.iconst 0, 1) := by decide +kernel
theorem dX10_isArea_35 : decode cX10_isArea 35 = .ok (.ireturn, 1) := by decide +kernel
theorem ce_X10_isArea : CeV RX10 yX10_isArea cX10_isArea 5 (some .boolean) 4 := ⟨tb_1435, tp_56, tb_11, tb_1436, rfl, by decide, by decide, by decide +kernel⟩
set_option maxHeartbeats 4000000 in
set_option maxRecDepth 20000 in
theorem V_X10_isArea (l : Launch) (D : va_G) (A : Nat → Prop) (ad : Nat → Nat) (ns : List Nat) (I : MI) (L : ML) (G : MG) (a0 : Int32) (a1 : Int32) (a2 : Int32) (a3 : Int32) (hJ : SGM ns G) (hI : INV I) : Met l yX10_isArea (wd yX10_isArea cX10_isArea 5 (some .boolean)) ({ frames := 2, cells := 0, slots := 0, locals := 47 }) (va_Pc [.ref (ad (1000)), .int a0, .int a1, .int a2, .int a3] (PM D A ad ns I L G)) (va_Qi (fun r u => u = (ad, ns, I, L, G) ∧ (Bo r ((I 1001 0).toInt = 1 ∧ (0 ≤ a0.toInt ∧ a0.toInt < (I 1001 1).toInt ∧ 0 ≤ a1.toInt ∧ a1.toInt < (I 1001 2).toInt) ∧ (0 ≤ a2.toInt ∧ a2.toInt < (I 1001 1).toInt ∧ 0 ≤ a3.toInt ∧ a3.toInt < (I 1001 2).toInt) ∧ a0.toInt ≤ a2.toInt ∧ a1.toInt ≤ a3.toInt))) (BM D A) A) 0 0 A := by
  refine m_ofW (by decide) (Nat.le_of_ble_eq_true rfl) ?_
  intro p e s m below meth c ls args hC hE hM hA hS hl
  obtain ⟨hx, hb, hml, hown, hts, hr, hlocks, hin⟩ := hC
  have k0 : (0 : Int32).toInt = 0 := by decide
  have k1 : (1 : Int32).toInt = 1 := by decide
  have hl : lv_has ls 5 [(0, .ref (ad (1000))), (1, .int (a0)), (2, .int (a1)), (3, .int (a2)), (4, .int (a3))] := hl
  refine lv_aload_n hx hb dX10_isArea_0 rfl (lv_at hl 0 rfl) ?_
  refine lv_iload_n hx hb dX10_isArea_1 rfl (lv_at hl 1 rfl) ?_
  refine lv_iload_n hx hb dX10_isArea_2 rfl (lv_at hl 2 rfl) ?_
  refine m_calli (m_runV (1000) (As := [.int (a0), .int (a1)]) (rest := []) hx hb hml hown hts hE hM hS hA ce_X10_isCell tb_1437 (V_X10_isCell l D A ad ns I L G (a0) (a1) hJ hI) rfl rfl ⟨Nat.le_of_ble_eq_true rfl, Nat.le_of_ble_eq_true rfl⟩ hJ.1 rfl rfl (by decide) rfl hl.1 rfl (Nat.le_of_ble_eq_true rfl) dX10_isArea_3 ⟨Nat.le_of_ble_eq_true rfl, Nat.le_of_ble_eq_true rfl⟩) hS (fun r1 u H locs hw hM hS => ?_)
  obtain ⟨rfl, xr1⟩ := hw
  have hM : Mem D A ad ns I L G H := hM
  have yr1 := bo01 xr1
  have g2 := hI.get 1001 1 (lo := 0) (hi := 24) rfl
  have g3 := hI.get 1001 2 (lo := 0) (hi := 24) rfl
  refine lv_if_eq (tgt := 34) hx hb dX10_isArea_6 (by decide) (fun c4 => ?_) (fun c4 => ?_)
  · have hc4 := c4
    have q4 := xr1.f hc4
    refine lv_iconst (v := (0)) hx hb dX10_isArea_34 (by decide) ?_
    exact m_zret hx hb hr rfl hlocks hM hS (Nat.le_of_ble_eq_true rfl) (Nat.le_of_ble_eq_true rfl) ⟨rfl, (Bo.n (by omega))⟩ dX10_isArea_35
  · have hc4 := c4
    have q4 := xr1.t hc4
    refine lv_aload_n hx hb dX10_isArea_9 rfl (lv_at hl 0 rfl) ?_
    refine lv_iload_n hx hb dX10_isArea_10 rfl (lv_at hl 3 rfl) ?_
    refine lv_iload hx hb dX10_isArea_11 (lv_at hl 4 rfl) ?_
    refine m_calli (m_runV (1000) (As := [.int (a2), .int (a3)]) (rest := []) hx hb hml hown hts hE hM hS hA ce_X10_isCell tb_1437 (V_X10_isCell l D A ad ns I L G (a2) (a3) hJ hI) rfl rfl ⟨Nat.le_of_ble_eq_true rfl, Nat.le_of_ble_eq_true rfl⟩ hJ.1 rfl rfl (by decide) rfl hl.1 rfl (Nat.le_of_ble_eq_true rfl) dX10_isArea_13 ⟨Nat.le_of_ble_eq_true rfl, Nat.le_of_ble_eq_true rfl⟩) hS (fun r5 u H locs hw hM hS => ?_)
    obtain ⟨rfl, xr5⟩ := hw
    have hM : Mem D A ad ns I L G H := hM
    have yr5 := bo01 xr5
    have g6 := hI.get 1001 1 (lo := 0) (hi := 24) rfl
    have g7 := hI.get 1001 2 (lo := 0) (hi := 24) rfl
    refine lv_if_eq (tgt := 34) hx hb dX10_isArea_16 (by decide) (fun c8 => ?_) (fun c8 => ?_)
    · have hc8 := c8
      have q8 := xr5.f hc8
      refine lv_iconst (v := (0)) hx hb dX10_isArea_34 (by decide) ?_
      exact m_zret hx hb hr rfl hlocks hM hS (Nat.le_of_ble_eq_true rfl) (Nat.le_of_ble_eq_true rfl) ⟨rfl, (Bo.n (by omega))⟩ dX10_isArea_35
    · have hc8 := c8
      have q8 := xr5.t hc8
      refine lv_iload_n hx hb dX10_isArea_19 rfl (lv_at hl 3 rfl) ?_
      refine lv_iload_n hx hb dX10_isArea_20 rfl (lv_at hl 1 rfl) ?_
      refine lv_icmp_lt (tgt := 34) hx hb dX10_isArea_21 (by decide) (fun c9 => ?_) (fun c9 => ?_)
      · have hc9 := c9
        have q9 := q_lt hc9
        refine lv_iconst (v := (0)) hx hb dX10_isArea_34 (by decide) ?_
        exact m_zret hx hb hr rfl hlocks hM hS (Nat.le_of_ble_eq_true rfl) (Nat.le_of_ble_eq_true rfl) ⟨rfl, (Bo.n (by omega))⟩ dX10_isArea_35
      · have hc9 := c9
        have q9 := q_nlt hc9
        refine lv_iload hx hb dX10_isArea_24 (lv_at hl 4 rfl) ?_
        refine lv_iload_n hx hb dX10_isArea_26 rfl (lv_at hl 2 rfl) ?_
        refine lv_icmp_lt (tgt := 34) hx hb dX10_isArea_27 (by decide) (fun c10 => ?_) (fun c10 => ?_)
        · have hc10 := c10
          have q10 := q_lt hc10
          refine lv_iconst (v := (0)) hx hb dX10_isArea_34 (by decide) ?_
          exact m_zret hx hb hr rfl hlocks hM hS (Nat.le_of_ble_eq_true rfl) (Nat.le_of_ble_eq_true rfl) ⟨rfl, (Bo.n (by omega))⟩ dX10_isArea_35
        · have hc10 := c10
          have q10 := q_nlt hc10
          refine lv_iconst (v := (1)) hx hb dX10_isArea_30 (by decide) ?_
          refine lv_goto (tgt := 35) hx hb dX10_isArea_31 (by decide) ?_
          exact m_zret hx hb hr rfl hlocks hM hS (Nat.le_of_ble_eq_true rfl) (Nat.le_of_ble_eq_true rfl) ⟨rfl, (Bo.y (by omega))⟩ dX10_isArea_35
theorem dX10_isMirror_0 : decode cX10_isMirror 0 = .ok (.aload_n 0, 1) := by decide +kernel
theorem dX10_isMirror_1 : decode cX10_isMirror 1 = .ok (.invokevirtual 188, 3) := by decide +kernel
theorem dX10_isMirror_4 : decode cX10_isMirror 4 = .ok (.ifCond .eq 26, 3) := by decide +kernel
theorem dX10_isMirror_7 : decode cX10_isMirror 7 = .ok (.iload_n 1, 1) := by decide +kernel
theorem dX10_isMirror_8 : decode cX10_isMirror 8 = .ok (.i2l, 1) := by decide +kernel
theorem dX10_isMirror_9 : decode cX10_isMirror 9 = .ok (.lconst 0, 1) := by decide +kernel
theorem dX10_isMirror_10 : decode cX10_isMirror 10 = .ok (.aload_n 0, 1) := by decide +kernel
theorem dX10_isMirror_11 : decode cX10_isMirror 11 = .ok (.getfield 7, 3) := by decide +kernel
theorem dX10_isMirror_14 : decode cX10_isMirror 14 = .ok (.bipush 8, 2) := by decide +kernel
theorem dX10_isMirror_16 : decode cX10_isMirror 16 = .ok (.iaload, 1) := by decide +kernel
theorem dX10_isMirror_17 : decode cX10_isMirror 17 = .ok (.iconst 1, 1) := by decide +kernel
theorem dX10_isMirror_18 : decode cX10_isMirror 18 = .ok (.isub, 1) := by decide +kernel
theorem dX10_isMirror_19 : decode cX10_isMirror 19 = .ok (.i2l, 1) := by decide +kernel
theorem dX10_isMirror_20 : decode cX10_isMirror 20 = .ok (.invokestatic 192, 3) := by decide +kernel
theorem dX10_isMirror_23 : decode cX10_isMirror 23 = .ok (.ifCond .eq 7, 3) := by decide +kernel
theorem dX10_isMirror_26 : decode cX10_isMirror 26 = .ok (.iconst 1, 1) := by decide +kernel
theorem dX10_isMirror_27 : decode cX10_isMirror 27 = .ok (.goto 4, 3) := by decide +kernel
theorem dX10_isMirror_30 : decode cX10_isMirror 30 = .ok (.iconst 0, 1) := by decide +kernel
theorem dX10_isMirror_31 : decode cX10_isMirror 31 = .ok (.ireturn, 1) := by decide +kernel
theorem ce_X10_isMirror : CeV RX10 yX10_isMirror cX10_isMirror 2 (some .boolean) 1 := ⟨tb_1464, tp_59, tb_11, tb_1465, rfl, by decide, by decide, by decide +kernel⟩
set_option maxHeartbeats 4000000 in
set_option maxRecDepth 20000 in
theorem V_X10_isMirror (l : Launch) (D : va_G) (A : Nat → Prop) (ad : Nat → Nat) (ns : List Nat) (I : MI) (L : ML) (G : MG) (a0 : Int32) (hJ : SGM ns G) (hI : INV I) : Met l yX10_isMirror (wd yX10_isMirror cX10_isMirror 2 (some .boolean)) ({ frames := 1, cells := 0, slots := 0, locals := 25 }) (va_Pc [.ref (ad (1000)), .int a0] (PM D A ad ns I L G)) (va_Qi (fun r u => u = (ad, ns, I, L, G) ∧ (Bo r ((I 1001 0).toInt = 1 ∧ 0 ≤ a0.toInt ∧ a0.toInt < (I 1001 8).toInt))) (BM D A) A) 0 0 A := by
  refine m_ofW (by decide) (Nat.le_of_ble_eq_true rfl) ?_
  intro p e s m below meth c ls args hC hE hM hA hS hl
  obtain ⟨hx, hb, hml, hown, hts, hr, hlocks, hin⟩ := hC
  have k0 : (0 : Int32).toInt = 0 := by decide
  have k1 : (1 : Int32).toInt = 1 := by decide
  have k8 : (8 : Int32).toInt = 8 := by decide
  have kl0 : (0 : Int64).toInt = 0 := by decide
  have hl : lv_has ls 2 [(0, .ref (ad (1000))), (1, .int (a0))] := hl
  refine lv_aload_n hx hb dX10_isMirror_0 rfl (lv_at hl 0 rfl) ?_
  refine m_calli (m_runV (1000) (As := []) (rest := []) hx hb hml hown hts hE hM hS hA ce_X10_isTown tb_1441 (V_X10_isTown l D A ad ns I L G hJ hI) rfl rfl ⟨Nat.le_of_ble_eq_true rfl, Nat.le_of_ble_eq_true rfl⟩ hJ.1 rfl rfl (by decide) rfl hl.1 rfl (Nat.le_of_ble_eq_true rfl) dX10_isMirror_1 ⟨Nat.le_of_ble_eq_true rfl, Nat.le_of_ble_eq_true rfl⟩) hS (fun r1 u H locs hw hM hS => ?_)
  obtain ⟨rfl, xr1⟩ := hw
  have hM : Mem D A ad ns I L G H := hM
  have yr1 := bo01 xr1
  refine lv_if_eq (tgt := 30) hx hb dX10_isMirror_4 (by decide) (fun c2 => ?_) (fun c2 => ?_)
  · have hc2 := c2
    have q2 := xr1.f hc2
    refine lv_iconst (v := (0)) hx hb dX10_isMirror_30 (by decide) ?_
    exact m_zret hx hb hr rfl hlocks hM hS (Nat.le_of_ble_eq_true rfl) (Nat.le_of_ble_eq_true rfl) ⟨rfl, (Bo.n (by omega))⟩ dX10_isMirror_31
  · have hc2 := c2
    have q2 := xr1.t hc2
    refine lv_iload_n hx hb dX10_isMirror_7 rfl (lv_at hl 1 rfl) ?_
    refine lv_i2l hx hb dX10_isMirror_8 rfl ?_
    refine lv_topl (fun v3 ev3 => ?_)
    have tv3 := q_i2l ev3
    refine lv_lconst (v := 0) hx hb dX10_isMirror_9 (by decide) ?_
    refine lv_aload_n hx hb dX10_isMirror_10 rfl (lv_at hl 0 rfl) ?_
    refine m_getr (1000) 1 (1001) hx hb hts hown hE oc10 hM hJ.1 rfl (by decide) rfl (hJ.2 1 (by decide)).2 (by decide) tb_1178 dX10_isMirror_11 ?_
    refine lv_bipush (v := (8)) hx hb dX10_isMirror_14 (by decide) ?_
    refine m_iald (1001) hx hb hE hM (hJ.2 1 (by decide)).1 rfl (vp_in_iff.mpr (by decide)) dX10_isMirror_16 ?_
    rw [show (8 : Int32).toNatClampNeg = 8 from rfl]
    have g4 := hI.get (1001) 8 (lo := 0) (hi := 24) rfl
    refine lv_iconst (v := (1)) hx hb dX10_isMirror_17 (by decide) ?_
    refine lv_isub hx hb dX10_isMirror_18 ?_
    refine lv_topi (fun v5 ev5 => ?_)
    have tv5 := a_sub ev5 (by omega) (by omega)
    refine lv_i2l hx hb dX10_isMirror_19 rfl ?_
    refine lv_topl (fun v6 ev6 => ?_)
    have tv6 := q_i2l ev6
    refine m_calli (m_runS (As := [.long (v3), .long (0), .long (v6)]) (rest := []) hx hb hml hown hts hE hM hS hA ce_X10_in tb_1425 (V_X10_in l D A ad ns I L G (v3) (0) (v6) hI) rfl rfl ⟨Nat.le_of_ble_eq_true rfl, Nat.le_of_ble_eq_true rfl⟩  rfl hl.1 rfl (Nat.le_of_ble_eq_true rfl) dX10_isMirror_20 ⟨Nat.le_of_ble_eq_true rfl, Nat.le_of_ble_eq_true rfl⟩) hS (fun r7 u H locs hw hM hS => ?_)
    obtain ⟨rfl, xr7⟩ := hw
    have hM : Mem D A ad ns I L G H := hM
    have yr7 := bo01 xr7
    refine lv_if_eq (tgt := 30) hx hb dX10_isMirror_23 (by decide) (fun c8 => ?_) (fun c8 => ?_)
    · have hc8 := c8
      have q8 := xr7.f hc8
      refine lv_iconst (v := (0)) hx hb dX10_isMirror_30 (by decide) ?_
      exact m_zret hx hb hr rfl hlocks hM hS (Nat.le_of_ble_eq_true rfl) (Nat.le_of_ble_eq_true rfl) ⟨rfl, (Bo.n (by omega))⟩ dX10_isMirror_31
    · have hc8 := c8
      have q8 := xr7.t hc8
      refine lv_iconst (v := (1)) hx hb dX10_isMirror_26 (by decide) ?_
      refine lv_goto (tgt := 31) hx hb dX10_isMirror_27 (by decide) ?_
      exact m_zret hx hb hr rfl hlocks hM hS (Nat.le_of_ble_eq_true rfl) (Nat.le_of_ble_eq_true rfl) ⟨rfl, (Bo.y (by omega))⟩ dX10_isMirror_31
theorem dX10_isYard_0 : decode cX10_isYard 0 = .ok (.aload_n 0, 1) := by decide +kernel
theorem dX10_isYard_1 : decode cX10_isYard 1 = .ok (.invokevirtual 188, 3) := by decide +kernel
theorem dX10_isYard_4 : decode cX10_isYard 4 = .ok (.ifCond .eq 26, 3) := by decide +kernel
theorem dX10_isYard_7 : decode cX10_isYard 7 = .ok (.iload_n 1, 1) := by decide +kernel
theorem dX10_isYard_8 : decode cX10_isYard 8 = .ok (.i2l, 1) := by decide +kernel
theorem dX10_isYard_9 : decode cX10_isYard 9 = .ok (.lconst 0, 1) := by decide +kernel
theorem dX10_isYard_10 : decode cX10_isYard 10 = .ok (.aload_n 0, 1) := by decide +kernel
theorem dX10_isYard_11 : decode cX10_isYard 11 = .ok (.getfield 7, 3) := by decide +kernel
theorem dX10_isYard_14 : decode cX10_isYard 14 = .ok (.bipush 9, 2) := by decide +kernel
theorem dX10_isYard_16 : decode cX10_isYard 16 = .ok (.iaload, 1) := by decide +kernel
theorem dX10_isYard_17 : decode cX10_isYard 17 = .ok (.iconst 1, 1) := by decide +kernel
theorem dX10_isYard_18 : decode cX10_isYard 18 = .ok (.isub, 1) := by decide +kernel
theorem dX10_isYard_19 : decode cX10_isYard 19 = .ok (.i2l, 1) := by decide +kernel
theorem dX10_isYard_20 : decode cX10_isYard 20 = .ok (.invokestatic 192, 3) := by decide +kernel
theorem dX10_isYard_23 : decode cX10_isYard 23 = .ok (.ifCond .eq 7, 3) := by decide +kernel
theorem dX10_isYard_26 : decode cX10_isYard 26 = .ok (.iconst 1, 1) := by decide +kernel
theorem dX10_isYard_27 : decode cX10_isYard 27 = .ok (.goto 4, 3) := by decide +kernel
theorem dX10_isYard_30 : decode cX10_isYard 30 = .ok (.iconst 0, 1) := by decide +kernel
theorem dX10_isYard_31 : decode cX10_isYard 31 = .ok (.ireturn, 1) := by decide +kernel
theorem ce_X10_isYard : CeV RX10 yX10_isYard cX10_isYard 2 (some .boolean) 1 := ⟨tb_1688, tp_94, tb_11, tb_1689, rfl, by decide, by decide, by decide +kernel⟩
set_option maxHeartbeats 4000000 in
set_option maxRecDepth 20000 in
theorem V_X10_isYard (l : Launch) (D : va_G) (A : Nat → Prop) (ad : Nat → Nat) (ns : List Nat) (I : MI) (L : ML) (G : MG) (a0 : Int32) (hJ : SGM ns G) (hI : INV I) : Met l yX10_isYard (wd yX10_isYard cX10_isYard 2 (some .boolean)) ({ frames := 1, cells := 0, slots := 0, locals := 25 }) (va_Pc [.ref (ad (1000)), .int a0] (PM D A ad ns I L G)) (va_Qi (fun r u => u = (ad, ns, I, L, G) ∧ (Bo r ((I 1001 0).toInt = 1 ∧ 0 ≤ a0.toInt ∧ a0.toInt < (I 1001 9).toInt))) (BM D A) A) 0 0 A := by
  refine m_ofW (by decide) (Nat.le_of_ble_eq_true rfl) ?_
  intro p e s m below meth c ls args hC hE hM hA hS hl
  obtain ⟨hx, hb, hml, hown, hts, hr, hlocks, hin⟩ := hC
  have k0 : (0 : Int32).toInt = 0 := by decide
  have k1 : (1 : Int32).toInt = 1 := by decide
  have k9 : (9 : Int32).toInt = 9 := by decide
  have kl0 : (0 : Int64).toInt = 0 := by decide
  have hl : lv_has ls 2 [(0, .ref (ad (1000))), (1, .int (a0))] := hl
  refine lv_aload_n hx hb dX10_isYard_0 rfl (lv_at hl 0 rfl) ?_
  refine m_calli (m_runV (1000) (As := []) (rest := []) hx hb hml hown hts hE hM hS hA ce_X10_isTown tb_1441 (V_X10_isTown l D A ad ns I L G hJ hI) rfl rfl ⟨Nat.le_of_ble_eq_true rfl, Nat.le_of_ble_eq_true rfl⟩ hJ.1 rfl rfl (by decide) rfl hl.1 rfl (Nat.le_of_ble_eq_true rfl) dX10_isYard_1 ⟨Nat.le_of_ble_eq_true rfl, Nat.le_of_ble_eq_true rfl⟩) hS (fun r1 u H locs hw hM hS => ?_)
  obtain ⟨rfl, xr1⟩ := hw
  have hM : Mem D A ad ns I L G H := hM
  have yr1 := bo01 xr1
  refine lv_if_eq (tgt := 30) hx hb dX10_isYard_4 (by decide) (fun c2 => ?_) (fun c2 => ?_)
  · have hc2 := c2
    have q2 := xr1.f hc2
    refine lv_iconst (v := (0)) hx hb dX10_isYard_30 (by decide) ?_
    exact m_zret hx hb hr rfl hlocks hM hS (Nat.le_of_ble_eq_true rfl) (Nat.le_of_ble_eq_true rfl) ⟨rfl, (Bo.n (by omega))⟩ dX10_isYard_31
  · have hc2 := c2
    have q2 := xr1.t hc2
    refine lv_iload_n hx hb dX10_isYard_7 rfl (lv_at hl 1 rfl) ?_
    refine lv_i2l hx hb dX10_isYard_8 rfl ?_
    refine lv_topl (fun v3 ev3 => ?_)
    have tv3 := q_i2l ev3
    refine lv_lconst (v := 0) hx hb dX10_isYard_9 (by decide) ?_
    refine lv_aload_n hx hb dX10_isYard_10 rfl (lv_at hl 0 rfl) ?_
    refine m_getr (1000) 1 (1001) hx hb hts hown hE oc10 hM hJ.1 rfl (by decide) rfl (hJ.2 1 (by decide)).2 (by decide) tb_1178 dX10_isYard_11 ?_
    refine lv_bipush (v := (9)) hx hb dX10_isYard_14 (by decide) ?_
    refine m_iald (1001) hx hb hE hM (hJ.2 1 (by decide)).1 rfl (vp_in_iff.mpr (by decide)) dX10_isYard_16 ?_
    rw [show (9 : Int32).toNatClampNeg = 9 from rfl]
    have g4 := hI.get (1001) 9 (lo := 0) (hi := 8) rfl
    refine lv_iconst (v := (1)) hx hb dX10_isYard_17 (by decide) ?_
    refine lv_isub hx hb dX10_isYard_18 ?_
    refine lv_topi (fun v5 ev5 => ?_)
    have tv5 := a_sub ev5 (by omega) (by omega)
    refine lv_i2l hx hb dX10_isYard_19 rfl ?_
    refine lv_topl (fun v6 ev6 => ?_)
    have tv6 := q_i2l ev6
    refine m_calli (m_runS (As := [.long (v3), .long (0), .long (v6)]) (rest := []) hx hb hml hown hts hE hM hS hA ce_X10_in tb_1425 (V_X10_in l D A ad ns I L G (v3) (0) (v6) hI) rfl rfl ⟨Nat.le_of_ble_eq_true rfl, Nat.le_of_ble_eq_true rfl⟩  rfl hl.1 rfl (Nat.le_of_ble_eq_true rfl) dX10_isYard_20 ⟨Nat.le_of_ble_eq_true rfl, Nat.le_of_ble_eq_true rfl⟩) hS (fun r7 u H locs hw hM hS => ?_)
    obtain ⟨rfl, xr7⟩ := hw
    have hM : Mem D A ad ns I L G H := hM
    have yr7 := bo01 xr7
    refine lv_if_eq (tgt := 30) hx hb dX10_isYard_23 (by decide) (fun c8 => ?_) (fun c8 => ?_)
    · have hc8 := c8
      have q8 := xr7.f hc8
      refine lv_iconst (v := (0)) hx hb dX10_isYard_30 (by decide) ?_
      exact m_zret hx hb hr rfl hlocks hM hS (Nat.le_of_ble_eq_true rfl) (Nat.le_of_ble_eq_true rfl) ⟨rfl, (Bo.n (by omega))⟩ dX10_isYard_31
    · have hc8 := c8
      have q8 := xr7.t hc8
      refine lv_iconst (v := (1)) hx hb dX10_isYard_26 (by decide) ?_
      refine lv_goto (tgt := 31) hx hb dX10_isYard_27 (by decide) ?_
      exact m_zret hx hb hr rfl hlocks hM hS (Nat.le_of_ble_eq_true rfl) (Nat.le_of_ble_eq_true rfl) ⟨rfl, (Bo.y (by omega))⟩ dX10_isYard_31
theorem dX10_sunOf_0 : decode cX10_sunOf 0 = .ok (.aload_n 0, 1) := by decide +kernel
theorem dX10_sunOf_1 : decode cX10_sunOf 1 = .ok (.getfield 19, 3) := by decide +kernel
theorem dX10_sunOf_4 : decode cX10_sunOf 4 = .ok (.bipush 24, 2) := by decide +kernel
theorem dX10_sunOf_6 : decode cX10_sunOf 6 = .ok (.aload_n 0, 1) := by decide +kernel
theorem dX10_sunOf_7 : decode cX10_sunOf 7 = .ok (.getfield 7, 3) := by decide +kernel
theorem dX10_sunOf_10 : decode cX10_sunOf 10 = .ok (.iconst 5, 1) := by decide +kernel
theorem dX10_sunOf_11 : decode cX10_sunOf 11 = .ok (.iaload, 1) := by decide +kernel
theorem dX10_sunOf_12 : decode cX10_sunOf 12 = .ok (.imul, 1) := by decide +kernel
theorem dX10_sunOf_13 : decode cX10_sunOf 13 = .ok (.iload_n 1, 1) := by decide +kernel
theorem dX10_sunOf_14 : decode cX10_sunOf 14 = .ok (.iadd, 1) := by decide +kernel
theorem dX10_sunOf_15 : decode cX10_sunOf 15 = .ok (.iaload, 1) := by decide +kernel
theorem dX10_sunOf_16 : decode cX10_sunOf 16 = .ok (.ireturn, 1) := by decide +kernel
theorem ce_X10_sunOf : CeV RX10 yX10_sunOf cX10_sunOf 2 (some .int) 1 := ⟨tb_1627, tp_84, tb_11, tb_1628, rfl, by decide, by decide, by decide +kernel⟩
set_option maxHeartbeats 4000000 in
set_option maxRecDepth 20000 in
theorem V_X10_sunOf (l : Launch) (D : va_G) (A : Nat → Prop) (ad : Nat → Nat) (ns : List Nat) (I : MI) (L : ML) (G : MG) (a0 : Int32) (hJ : SGM ns G) (hI : INV I) (ha0 : 0 ≤ a0.toInt ∧ a0.toInt ≤ 23) : Met l yX10_sunOf (wd yX10_sunOf cX10_sunOf 2 (some .int)) ({ frames := 0, cells := 0, slots := 0, locals := 0 }) (va_Pc [.ref (ad (1000)), .int a0] (PM D A ad ns I L G)) (va_Qi (fun r u => u = (ad, ns, I, L, G) ∧ (True)) (BM D A) A) 0 0 A := by
  refine m_ofW (by decide) (Nat.le_of_ble_eq_true rfl) ?_
  intro p e s m below meth c ls args hC hE hM hA hS hl
  obtain ⟨hx, hb, hml, hown, hts, hr, hlocks, hin⟩ := hC
  have k0 : (0 : Int32).toInt = 0 := by decide
  have k5 : (5 : Int32).toInt = 5 := by decide
  have k24 : (24 : Int32).toInt = 24 := by decide
  have hl : lv_has ls 2 [(0, .ref (ad (1000))), (1, .int (a0))] := hl
  refine lv_aload_n hx hb dX10_sunOf_0 rfl (lv_at hl 0 rfl) ?_
  refine m_getr (1000) 4 (1004) hx hb hts hown hE oc10 hM hJ.1 rfl (by decide) rfl (hJ.2 4 (by decide)).2 (by decide) tb_1181 dX10_sunOf_1 ?_
  refine lv_bipush (v := (24)) hx hb dX10_sunOf_4 (by decide) ?_
  refine lv_aload_n hx hb dX10_sunOf_6 rfl (lv_at hl 0 rfl) ?_
  refine m_getr (1000) 1 (1001) hx hb hts hown hE oc10 hM hJ.1 rfl (by decide) rfl (hJ.2 1 (by decide)).2 (by decide) tb_1178 dX10_sunOf_7 ?_
  refine lv_iconst (v := (5)) hx hb dX10_sunOf_10 (by decide) ?_
  refine m_iald (1001) hx hb hE hM (hJ.2 1 (by decide)).1 rfl (vp_in_iff.mpr (by decide)) dX10_sunOf_11 ?_
  rw [show (5 : Int32).toNatClampNeg = 5 from rfl]
  have g1 := hI.get (1001) 5 (lo := 0) (hi := 11) rfl
  refine lv_imul hx hb dX10_sunOf_12 ?_
  refine lv_topi (fun v2 ev2 => ?_)
  have tv2 := a_mulL (c := 24) ev2 (by decide) (by omega) (by omega)
  refine lv_iload_n hx hb dX10_sunOf_13 rfl (lv_at hl 1 rfl) ?_
  refine lv_iadd hx hb dX10_sunOf_14 ?_
  refine lv_topi (fun v3 ev3 => ?_)
  have tv3 := a_add ev3 (by omega) (by omega)
  refine m_iald (1004) hx hb hE hM (hJ.2 4 (by decide)).1 rfl (vp_in_iff.mpr (by omega)) dX10_sunOf_15 ?_
  exact m_iret hx hb hr hlocks hM hS (Nat.le_of_ble_eq_true rfl) (Nat.le_of_ble_eq_true rfl) ⟨rfl, trivial⟩ dX10_sunOf_16
theorem dX10_isBright_0 : decode cX10_isBright 0 = .ok (.aload_n 0, 1) := by decide +kernel
theorem dX10_isBright_1 : decode cX10_isBright 1 = .ok (.invokevirtual 188, 3) := by decide +kernel
theorem dX10_isBright_4 : decode cX10_isBright 4 = .ok (.ifCond .eq 28, 3) := by decide +kernel
theorem dX10_isBright_7 : decode cX10_isBright 7 = .ok (.iload_n 1, 1) := by decide +kernel
theorem dX10_isBright_8 : decode cX10_isBright 8 = .ok (.i2l, 1) := by decide +kernel
theorem dX10_isBright_9 : decode cX10_isBright 9 = .ok (.lconst 0, 1) := by decide +kernel
theorem dX10_isBright_10 : decode cX10_isBright 10 = .ok (.ldc2_w 212, 3) := by decide +kernel
theorem dX10_isBright_13 : decode cX10_isBright 13 = .ok (.invokestatic 192, 3) := by decide +kernel
theorem dX10_isBright_16 : decode cX10_isBright 16 = .ok (.ifCond .eq 16, 3) := by decide +kernel
theorem dX10_isBright_19 : decode cX10_isBright 19 = .ok (.aload_n 0, 1) := by decide +kernel
theorem dX10_isBright_20 : decode cX10_isBright 20 = .ok (.iload_n 1, 1) := by decide +kernel
theorem dX10_isBright_21 : decode cX10_isBright 21 = .ok (.invokevirtual 433, 3) := by decide +kernel
theorem dX10_isBright_24 : decode cX10_isBright 24 = .ok (.iconst (-1), 1) := by decide +kernel
theorem dX10_isBright_25 : decode cX10_isBright 25 = .ok (.if_icmp .eq 7, 3) := by decide +kernel
theorem dX10_isBright_28 : decode cX10_isBright 28 = .ok (.iconst 1, 1) := by decide +kernel
theorem dX10_isBright_29 : decode cX10_isBright 29 = .ok (.goto 4, 3) := by decide +kernel
theorem dX10_isBright_32 : decode cX10_isBright 32 = .ok (.iconst 0, 1) := by decide +kernel
theorem dX10_isBright_33 : decode cX10_isBright 33 = .ok (.ireturn, 1) := by decide +kernel
theorem ce_X10_isBright : CeV RX10 yX10_isBright cX10_isBright 2 (some .boolean) 1 := ⟨tb_1700, tp_95, tb_11, tb_1701, rfl, by decide, by decide, by decide +kernel⟩
set_option maxHeartbeats 4000000 in
set_option maxRecDepth 20000 in
theorem V_X10_isBright (l : Launch) (D : va_G) (A : Nat → Prop) (ad : Nat → Nat) (ns : List Nat) (I : MI) (L : ML) (G : MG) (a0 : Int32) (hJ : SGM ns G) (hI : INV I) : Met l yX10_isBright (wd yX10_isBright cX10_isBright 2 (some .boolean)) ({ frames := 1, cells := 0, slots := 0, locals := 25 }) (va_Pc [.ref (ad (1000)), .int a0] (PM D A ad ns I L G)) (va_Qi (fun r u => u = (ad, ns, I, L, G) ∧ ((r.toInt = 0 ∨ ((I 1001 0).toInt = 1 ∧ 0 ≤ a0.toInt ∧ a0.toInt ≤ 23)) ∧ 0 ≤ r.toInt ∧ r.toInt ≤ 1)) (BM D A) A) 0 0 A := by
  refine m_ofW (by decide) (Nat.le_of_ble_eq_true rfl) ?_
  intro p e s m below meth c ls args hC hE hM hA hS hl
  obtain ⟨hx, hb, hml, hown, hts, hr, hlocks, hin⟩ := hC
  have km1 : (-1 : Int32).toInt = -1 := by decide
  have k0 : (0 : Int32).toInt = 0 := by decide
  have k1 : (1 : Int32).toInt = 1 := by decide
  have kl0 : (0 : Int64).toInt = 0 := by decide
  have kl23 : (23 : Int64).toInt = 23 := by decide
  have hl : lv_has ls 2 [(0, .ref (ad (1000))), (1, .int (a0))] := hl
  refine lv_aload_n hx hb dX10_isBright_0 rfl (lv_at hl 0 rfl) ?_
  refine m_calli (m_runV (1000) (As := []) (rest := []) hx hb hml hown hts hE hM hS hA ce_X10_isTown tb_1441 (V_X10_isTown l D A ad ns I L G hJ hI) rfl rfl ⟨Nat.le_of_ble_eq_true rfl, Nat.le_of_ble_eq_true rfl⟩ hJ.1 rfl rfl (by decide) rfl hl.1 rfl (Nat.le_of_ble_eq_true rfl) dX10_isBright_1 ⟨Nat.le_of_ble_eq_true rfl, Nat.le_of_ble_eq_true rfl⟩) hS (fun r1 u H locs hw hM hS => ?_)
  obtain ⟨rfl, xr1⟩ := hw
  have hM : Mem D A ad ns I L G H := hM
  have yr1 := bo01 xr1
  refine lv_if_eq (tgt := 32) hx hb dX10_isBright_4 (by decide) (fun c2 => ?_) (fun c2 => ?_)
  · have hc2 := c2
    have q2 := xr1.f hc2
    refine lv_iconst (v := (0)) hx hb dX10_isBright_32 (by decide) ?_
    exact m_zret hx hb hr rfl hlocks hM hS (Nat.le_of_ble_eq_true rfl) (Nat.le_of_ble_eq_true rfl) ⟨rfl, (by first | omega | decide)⟩ dX10_isBright_33
  · have hc2 := c2
    have q2 := xr1.t hc2
    refine lv_iload_n hx hb dX10_isBright_7 rfl (lv_at hl 1 rfl) ?_
    refine lv_i2l hx hb dX10_isBright_8 rfl ?_
    refine lv_topl (fun v3 ev3 => ?_)
    have tv3 := q_i2l ev3
    refine lv_lconst (v := 0) hx hb dX10_isBright_9 (by decide) ?_
    refine lv_ldc2 (v := (23)) hx hb hown (hts _ tb_1450) dX10_isBright_10 ?_
    refine m_calli (m_runS (As := [.long (v3), .long (0), .long ((23 : Int64))]) (rest := []) hx hb hml hown hts hE hM hS hA ce_X10_in tb_1425 (V_X10_in l D A ad ns I L G (v3) (0) ((23 : Int64)) hI) rfl rfl ⟨Nat.le_of_ble_eq_true rfl, Nat.le_of_ble_eq_true rfl⟩  rfl hl.1 rfl (Nat.le_of_ble_eq_true rfl) dX10_isBright_13 ⟨Nat.le_of_ble_eq_true rfl, Nat.le_of_ble_eq_true rfl⟩) hS (fun r4 u H locs hw hM hS => ?_)
    obtain ⟨rfl, xr4⟩ := hw
    have hM : Mem D A ad ns I L G H := hM
    have yr4 := bo01 xr4
    refine lv_if_eq (tgt := 32) hx hb dX10_isBright_16 (by decide) (fun c5 => ?_) (fun c5 => ?_)
    · have hc5 := c5
      have q5 := xr4.f hc5
      refine lv_iconst (v := (0)) hx hb dX10_isBright_32 (by decide) ?_
      exact m_zret hx hb hr rfl hlocks hM hS (Nat.le_of_ble_eq_true rfl) (Nat.le_of_ble_eq_true rfl) ⟨rfl, (by first | omega | decide)⟩ dX10_isBright_33
    · have hc5 := c5
      have q5 := xr4.t hc5
      refine lv_aload_n hx hb dX10_isBright_19 rfl (lv_at hl 0 rfl) ?_
      refine lv_iload_n hx hb dX10_isBright_20 rfl (lv_at hl 1 rfl) ?_
      refine m_calli (m_runV (1000) (As := [.int (a0)]) (rest := []) hx hb hml hown hts hE hM hS hA ce_X10_sunOf tb_1625 (V_X10_sunOf l D A ad ns I L G (a0) hJ hI (by first | omega | decide)) rfl rfl ⟨Nat.le_of_ble_eq_true rfl, Nat.le_of_ble_eq_true rfl⟩ hJ.1 rfl rfl (by decide) rfl hl.1 rfl (Nat.le_of_ble_eq_true rfl) dX10_isBright_21 ⟨Nat.le_of_ble_eq_true rfl, Nat.le_of_ble_eq_true rfl⟩) hS (fun r6 u H locs hw hM hS => ?_)
      obtain ⟨rfl, xr6⟩ := hw
      have hM : Mem D A ad ns I L G H := hM
      refine lv_iconst (v := (-1)) hx hb dX10_isBright_24 (by decide) ?_
      refine lv_icmp_eq (tgt := 32) hx hb dX10_isBright_25 (by decide) (fun c7 => ?_) (fun c7 => ?_)
      · have hc7 := c7
        have q7 := q_eq hc7
        refine lv_iconst (v := (0)) hx hb dX10_isBright_32 (by decide) ?_
        exact m_zret hx hb hr rfl hlocks hM hS (Nat.le_of_ble_eq_true rfl) (Nat.le_of_ble_eq_true rfl) ⟨rfl, (by first | omega | decide)⟩ dX10_isBright_33
      · have hc7 := c7
        have q7 := q_ne hc7
        refine lv_iconst (v := (1)) hx hb dX10_isBright_28 (by decide) ?_
        refine lv_goto (tgt := 33) hx hb dX10_isBright_29 (by decide) ?_
        exact m_zret hx hb hr rfl hlocks hM hS (Nat.le_of_ble_eq_true rfl) (Nat.le_of_ble_eq_true rfl) ⟨rfl, (by first | omega | decide)⟩ dX10_isBright_33
theorem dX10_yardOf_0 : decode cX10_yardOf 0 = .ok (.iconst 0, 1) := by decide +kernel
theorem dX10_yardOf_1 : decode cX10_yardOf 1 = .ok (.istore_n 3, 1) := by decide +kernel
theorem dX10_yardOf_2 : decode cX10_yardOf 2 = .ok (.iload_n 3, 1) := by decide +kernel
theorem dX10_yardOf_3 : decode cX10_yardOf 3 = .ok (.aload_n 0, 1) := by decide +kernel
theorem dX10_yardOf_4 : decode cX10_yardOf 4 = .ok (.getfield 7, 3) := by decide +kernel
theorem dX10_yardOf_7 : decode cX10_yardOf 7 = .ok (.bipush 9, 2) := by decide +kernel
theorem dX10_yardOf_9 : decode cX10_yardOf 9 = .ok (.iaload, 1) := by decide +kernel
theorem dX10_yardOf_10 : decode cX10_yardOf 10 = .ok (.if_icmp .ge 55, 3) := by decide +kernel
theorem dX10_yardOf_13 : decode cX10_yardOf 13 = .ok (.iload_n 1, 1) := by decide +kernel
theorem dX10_yardOf_14 : decode cX10_yardOf 14 = .ok (.i2l, 1) := by decide +kernel
theorem dX10_yardOf_15 : decode cX10_yardOf 15 = .ok (.aload_n 0, 1) := by decide +kernel
theorem dX10_yardOf_16 : decode cX10_yardOf 16 = .ok (.getfield 58, 3) := by decide +kernel
theorem dX10_yardOf_19 : decode cX10_yardOf 19 = .ok (.iload_n 3, 1) := by decide +kernel
theorem dX10_yardOf_20 : decode cX10_yardOf 20 = .ok (.iaload, 1) := by decide +kernel
theorem dX10_yardOf_21 : decode cX10_yardOf 21 = .ok (.i2l, 1) := by decide +kernel
theorem dX10_yardOf_22 : decode cX10_yardOf 22 = .ok (.aload_n 0, 1) := by decide +kernel
theorem dX10_yardOf_23 : decode cX10_yardOf 23 = .ok (.getfield 64, 3) := by decide +kernel
theorem dX10_yardOf_26 : decode cX10_yardOf 26 = .ok (.iload_n 3, 1) := by decide +kernel
theorem dX10_yardOf_27 : decode cX10_yardOf 27 = .ok (.iaload, 1) := by decide +kernel
theorem dX10_yardOf_28 : decode cX10_yardOf 28 = .ok (.i2l, 1) := by decide +kernel
theorem dX10_yardOf_29 : decode cX10_yardOf 29 = .ok (.invokestatic 192, 3) := by decide +kernel
theorem dX10_yardOf_32 : decode cX10_yardOf 32 = .ok (.ifCond .eq 27, 3) := by decide +kernel
theorem dX10_yardOf_35 : decode cX10_yardOf 35 = .ok (.iload_n 2, 1) := by decide +kernel
theorem dX10_yardOf_36 : decode cX10_yardOf 36 = .ok (.i2l, 1) := by decide +kernel
theorem dX10_yardOf_37 : decode cX10_yardOf 37 = .ok (.aload_n 0, 1) := by decide +kernel
theorem dX10_yardOf_38 : decode cX10_yardOf 38 = .ok (.getfield 61, 3) := by decide +kernel
theorem dX10_yardOf_41 : decode cX10_yardOf 41 = .ok (.iload_n 3, 1) := by decide +kernel
theorem dX10_yardOf_42 : decode cX10_yardOf 42 = .ok (.iaload, 1) := by decide +kernel
theorem dX10_yardOf_43 : decode cX10_yardOf 43 = .ok (.i2l, 1) := by decide +kernel
theorem dX10_yardOf_44 : decode cX10_yardOf 44 = .ok (.aload_n 0, 1) := by decide +kernel
theorem dX10_yardOf_45 : decode cX10_yardOf 45 = .ok (.getfield 67, 3) := by decide +kernel
theorem dX10_yardOf_48 : decode cX10_yardOf 48 = .ok (.iload_n 3, 1) := by decide +kernel
theorem dX10_yardOf_49 : decode cX10_yardOf 49 = .ok (.iaload, 1) := by decide +kernel
theorem dX10_yardOf_50 : decode cX10_yardOf 50 = .ok (.i2l, 1) := by decide +kernel
theorem dX10_yardOf_51 : decode cX10_yardOf 51 = .ok (.invokestatic 192, 3) := by decide +kernel
theorem dX10_yardOf_54 : decode cX10_yardOf 54 = .ok (.ifCond .eq 5, 3) := by decide +kernel
theorem dX10_yardOf_57 : decode cX10_yardOf 57 = .ok (.iload_n 3, 1) := by decide +kernel
theorem dX10_yardOf_58 : decode cX10_yardOf 58 = .ok (.ireturn, 1) := by decide +kernel
theorem dX10_yardOf_59 : decode cX10_yardOf 59 = .ok (.iinc 3 1, 3) := by decide +kernel
theorem dX10_yardOf_62 : decode cX10_yardOf 62 = .ok (.goto (-60), 3) := by decide +kernel
theorem dX10_yardOf_65 : decode cX10_yardOf 65 = .ok (.iconst (-1), 1) := by decide +kernel
theorem dX10_yardOf_66 : decode cX10_yardOf 66 = .ok (.ireturn, 1) := by decide +kernel
theorem ce_X10_yardOf : CeV RX10 yX10_yardOf cX10_yardOf 4 (some .int) 2 := ⟨tb_1654, tp_89, tb_11, tb_1655, rfl, by decide, by decide, by decide +kernel⟩
set_option maxHeartbeats 4000000 in
set_option maxRecDepth 20000 in
theorem V_X10_yardOf (l : Launch) (D : va_G) (A : Nat → Prop) (ad : Nat → Nat) (ns : List Nat) (I : MI) (L : ML) (G : MG) (a0 : Int32) (a1 : Int32) (hJ : SGM ns G) (hI : INV I) : Met l yX10_yardOf (wd yX10_yardOf cX10_yardOf 4 (some .int)) ({ frames := 1, cells := 0, slots := 0, locals := 25 }) (va_Pc [.ref (ad (1000)), .int a0, .int a1] (PM D A ad ns I L G)) (va_Qi (fun r u => u = (ad, ns, I, L, G) ∧ (-1 ≤ r.toInt ∧ r.toInt ≤ 7)) (BM D A) A) 0 0 A := by
  refine m_ofW (by decide) (Nat.le_of_ble_eq_true rfl) ?_
  intro p e s m below meth c ls args hC hE hM hA hS hl
  obtain ⟨hx, hb, hml, hown, hts, hr, hlocks, hin⟩ := hC
  have km1 : (-1 : Int32).toInt = -1 := by decide
  have k0 : (0 : Int32).toInt = 0 := by decide
  have k9 : (9 : Int32).toInt = 9 := by decide
  have hl : lv_has ls 4 [(0, .ref (ad (1000))), (1, .int (a0)), (2, .int (a1))] := hl
  refine lv_iconst (v := (0)) hx hb dX10_yardOf_0 (by decide) ?_
  refine lv_istore_n (lv' := [(3, .int (0)), (0, .ref (ad (1000))), (1, .int (a0)), (2, .int (a1))]) hx hb dX10_yardOf_1 rfl hl (by decide) rfl (fun ls hl => ?_)
  have loop2 : ∀ (n : Nat) (x3_2 : Int32) (H : Heap) (locs : List Loc) (ls : Array Slot), (0 ≤ x3_2.toInt ∧ x3_2.toInt ≤ 8) → (8 - x3_2.toInt).toNat < n → Mem D A ad ns I L G H → va_S A s.heap H locs → lv_has ls 4 [(3, .int (x3_2)), (0, .ref (ad (1000))), (1, .int (a0)), (2, .int (a1))] → W p l e ({ frames := 1, cells := 0, slots := 0, locals := 25 } : Room) s m args below meth c H locs 0 0 (MQ below (va_Qi (fun r u => u = (ad, ns, I, L, G) ∧ (-1 ≤ r.toInt ∧ r.toInt ≤ 7)) (BM D A) A) args s 0 0 A) (F0 m 2 ls []) := by
    intro n
    induction n with
    | zero =>
      intro x3_2 H locs ls hr3_2 hmu
      exact absurd hmu (Nat.not_lt_zero _)
    | succ n ih2 =>
      intro x3_2 H locs ls hr3_2 hmu2 hM hS hl
      refine lv_iload_n hx hb dX10_yardOf_2 rfl (lv_at hl 0 rfl) ?_
      refine lv_aload_n hx hb dX10_yardOf_3 rfl (lv_at hl 1 rfl) ?_
      refine m_getr (1000) 1 (1001) hx hb hts hown hE oc10 hM hJ.1 rfl (by decide) rfl (hJ.2 1 (by decide)).2 (by decide) tb_1178 dX10_yardOf_4 ?_
      refine lv_bipush (v := (9)) hx hb dX10_yardOf_7 (by decide) ?_
      refine m_iald (1001) hx hb hE hM (hJ.2 1 (by decide)).1 rfl (vp_in_iff.mpr (by decide)) dX10_yardOf_9 ?_
      rw [show (9 : Int32).toNatClampNeg = 9 from rfl]
      have g1 := hI.get (1001) 9 (lo := 0) (hi := 8) rfl
      refine lv_icmp_ge (tgt := 65) hx hb dX10_yardOf_10 (by decide) (fun c2 => ?_) (fun c2 => ?_)
      · have hc2 := c2
        have q2 := q_le hc2
        refine lv_iconst (v := (-1)) hx hb dX10_yardOf_65 (by decide) ?_
        exact m_iret hx hb hr hlocks hM hS (Nat.le_of_ble_eq_true rfl) (Nat.le_of_ble_eq_true rfl) ⟨rfl, (by first | omega | decide)⟩ dX10_yardOf_66
      · have hc2 := c2
        have q2 := q_nle hc2
        refine lv_iload_n hx hb dX10_yardOf_13 rfl (lv_at hl 2 rfl) ?_
        refine lv_i2l hx hb dX10_yardOf_14 rfl ?_
        refine lv_topl (fun v3 ev3 => ?_)
        have tv3 := q_i2l ev3
        refine lv_aload_n hx hb dX10_yardOf_15 rfl (lv_at hl 1 rfl) ?_
        refine m_getr (1000) 17 (1017) hx hb hts hown hE oc10 hM hJ.1 rfl (by decide) rfl (hJ.2 17 (by decide)).2 (by decide) tb_1194 dX10_yardOf_16 ?_
        refine lv_iload_n hx hb dX10_yardOf_19 rfl (lv_at hl 0 rfl) ?_
        refine m_iald (1017) hx hb hE hM (hJ.2 17 (by decide)).1 rfl (vp_in_iff.mpr (by omega)) dX10_yardOf_20 ?_
        refine lv_i2l hx hb dX10_yardOf_21 rfl ?_
        refine lv_topl (fun v4 ev4 => ?_)
        have tv4 := q_i2l ev4
        refine lv_aload_n hx hb dX10_yardOf_22 rfl (lv_at hl 1 rfl) ?_
        refine m_getr (1000) 19 (1019) hx hb hts hown hE oc10 hM hJ.1 rfl (by decide) rfl (hJ.2 19 (by decide)).2 (by decide) tb_1196 dX10_yardOf_23 ?_
        refine lv_iload_n hx hb dX10_yardOf_26 rfl (lv_at hl 0 rfl) ?_
        refine m_iald (1019) hx hb hE hM (hJ.2 19 (by decide)).1 rfl (vp_in_iff.mpr (by omega)) dX10_yardOf_27 ?_
        refine lv_i2l hx hb dX10_yardOf_28 rfl ?_
        refine lv_topl (fun v5 ev5 => ?_)
        have tv5 := q_i2l ev5
        refine m_calli (m_runS (As := [.long (v3), .long (v4), .long (v5)]) (rest := []) hx hb hml hown hts hE hM hS hA ce_X10_in tb_1425 (V_X10_in l D A ad ns I L G (v3) (v4) (v5) hI) rfl rfl ⟨Nat.le_of_ble_eq_true rfl, Nat.le_of_ble_eq_true rfl⟩  rfl hl.1 rfl (Nat.le_of_ble_eq_true rfl) dX10_yardOf_29 ⟨Nat.le_of_ble_eq_true rfl, Nat.le_of_ble_eq_true rfl⟩) hS (fun r6 u H locs hw hM hS => ?_)
        obtain ⟨rfl, xr6⟩ := hw
        have hM : Mem D A ad ns I L G H := hM
        have yr6 := bo01 xr6
        refine lv_if_eq (tgt := 59) hx hb dX10_yardOf_32 (by decide) (fun c7 => ?_) (fun c7 => ?_)
        · have hc7 := c7
          have q7 := xr6.f hc7
          obtain ⟨v8, ev8⟩ : ∃ z : Int32, z = x3_2 + Int32.ofInt (1) := ⟨_, rfl⟩
          have tv8 := a_inc ev8 (by decide) (by omega) (by omega)
          refine lv_iinc (v := v8) (lv' := [(3, .int (v8)), (0, .ref (ad (1000))), (1, .int (a0)), (2, .int (a1))]) hx hb dX10_yardOf_59 hl (k := 0) rfl ev8.symm (by decide) rfl (fun ls hl => ?_)
          refine lv_goto (tgt := 2) hx hb dX10_yardOf_62 (by decide) ?_
          exact ih2 (v8) _ _ ls (by first | omega | decide) (by omega) hM hS (lv_sub hl [0, 1, 2, 3] rfl)
        · have hc7 := c7
          have q7 := xr6.t hc7
          refine lv_iload_n hx hb dX10_yardOf_35 rfl (lv_at hl 3 rfl) ?_
          refine lv_i2l hx hb dX10_yardOf_36 rfl ?_
          refine lv_topl (fun v9 ev9 => ?_)
          have tv9 := q_i2l ev9
          refine lv_aload_n hx hb dX10_yardOf_37 rfl (lv_at hl 1 rfl) ?_
          refine m_getr (1000) 18 (1018) hx hb hts hown hE oc10 hM hJ.1 rfl (by decide) rfl (hJ.2 18 (by decide)).2 (by decide) tb_1195 dX10_yardOf_38 ?_
          refine lv_iload_n hx hb dX10_yardOf_41 rfl (lv_at hl 0 rfl) ?_
          refine m_iald (1018) hx hb hE hM (hJ.2 18 (by decide)).1 rfl (vp_in_iff.mpr (by omega)) dX10_yardOf_42 ?_
          refine lv_i2l hx hb dX10_yardOf_43 rfl ?_
          refine lv_topl (fun v10 ev10 => ?_)
          have tv10 := q_i2l ev10
          refine lv_aload_n hx hb dX10_yardOf_44 rfl (lv_at hl 1 rfl) ?_
          refine m_getr (1000) 20 (1020) hx hb hts hown hE oc10 hM hJ.1 rfl (by decide) rfl (hJ.2 20 (by decide)).2 (by decide) tb_1197 dX10_yardOf_45 ?_
          refine lv_iload_n hx hb dX10_yardOf_48 rfl (lv_at hl 0 rfl) ?_
          refine m_iald (1020) hx hb hE hM (hJ.2 20 (by decide)).1 rfl (vp_in_iff.mpr (by omega)) dX10_yardOf_49 ?_
          refine lv_i2l hx hb dX10_yardOf_50 rfl ?_
          refine lv_topl (fun v11 ev11 => ?_)
          have tv11 := q_i2l ev11
          refine m_calli (m_runS (As := [.long (v9), .long (v10), .long (v11)]) (rest := []) hx hb hml hown hts hE hM hS hA ce_X10_in tb_1425 (V_X10_in l D A ad ns I L G (v9) (v10) (v11) hI) rfl rfl ⟨Nat.le_of_ble_eq_true rfl, Nat.le_of_ble_eq_true rfl⟩  rfl hl.1 rfl (Nat.le_of_ble_eq_true rfl) dX10_yardOf_51 ⟨Nat.le_of_ble_eq_true rfl, Nat.le_of_ble_eq_true rfl⟩) hS (fun r12 u H locs hw hM hS => ?_)
          obtain ⟨rfl, xr12⟩ := hw
          have hM : Mem D A ad ns I L G H := hM
          have yr12 := bo01 xr12
          refine lv_if_eq (tgt := 59) hx hb dX10_yardOf_54 (by decide) (fun c13 => ?_) (fun c13 => ?_)
          · have hc13 := c13
            have q13 := xr12.f hc13
            obtain ⟨v14, ev14⟩ : ∃ z : Int32, z = x3_2 + Int32.ofInt (1) := ⟨_, rfl⟩
            have tv14 := a_inc ev14 (by decide) (by omega) (by omega)
            refine lv_iinc (v := v14) (lv' := [(3, .int (v14)), (0, .ref (ad (1000))), (1, .int (a0)), (2, .int (a1))]) hx hb dX10_yardOf_59 hl (k := 0) rfl ev14.symm (by decide) rfl (fun ls hl => ?_)
            refine lv_goto (tgt := 2) hx hb dX10_yardOf_62 (by decide) ?_
            exact ih2 (v14) _ _ ls (by first | omega | decide) (by omega) hM hS (lv_sub hl [0, 1, 2, 3] rfl)
          · have hc13 := c13
            have q13 := xr12.t hc13
            refine lv_iload_n hx hb dX10_yardOf_57 rfl (lv_at hl 0 rfl) ?_
            exact m_iret hx hb hr hlocks hM hS (Nat.le_of_ble_eq_true rfl) (Nat.le_of_ble_eq_true rfl) ⟨rfl, (by first | omega | decide)⟩ dX10_yardOf_58
  exact loop2 (_ + 1) (0) _ _ ls (by first | omega | decide) (Nat.lt_succ_self _) hM hS (lv_sub hl [0, 1, 2, 3] rfl)
theorem dX10_waitsFor_0 : decode cX10_waitsFor 0 = .ok (.aload_n 0, 1) := by decide +kernel
theorem dX10_waitsFor_1 : decode cX10_waitsFor 1 = .ok (.getfield 385, 3) := by decide +kernel
theorem dX10_waitsFor_4 : decode cX10_waitsFor 4 = .ok (.bipush 60, 2) := by decide +kernel
theorem dX10_waitsFor_6 : decode cX10_waitsFor 6 = .ok (.if_icmp .ne 15, 3) := by decide +kernel
theorem dX10_waitsFor_9 : decode cX10_waitsFor 9 = .ok (.aload_n 0, 1) := by decide +kernel
theorem dX10_waitsFor_10 : decode cX10_waitsFor 10 = .ok (.dup, 1) := by decide +kernel
theorem dX10_waitsFor_11 : decode cX10_waitsFor 11 = .ok (.getfield 388, 3) := by decide +kernel
theorem dX10_waitsFor_14 : decode cX10_waitsFor 14 = .ok (.iload 4, 2) := by decide +kernel
theorem dX10_waitsFor_16 : decode cX10_waitsFor 16 = .ok (.iadd, 1) := by decide +kernel
theorem dX10_waitsFor_17 : decode cX10_waitsFor 17 = .ok (.putfield 388, 3) := by decide +kernel
theorem dX10_waitsFor_20 : decode cX10_waitsFor 20 = .ok (.return_, 1) := by decide +kernel
theorem dX10_waitsFor_21 : decode cX10_waitsFor 21 = .ok (.aload_n 0, 1) := by decide +kernel
theorem dX10_waitsFor_22 : decode cX10_waitsFor 22 = .ok (.getfield 391, 3) := by decide +kernel
theorem dX10_waitsFor_25 : decode cX10_waitsFor 25 = .ok (.aload_n 0, 1) := by decide +kernel
theorem dX10_waitsFor_26 : decode cX10_waitsFor 26 = .ok (.getfield 385, 3) := by decide +kernel
theorem dX10_waitsFor_29 : decode cX10_waitsFor 29 = .ok (.iadd, 1) := by decide +kernel
theorem dX10_waitsFor_30 : decode cX10_waitsFor 30 = .ok (.bipush 60, 2) := by decide +kernel
theorem dX10_waitsFor_32 : decode cX10_waitsFor 32 = .ok (.irem, 1) := by decide +kernel
theorem dX10_waitsFor_33 : decode cX10_waitsFor 33 = .ok (.istore 5, 2) := by decide +kernel
theorem dX10_waitsFor_35 : decode cX10_waitsFor 35 = .ok (.aload_n 0, 1) := by decide +kernel
theorem dX10_waitsFor_36 : decode cX10_waitsFor 36 = .ok (.getfield 118, 3) := by decide +kernel
theorem dX10_waitsFor_39 : decode cX10_waitsFor 39 = .ok (.iload 5, 2) := by decide +kernel
theorem dX10_waitsFor_41 : decode cX10_waitsFor 41 = .ok (.iload_n 1, 1) := by decide +kernel
theorem dX10_waitsFor_42 : decode cX10_waitsFor 42 = .ok (.iastore, 1) := by decide +kernel
theorem dX10_waitsFor_43 : decode cX10_waitsFor 43 = .ok (.aload_n 0, 1) := by decide +kernel
theorem dX10_waitsFor_44 : decode cX10_waitsFor 44 = .ok (.getfield 121, 3) := by decide +kernel
theorem dX10_waitsFor_47 : decode cX10_waitsFor 47 = .ok (.iload 5, 2) := by decide +kernel
theorem dX10_waitsFor_49 : decode cX10_waitsFor 49 = .ok (.iload_n 2, 1) := by decide +kernel
theorem dX10_waitsFor_50 : decode cX10_waitsFor 50 = .ok (.iastore, 1) := by decide +kernel
theorem dX10_waitsFor_51 : decode cX10_waitsFor 51 = .ok (.aload_n 0, 1) := by decide +kernel
theorem dX10_waitsFor_52 : decode cX10_waitsFor 52 = .ok (.getfield 124, 3) := by decide +kernel
theorem dX10_waitsFor_55 : decode cX10_waitsFor 55 = .ok (.iload 5, 2) := by decide +kernel
theorem dX10_waitsFor_57 : decode cX10_waitsFor 57 = .ok (.iload_n 3, 1) := by decide +kernel
theorem dX10_waitsFor_58 : decode cX10_waitsFor 58 = .ok (.iastore, 1) := by decide +kernel
theorem dX10_waitsFor_59 : decode cX10_waitsFor 59 = .ok (.aload_n 0, 1) := by decide +kernel
theorem dX10_waitsFor_60 : decode cX10_waitsFor 60 = .ok (.getfield 127, 3) := by decide +kernel
theorem dX10_waitsFor_63 : decode cX10_waitsFor 63 = .ok (.iload 5, 2) := by decide +kernel
theorem dX10_waitsFor_65 : decode cX10_waitsFor 65 = .ok (.iload 4, 2) := by decide +kernel
theorem dX10_waitsFor_67 : decode cX10_waitsFor 67 = .ok (.iastore, 1) := by decide +kernel
theorem dX10_waitsFor_68 : decode cX10_waitsFor 68 = .ok (.aload_n 0, 1) := by decide +kernel
theorem dX10_waitsFor_69 : decode cX10_waitsFor 69 = .ok (.dup, 1) := by decide +kernel
theorem dX10_waitsFor_70 : decode cX10_waitsFor 70 = .ok (.getfield 385, 3) := by decide +kernel
theorem dX10_waitsFor_73 : decode cX10_waitsFor 73 = .ok (.iconst 1, 1) := by decide +kernel
theorem dX10_waitsFor_74 : decode cX10_waitsFor 74 = .ok (.iadd, 1) := by decide +kernel
theorem dX10_waitsFor_75 : decode cX10_waitsFor 75 = .ok (.putfield 385, 3) := by decide +kernel
theorem dX10_waitsFor_78 : decode cX10_waitsFor 78 = .ok (.aload_n 0, 1) := by decide +kernel
theorem dX10_waitsFor_79 : decode cX10_waitsFor 79 = .ok (.dup, 1) := by decide +kernel
theorem dX10_waitsFor_80 : decode cX10_waitsFor 80 = .ok (.getfield 394, 3) := by decide +kernel
theorem dX10_waitsFor_83 : decode cX10_waitsFor 83 = .ok (.iconst 1, 1) := by decide +kernel
theorem dX10_waitsFor_84 : decode cX10_waitsFor 84 = .ok (.iadd, 1) := by decide +kernel
theorem dX10_waitsFor_85 : decode cX10_waitsFor 85 = .ok (.putfield 394, 3) := by decide +kernel
theorem dX10_waitsFor_88 : decode cX10_waitsFor 88 = .ok (.return_, 1) := by decide +kernel
theorem ce_X10_waitsFor : CeV RX10 yX10_waitsFor cX10_waitsFor 6 none 4 := ⟨tb_1668, tp_91, tb_11, tb_1669, rfl, by decide, by decide, by decide +kernel⟩
set_option maxHeartbeats 4000000 in
set_option maxRecDepth 20000 in
theorem V_X10_waitsFor (l : Launch) (D : va_G) (A : Nat → Prop) (ad : Nat → Nat) (ns : List Nat) (I : MI) (L : ML) (G : MG) (a0 : Int32) (a1 : Int32) (a2 : Int32) (a3 : Int32) (hJ : SGM ns G) (hI : INV I) : Met l yX10_waitsFor (wd yX10_waitsFor cX10_waitsFor 6 none) ({ frames := 0, cells := 0, slots := 0, locals := 0 }) (va_Pc [.ref (ad (1000)), .int a0, .int a1, .int a2, .int a3] (PM D A ad ns I L G)) (va_Qv (fun u => ∃ I2 L2, u = (ad, ns, I2, L2, G) ∧ INV I2 ∧ Kp [(1045, 1049)] [(1000, 52), (1000, 54), (1000, 56)] I I2 ∧ ((I2 1000 52).toInt ≤ (I 1000 52).toInt + 1)) (BM D A) A) 0 0 A := by
  refine m_ofW (by decide) (Nat.le_of_ble_eq_true rfl) ?_
  intro p e s m below meth c ls args hC hE hM hA hS hl
  obtain ⟨hx, hb, hml, hown, hts, hr, hlocks, hin⟩ := hC
  have k0 : (0 : Int32).toInt = 0 := by decide
  have k1 : (1 : Int32).toInt = 1 := by decide
  have k60 : (60 : Int32).toInt = 60 := by decide
  have hK : Kp [(1045, 1049)] [(1000, 52), (1000, 54), (1000, 56)] I I := Kp.rf
  have hl : lv_has ls 6 [(0, .ref (ad (1000))), (1, .int (a0)), (2, .int (a1)), (3, .int (a2)), (4, .int (a3))] := hl
  refine lv_aload_n hx hb dX10_waitsFor_0 rfl (lv_at hl 0 rfl) ?_
  refine m_geti (1000) 52 hx hb hts hown hE oc10 hM hJ.1 rfl (by decide) rfl tb_1229 dX10_waitsFor_1 ?_
  have g1 := hI.get (1000) 52 (lo := 0) (hi := 60) rfl
  refine lv_bipush (v := (60)) hx hb dX10_waitsFor_4 (by decide) ?_
  refine lv_icmp_ne (tgt := 21) hx hb dX10_waitsFor_6 (by decide) (fun c2 => ?_) (fun c2 => ?_)
  · have hc2 := c2
    have q2 := q_ne hc2
    refine lv_aload_n hx hb dX10_waitsFor_21 rfl (lv_at hl 0 rfl) ?_
    refine m_geti (1000) 51 hx hb hts hown hE oc10 hM hJ.1 rfl (by decide) rfl tb_1228 dX10_waitsFor_22 ?_
    have g3 := hI.get (1000) 51 (lo := 0) (hi := 59) rfl
    refine lv_aload_n hx hb dX10_waitsFor_25 rfl (lv_at hl 0 rfl) ?_
    refine m_geti (1000) 52 hx hb hts hown hE oc10 hM hJ.1 rfl (by decide) rfl tb_1229 dX10_waitsFor_26 ?_
    refine lv_iadd hx hb dX10_waitsFor_29 ?_
    refine lv_topi (fun v4 ev4 => ?_)
    have tv4 := a_add ev4 (by omega) (by omega)
    refine lv_bipush (v := (60)) hx hb dX10_waitsFor_30 (by decide) ?_
    refine lv_irem hx hb dX10_waitsFor_32 (by decide) ?_
    refine lv_topi (fun v5 ev5 => ?_)
    have tv5 := a_rem (c := 60) ev5 (by decide) (by decide) (by omega)
    refine lv_istore (lv' := [(5, .int (v5)), (0, .ref (ad (1000))), (1, .int (a0)), (2, .int (a1)), (3, .int (a2)), (4, .int (a3))]) hx hb dX10_waitsFor_33 hl (by decide) rfl (fun ls hl => ?_)
    refine lv_aload_n hx hb dX10_waitsFor_35 rfl (lv_at hl 1 rfl) ?_
    refine m_getr (1000) 45 (1045) hx hb hts hown hE oc10 hM hJ.1 rfl (by decide) rfl (hJ.2 45 (by decide)).2 (by decide) tb_1222 dX10_waitsFor_36 ?_
    refine lv_iload hx hb dX10_waitsFor_39 (lv_at hl 0 rfl) ?_
    refine lv_iload_n hx hb dX10_waitsFor_41 rfl (lv_at hl 2 rfl) ?_
    refine m_iast (1045) hx hb hE hM hS (hJ.2 45 (by decide)).1 rfl (vp_in_iff.mpr (by omega)) dX10_waitsFor_42 (fun H locs I6 eI6 hM hS => ?_)
    subst eI6
    have hI := hI.putF (n := 1045) (k := ((v5).toNatClampNeg)) (v := a0) rfl
    have hK := hK.put (n := 1045) (k := ((v5).toNatClampNeg)) (v := a0) (by first | rfl | simp [inR])
    refine lv_aload_n hx hb dX10_waitsFor_43 rfl (lv_at hl 1 rfl) ?_
    refine m_getr (1000) 46 (1046) hx hb hts hown hE oc10 hM hJ.1 rfl (by decide) rfl (hJ.2 46 (by decide)).2 (by decide) tb_1223 dX10_waitsFor_44 ?_
    refine lv_iload hx hb dX10_waitsFor_47 (lv_at hl 0 rfl) ?_
    refine lv_iload_n hx hb dX10_waitsFor_49 rfl (lv_at hl 3 rfl) ?_
    refine m_iast (1046) hx hb hE hM hS (hJ.2 46 (by decide)).1 rfl (vp_in_iff.mpr (by omega)) dX10_waitsFor_50 (fun H locs I7 eI7 hM hS => ?_)
    subst eI7
    have hI := hI.putF (n := 1046) (k := ((v5).toNatClampNeg)) (v := a1) rfl
    have hK := hK.put (n := 1046) (k := ((v5).toNatClampNeg)) (v := a1) (by first | rfl | simp [inR])
    refine lv_aload_n hx hb dX10_waitsFor_51 rfl (lv_at hl 1 rfl) ?_
    refine m_getr (1000) 47 (1047) hx hb hts hown hE oc10 hM hJ.1 rfl (by decide) rfl (hJ.2 47 (by decide)).2 (by decide) tb_1224 dX10_waitsFor_52 ?_
    refine lv_iload hx hb dX10_waitsFor_55 (lv_at hl 0 rfl) ?_
    refine lv_iload_n hx hb dX10_waitsFor_57 rfl (lv_at hl 4 rfl) ?_
    refine m_iast (1047) hx hb hE hM hS (hJ.2 47 (by decide)).1 rfl (vp_in_iff.mpr (by omega)) dX10_waitsFor_58 (fun H locs I8 eI8 hM hS => ?_)
    subst eI8
    have hI := hI.putF (n := 1047) (k := ((v5).toNatClampNeg)) (v := a2) rfl
    have hK := hK.put (n := 1047) (k := ((v5).toNatClampNeg)) (v := a2) (by first | rfl | simp [inR])
    refine lv_aload_n hx hb dX10_waitsFor_59 rfl (lv_at hl 1 rfl) ?_
    refine m_getr (1000) 48 (1048) hx hb hts hown hE oc10 hM hJ.1 rfl (by decide) rfl (hJ.2 48 (by decide)).2 (by decide) tb_1225 dX10_waitsFor_60 ?_
    refine lv_iload hx hb dX10_waitsFor_63 (lv_at hl 0 rfl) ?_
    refine lv_iload hx hb dX10_waitsFor_65 (lv_at hl 5 rfl) ?_
    refine m_iast (1048) hx hb hE hM hS (hJ.2 48 (by decide)).1 rfl (vp_in_iff.mpr (by omega)) dX10_waitsFor_67 (fun H locs I9 eI9 hM hS => ?_)
    subst eI9
    have hI := hI.putF (n := 1048) (k := ((v5).toNatClampNeg)) (v := a3) rfl
    have hK := hK.put (n := 1048) (k := ((v5).toNatClampNeg)) (v := a3) (by first | rfl | simp [inR])
    refine lv_aload_n hx hb dX10_waitsFor_68 rfl (lv_at hl 1 rfl) ?_
    refine lv_dup hx hb dX10_waitsFor_69 rfl ?_
    refine m_geti (1000) 52 hx hb hts hown hE oc10 hM hJ.1 rfl (by decide) rfl tb_1229 dX10_waitsFor_70 ?_
    have z10 : (u2 (u2 (u2 (u2 I (1045) ((v5).toNatClampNeg) (a0)) (1046) ((v5).toNatClampNeg) (a1)) (1047) ((v5).toNatClampNeg) (a2)) (1048) ((v5).toNatClampNeg) (a3)) (1000) 52 = I (1000) 52 := (show (u2 (u2 (u2 (u2 I (1045) ((v5).toNatClampNeg) (a0)) (1046) ((v5).toNatClampNeg) (a1)) (1047) ((v5).toNatClampNeg) (a2)) (1048) ((v5).toNatClampNeg) (a3)) (1000) 52 = I (1000) 52 from by simp [u2_v])
    rw [z10]
    refine lv_iconst (v := (1)) hx hb dX10_waitsFor_73 (by decide) ?_
    refine lv_iadd hx hb dX10_waitsFor_74 ?_
    refine lv_topi (fun v11 ev11 => ?_)
    have tv11 := a_add ev11 (by omega) (by omega)
    refine m_puti (1000) 52 hx hb hts hown hE oc10 hM hS hJ.1 rfl (by decide) rfl rfl rfl rfl tb_1229 dX10_waitsFor_75 (fun H locs I12 eI12 hM hS => ?_)
    subst eI12
    have hI := hI.put (n := 1000) (k := 52) (v := v11) (lo := 0) (hi := 60) rfl (by first | omega | decide)
    have hK := hK.put (n := 1000) (k := 52) (v := v11) (by first | rfl | simp [inR])
    refine lv_aload_n hx hb dX10_waitsFor_78 rfl (lv_at hl 1 rfl) ?_
    refine lv_dup hx hb dX10_waitsFor_79 rfl ?_
    refine m_geti (1000) 56 hx hb hts hown hE oc10 hM hJ.1 rfl (by decide) rfl tb_1233 dX10_waitsFor_80 ?_
    have z13 : (u2 (u2 (u2 (u2 (u2 I (1045) ((v5).toNatClampNeg) (a0)) (1046) ((v5).toNatClampNeg) (a1)) (1047) ((v5).toNatClampNeg) (a2)) (1048) ((v5).toNatClampNeg) (a3)) (1000) 52 (v11)) (1000) 56 = I (1000) 56 := (show (u2 (u2 (u2 (u2 (u2 I (1045) ((v5).toNatClampNeg) (a0)) (1046) ((v5).toNatClampNeg) (a1)) (1047) ((v5).toNatClampNeg) (a2)) (1048) ((v5).toNatClampNeg) (a3)) (1000) 52 (v11)) (1000) 56 = I (1000) 56 from by simp [u2_v])
    rw [z13]
    refine lv_iconst (v := (1)) hx hb dX10_waitsFor_83 (by decide) ?_
    refine lv_iadd hx hb dX10_waitsFor_84 ?_
    refine lv_topi (fun v14 ev14 => ?_)
    refine m_puti (1000) 56 hx hb hts hown hE oc10 hM hS hJ.1 rfl (by decide) rfl rfl rfl rfl tb_1233 dX10_waitsFor_85 (fun H locs I15 eI15 hM hS => ?_)
    subst eI15
    have hI := hI.putF (n := 1000) (k := 56) (v := v14) rfl
    have hK := hK.put (n := 1000) (k := 56) (v := v14) (by first | rfl | simp [inR])
    exact m_vret hx hb hr hlocks hM hS (Nat.le_of_ble_eq_true rfl) (Nat.le_of_ble_eq_true rfl) ⟨_, _, rfl, hI, hK, (by have := congrArg Int32.toInt ((show (u2 (u2 (u2 (u2 (u2 (u2 I (1045) ((v5).toNatClampNeg) (a0)) (1046) ((v5).toNatClampNeg) (a1)) (1047) ((v5).toNatClampNeg) (a2)) (1048) ((v5).toNatClampNeg) (a3)) (1000) 52 (v11)) (1000) 56 (v14)) (1000) 52 = v11 from by simp [u2_v])); omega)⟩ dX10_waitsFor_88
  · have hc2 := c2
    have q2 := q_eq hc2
    refine lv_aload_n hx hb dX10_waitsFor_9 rfl (lv_at hl 0 rfl) ?_
    refine lv_dup hx hb dX10_waitsFor_10 rfl ?_
    refine m_geti (1000) 54 hx hb hts hown hE oc10 hM hJ.1 rfl (by decide) rfl tb_1231 dX10_waitsFor_11 ?_
    refine lv_iload hx hb dX10_waitsFor_14 (lv_at hl 4 rfl) ?_
    refine lv_iadd hx hb dX10_waitsFor_16 ?_
    refine lv_topi (fun v16 ev16 => ?_)
    refine m_puti (1000) 54 hx hb hts hown hE oc10 hM hS hJ.1 rfl (by decide) rfl rfl rfl rfl tb_1231 dX10_waitsFor_17 (fun H locs I17 eI17 hM hS => ?_)
    subst eI17
    have hI := hI.putF (n := 1000) (k := 54) (v := v16) rfl
    have hK := hK.put (n := 1000) (k := 54) (v := v16) (by first | rfl | simp [inR])
    exact m_vret hx hb hr hlocks hM hS (Nat.le_of_ble_eq_true rfl) (Nat.le_of_ble_eq_true rfl) ⟨_, _, rfl, hI, hK, (by have := congrArg Int32.toInt ((show (u2 I (1000) 54 (v16)) (1000) 52 = I (1000) 52 from by simp [u2_v])); omega)⟩ dX10_waitsFor_20
theorem dX10_told_0 : decode cX10_told 0 = .ok (.aload_n 0, 1) := by decide +kernel
theorem dX10_told_1 : decode cX10_told 1 = .ok (.getfield 397, 3) := by decide +kernel
theorem dX10_told_4 : decode cX10_told 4 = .ok (.ifCond .eq 12, 3) := by decide +kernel
theorem dX10_told_7 : decode cX10_told 7 = .ok (.aload_n 0, 1) := by decide +kernel
theorem dX10_told_8 : decode cX10_told 8 = .ok (.getfield 139, 3) := by decide +kernel
theorem dX10_told_11 : decode cX10_told 11 = .ok (.iload_n 1, 1) := by decide +kernel
theorem dX10_told_12 : decode cX10_told 12 = .ok (.baload, 1) := by decide +kernel
theorem dX10_told_13 : decode cX10_told 13 = .ok (.ifCond .eq 5, 3) := by decide +kernel
theorem dX10_told_16 : decode cX10_told 16 = .ok (.iload_n 2, 1) := by decide +kernel
theorem dX10_told_17 : decode cX10_told 17 = .ok (.ireturn, 1) := by decide +kernel
theorem dX10_told_18 : decode cX10_told 18 = .ok (.aload_n 0, 1) := by decide +kernel
theorem dX10_told_19 : decode cX10_told 19 = .ok (.getfield 139, 3) := by decide +kernel
theorem dX10_told_22 : decode cX10_told 22 = .ok (.iload_n 1, 1) := by decide +kernel
theorem dX10_told_23 : decode cX10_told 23 = .ok (.iconst 1, 1) := by decide +kernel
theorem dX10_told_24 : decode cX10_told 24 = .ok (.bastore, 1) := by decide +kernel
theorem dX10_told_25 : decode cX10_told 25 = .ok (.aload_n 0, 1) := by decide +kernel
theorem dX10_told_26 : decode cX10_told 26 = .ok (.dup, 1) := by decide +kernel
theorem dX10_told_27 : decode cX10_told 27 = .ok (.getfield 401, 3) := by decide +kernel
theorem dX10_told_30 : decode cX10_told 30 = .ok (.iconst 1, 1) := by decide +kernel
theorem dX10_told_31 : decode cX10_told 31 = .ok (.iadd, 1) := by decide +kernel
theorem dX10_told_32 : decode cX10_told 32 = .ok (.putfield 401, 3) := by decide +kernel
theorem dX10_told_35 : decode cX10_told 35 = .ok (.aload_n 0, 1) := by decide +kernel
theorem dX10_told_36 : decode cX10_told 36 = .ok (.getfield 146, 3) := by decide +kernel
theorem dX10_told_39 : decode cX10_told 39 = .ok (.iload_n 1, 1) := by decide +kernel
theorem dX10_told_40 : decode cX10_told 40 = .ok (.iload_n 2, 1) := by decide +kernel
theorem dX10_told_41 : decode cX10_told 41 = .ok (.iastore, 1) := by decide +kernel
theorem dX10_told_42 : decode cX10_told 42 = .ok (.aload_n 0, 1) := by decide +kernel
theorem dX10_told_43 : decode cX10_told 43 = .ok (.getfield 149, 3) := by decide +kernel
theorem dX10_told_46 : decode cX10_told 46 = .ok (.iload_n 1, 1) := by decide +kernel
theorem dX10_told_47 : decode cX10_told 47 = .ok (.aload_n 0, 1) := by decide +kernel
theorem dX10_told_48 : decode cX10_told 48 = .ok (.getfield 401, 3) := by decide +kernel
theorem dX10_told_51 : decode cX10_told 51 = .ok (.iastore, 1) := by decide +kernel
theorem dX10_told_52 : decode cX10_told 52 = .ok (.iload_n 1, 1) := by decide +kernel
theorem dX10_told_53 : decode cX10_told 53 = .ok (.aload_n 0, 1) := by decide +kernel
theorem dX10_told_54 : decode cX10_told 54 = .ok (.getfield 136, 3) := by decide +kernel
theorem dX10_told_57 : decode cX10_told 57 = .ok (.if_icmp .ne 12, 3) := by decide +kernel
theorem dX10_told_60 : decode cX10_told 60 = .ok (.aload_n 0, 1) := by decide +kernel
theorem dX10_told_61 : decode cX10_told 61 = .ok (.getfield 55, 3) := by decide +kernel
theorem dX10_told_64 : decode cX10_told 64 = .ok (.iload_n 1, 1) := by decide +kernel
theorem dX10_told_65 : decode cX10_told 65 = .ok (.iaload, 1) := by decide +kernel
theorem dX10_told_66 : decode cX10_told 66 = .ok (.goto 4, 3) := by decide +kernel
theorem dX10_told_69 : decode cX10_told 69 = .ok (.iload_n 2, 1) := by decide +kernel
theorem dX10_told_70 : decode cX10_told 70 = .ok (.ireturn, 1) := by decide +kernel
theorem ce_X10_told : CeV RX10 yX10_told cX10_told 3 (some .int) 2 := ⟨tb_1658, tp_90, tb_11, tb_1659, rfl, by decide, by decide, by decide +kernel⟩
set_option maxHeartbeats 4000000 in
set_option maxRecDepth 20000 in
theorem V_X10_told (l : Launch) (D : va_G) (A : Nat → Prop) (ad : Nat → Nat) (ns : List Nat) (I : MI) (L : ML) (G : MG) (a0 : Int32) (a1 : Int32) (hJ : SGM ns G) (hI : INV I) (ha0 : 0 ≤ a0.toInt ∧ a0.toInt ≤ 23) : Met l yX10_told (wd yX10_told cX10_told 3 (some .int)) ({ frames := 0, cells := 0, slots := 0, locals := 0 }) (va_Pc [.ref (ad (1000)), .int a0, .int a1] (PM D A ad ns I L G)) (va_Qi (fun r u => ∃ I2 L2, u = (ad, ns, I2, L2, G) ∧ INV I2 ∧ Kp [(1058, 1059), (1061, 1063)] [(1000, 63)] I I2) (BM D A) A) 0 0 A := by
  refine m_ofW (by decide) (Nat.le_of_ble_eq_true rfl) ?_
  intro p e s m below meth c ls args hC hE hM hA hS hl
  obtain ⟨hx, hb, hml, hown, hts, hr, hlocks, hin⟩ := hC
  have k0 : (0 : Int32).toInt = 0 := by decide
  have k1 : (1 : Int32).toInt = 1 := by decide
  have hK : Kp [(1058, 1059), (1061, 1063)] [(1000, 63)] I I := Kp.rf
  have hl : lv_has ls 3 [(0, .ref (ad (1000))), (1, .int (a0)), (2, .int (a1))] := hl
  refine lv_aload_n hx hb dX10_told_0 rfl (lv_at hl 0 rfl) ?_
  refine m_geti (1000) 59 hx hb hts hown hE oc10 hM hJ.1 rfl (by decide) rfl tb_1236 dX10_told_1 ?_
  have g1 := hI.get (1000) 59 (lo := 0) (hi := 1) rfl
  refine lv_if_eq (tgt := 16) hx hb dX10_told_4 (by decide) (fun c2 => ?_) (fun c2 => ?_)
  · have hc2 := c2
    have q2 := q_eq hc2
    refine lv_iload_n hx hb dX10_told_16 rfl (lv_at hl 2 rfl) ?_
    exact m_iret hx hb hr hlocks hM hS (Nat.le_of_ble_eq_true rfl) (Nat.le_of_ble_eq_true rfl) ⟨_, _, rfl, hI, hK⟩ dX10_told_17
  · have hc2 := c2
    have q2 := q_ne hc2
    refine lv_aload_n hx hb dX10_told_7 rfl (lv_at hl 0 rfl) ?_
    refine m_getr (1000) 58 (1058) hx hb hts hown hE oc10 hM hJ.1 rfl (by decide) rfl (hJ.2 58 (by decide)).2 (by decide) tb_1235 dX10_told_8 ?_
    refine lv_iload_n hx hb dX10_told_11 rfl (lv_at hl 1 rfl) ?_
    refine m_zald (1058) hx hb hE hM (hJ.2 58 (by decide)).1 rfl (vp_in_iff.mpr (by omega)) dX10_told_12 ?_
    have g3 := hI.get (1058) ((a0).toNatClampNeg) (lo := 0) (hi := 1) rfl
    refine lv_if_eq (tgt := 18) hx hb dX10_told_13 (by decide) (fun c4 => ?_) (fun c4 => ?_)
    · have hc4 := c4
      have q4 := q_eq hc4
      refine lv_aload_n hx hb dX10_told_18 rfl (lv_at hl 0 rfl) ?_
      refine m_getr (1000) 58 (1058) hx hb hts hown hE oc10 hM hJ.1 rfl (by decide) rfl (hJ.2 58 (by decide)).2 (by decide) tb_1235 dX10_told_19 ?_
      refine lv_iload_n hx hb dX10_told_22 rfl (lv_at hl 1 rfl) ?_
      refine lv_iconst (v := (1)) hx hb dX10_told_23 (by decide) ?_
      refine m_zast (1058) hx hb hE hM hS (hJ.2 58 (by decide)).1 rfl (vp_in_iff.mpr (by omega)) dX10_told_24 (fun H locs I5 eI5 hM hS => ?_)
      subst eI5
      have hI := hI.put (n := 1058) (k := ((a0).toNatClampNeg)) (v := vp_nar .boolean (1)) (lo := 0) (hi := 1) rfl (nar_bool _)
      have hK := hK.put (n := 1058) (k := ((a0).toNatClampNeg)) (v := vp_nar .boolean (1)) (by first | rfl | simp [inR])
      refine lv_aload_n hx hb dX10_told_25 rfl (lv_at hl 0 rfl) ?_
      refine lv_dup hx hb dX10_told_26 rfl ?_
      refine m_geti (1000) 63 hx hb hts hown hE oc10 hM hJ.1 rfl (by decide) rfl tb_1240 dX10_told_27 ?_
      have z6 : (u2 I (1058) ((a0).toNatClampNeg) (vp_nar .boolean (1))) (1000) 63 = I (1000) 63 := (show (u2 I (1058) ((a0).toNatClampNeg) (vp_nar .boolean (1))) (1000) 63 = I (1000) 63 from by simp [u2_v])
      rw [z6]
      refine lv_iconst (v := (1)) hx hb dX10_told_30 (by decide) ?_
      refine lv_iadd hx hb dX10_told_31 ?_
      refine lv_topi (fun v7 ev7 => ?_)
      refine m_puti (1000) 63 hx hb hts hown hE oc10 hM hS hJ.1 rfl (by decide) rfl rfl rfl rfl tb_1240 dX10_told_32 (fun H locs I8 eI8 hM hS => ?_)
      subst eI8
      have hI := hI.putF (n := 1000) (k := 63) (v := v7) rfl
      have hK := hK.put (n := 1000) (k := 63) (v := v7) (by first | rfl | simp [inR])
      refine lv_aload_n hx hb dX10_told_35 rfl (lv_at hl 0 rfl) ?_
      refine m_getr (1000) 61 (1061) hx hb hts hown hE oc10 hM hJ.1 rfl (by decide) rfl (hJ.2 61 (by decide)).2 (by decide) tb_1238 dX10_told_36 ?_
      refine lv_iload_n hx hb dX10_told_39 rfl (lv_at hl 1 rfl) ?_
      refine lv_iload_n hx hb dX10_told_40 rfl (lv_at hl 2 rfl) ?_
      refine m_iast (1061) hx hb hE hM hS (hJ.2 61 (by decide)).1 rfl (vp_in_iff.mpr (by omega)) dX10_told_41 (fun H locs I9 eI9 hM hS => ?_)
      subst eI9
      have hI := hI.putF (n := 1061) (k := ((a0).toNatClampNeg)) (v := a1) rfl
      have hK := hK.put (n := 1061) (k := ((a0).toNatClampNeg)) (v := a1) (by first | rfl | simp [inR])
      refine lv_aload_n hx hb dX10_told_42 rfl (lv_at hl 0 rfl) ?_
      refine m_getr (1000) 62 (1062) hx hb hts hown hE oc10 hM hJ.1 rfl (by decide) rfl (hJ.2 62 (by decide)).2 (by decide) tb_1239 dX10_told_43 ?_
      refine lv_iload_n hx hb dX10_told_46 rfl (lv_at hl 1 rfl) ?_
      refine lv_aload_n hx hb dX10_told_47 rfl (lv_at hl 0 rfl) ?_
      refine m_geti (1000) 63 hx hb hts hown hE oc10 hM hJ.1 rfl (by decide) rfl tb_1240 dX10_told_48 ?_
      have z10 : (u2 (u2 (u2 I (1058) ((a0).toNatClampNeg) (vp_nar .boolean (1))) (1000) 63 (v7)) (1061) ((a0).toNatClampNeg) (a1)) (1000) 63 = v7 := (show (u2 (u2 (u2 I (1058) ((a0).toNatClampNeg) (vp_nar .boolean (1))) (1000) 63 (v7)) (1061) ((a0).toNatClampNeg) (a1)) (1000) 63 = v7 from by simp [u2_v])
      rw [z10]
      refine m_iast (1062) hx hb hE hM hS (hJ.2 62 (by decide)).1 rfl (vp_in_iff.mpr (by omega)) dX10_told_51 (fun H locs I11 eI11 hM hS => ?_)
      subst eI11
      have hI := hI.putF (n := 1062) (k := ((a0).toNatClampNeg)) (v := v7) rfl
      have hK := hK.put (n := 1062) (k := ((a0).toNatClampNeg)) (v := v7) (by first | rfl | simp [inR])
      refine lv_iload_n hx hb dX10_told_52 rfl (lv_at hl 1 rfl) ?_
      refine lv_aload_n hx hb dX10_told_53 rfl (lv_at hl 0 rfl) ?_
      refine m_geti (1000) 57 hx hb hts hown hE oc10 hM hJ.1 rfl (by decide) rfl tb_1234 dX10_told_54 ?_
      have z12 : (u2 (u2 (u2 (u2 I (1058) ((a0).toNatClampNeg) (vp_nar .boolean (1))) (1000) 63 (v7)) (1061) ((a0).toNatClampNeg) (a1)) (1062) ((a0).toNatClampNeg) (v7)) (1000) 57 = I (1000) 57 := (show (u2 (u2 (u2 (u2 I (1058) ((a0).toNatClampNeg) (vp_nar .boolean (1))) (1000) 63 (v7)) (1061) ((a0).toNatClampNeg) (a1)) (1062) ((a0).toNatClampNeg) (v7)) (1000) 57 = I (1000) 57 from by simp [u2_v])
      rw [z12]
      refine lv_icmp_ne (tgt := 69) hx hb dX10_told_57 (by decide) (fun c13 => ?_) (fun c13 => ?_)
      · have hc13 := c13
        have q13 := q_ne hc13
        refine lv_iload_n hx hb dX10_told_69 rfl (lv_at hl 2 rfl) ?_
        exact m_iret hx hb hr hlocks hM hS (Nat.le_of_ble_eq_true rfl) (Nat.le_of_ble_eq_true rfl) ⟨_, _, rfl, hI, hK⟩ dX10_told_70
      · have hc13 := c13
        have q13 := q_eq hc13
        refine lv_aload_n hx hb dX10_told_60 rfl (lv_at hl 0 rfl) ?_
        refine m_getr (1000) 16 (1016) hx hb hts hown hE oc10 hM hJ.1 rfl (by decide) rfl (hJ.2 16 (by decide)).2 (by decide) tb_1193 dX10_told_61 ?_
        refine lv_iload_n hx hb dX10_told_64 rfl (lv_at hl 1 rfl) ?_
        refine m_iald (1016) hx hb hE hM (hJ.2 16 (by decide)).1 rfl (vp_in_iff.mpr (by omega)) dX10_told_65 ?_
        have z14 : (u2 (u2 (u2 (u2 I (1058) ((a0).toNatClampNeg) (vp_nar .boolean (1))) (1000) 63 (v7)) (1061) ((a0).toNatClampNeg) (a1)) (1062) ((a0).toNatClampNeg) (v7)) (1016) (a0).toNatClampNeg = I (1016) ((a0).toNatClampNeg) := (show (u2 (u2 (u2 (u2 I (1058) ((a0).toNatClampNeg) (vp_nar .boolean (1))) (1000) 63 (v7)) (1061) ((a0).toNatClampNeg) (a1)) (1062) ((a0).toNatClampNeg) (v7)) (1016) ((a0).toNatClampNeg) = I (1016) ((a0).toNatClampNeg) from by simp [u2_v])
        rw [z14]
        refine lv_goto (tgt := 70) hx hb dX10_told_66 (by decide) ?_
        exact m_iret hx hb hr hlocks hM hS (Nat.le_of_ble_eq_true rfl) (Nat.le_of_ble_eq_true rfl) ⟨_, _, rfl, hI, hK⟩ dX10_told_70
    · have hc4 := c4
      have q4 := q_ne hc4
      refine lv_iload_n hx hb dX10_told_16 rfl (lv_at hl 2 rfl) ?_
      exact m_iret hx hb hr hlocks hM hS (Nat.le_of_ble_eq_true rfl) (Nat.le_of_ble_eq_true rfl) ⟨_, _, rfl, hI, hK⟩ dX10_told_17
theorem dX10_goes_0 : decode cX10_goes 0 = .ok (.iload_n 1, 1) := by decide +kernel
theorem dX10_goes_1 : decode cX10_goes 1 = .ok (.istore 5, 2) := by decide +kernel
theorem dX10_goes_3 : decode cX10_goes 3 = .ok (.iload_n 2, 1) := by decide +kernel
theorem dX10_goes_4 : decode cX10_goes 4 = .ok (.istore 6, 2) := by decide +kernel
theorem dX10_goes_6 : decode cX10_goes 6 = .ok (.iload_n 3, 1) := by decide +kernel
theorem dX10_goes_7 : decode cX10_goes 7 = .ok (.istore 7, 2) := by decide +kernel
theorem dX10_goes_9 : decode cX10_goes 9 = .ok (.iload 4, 2) := by decide +kernel
theorem dX10_goes_11 : decode cX10_goes 11 = .ok (.istore 8, 2) := by decide +kernel
theorem dX10_goes_13 : decode cX10_goes 13 = .ok (.iload 8, 2) := by decide +kernel
theorem dX10_goes_15 : decode cX10_goes 15 = .ok (.ifCond .le 413, 3) := by decide +kernel
theorem dX10_goes_18 : decode cX10_goes 18 = .ok (.aload_n 0, 1) := by decide +kernel
theorem dX10_goes_19 : decode cX10_goes 19 = .ok (.getfield 407, 3) := by decide +kernel
theorem dX10_goes_22 : decode cX10_goes 22 = .ok (.sipush 2000, 3) := by decide +kernel
theorem dX10_goes_25 : decode cX10_goes 25 = .ok (.if_icmp .ne 15, 3) := by decide +kernel
theorem dX10_goes_28 : decode cX10_goes 28 = .ok (.aload_n 0, 1) := by decide +kernel
theorem dX10_goes_29 : decode cX10_goes 29 = .ok (.dup, 1) := by decide +kernel
theorem dX10_goes_30 : decode cX10_goes 30 = .ok (.getfield 388, 3) := by decide +kernel
theorem dX10_goes_33 : decode cX10_goes 33 = .ok (.iload 8, 2) := by decide +kernel
theorem dX10_goes_35 : decode cX10_goes 35 = .ok (.iadd, 1) := by decide +kernel
theorem dX10_goes_36 : decode cX10_goes 36 = .ok (.putfield 388, 3) := by decide +kernel
theorem dX10_goes_39 : decode cX10_goes 39 = .ok (.return_, 1) := by decide +kernel
theorem dX10_goes_40 : decode cX10_goes 40 = .ok (.aload_n 0, 1) := by decide +kernel
theorem dX10_goes_41 : decode cX10_goes 41 = .ok (.dup, 1) := by decide +kernel
theorem dX10_goes_42 : decode cX10_goes 42 = .ok (.getfield 407, 3) := by decide +kernel
theorem dX10_goes_45 : decode cX10_goes 45 = .ok (.iconst 1, 1) := by decide +kernel
theorem dX10_goes_46 : decode cX10_goes 46 = .ok (.iadd, 1) := by decide +kernel
theorem dX10_goes_47 : decode cX10_goes 47 = .ok (.putfield 407, 3) := by decide +kernel
theorem dX10_goes_50 : decode cX10_goes 50 = .ok (.aload_n 0, 1) := by decide +kernel
theorem dX10_goes_51 : decode cX10_goes 51 = .ok (.iload 5, 2) := by decide +kernel
theorem dX10_goes_53 : decode cX10_goes 53 = .ok (.iload 6, 2) := by decide +kernel
theorem dX10_goes_55 : decode cX10_goes 55 = .ok (.invokevirtual 196, 3) := by decide +kernel
theorem dX10_goes_58 : decode cX10_goes 58 = .ok (.ifCond .eq 20, 3) := by decide +kernel
theorem dX10_goes_61 : decode cX10_goes 61 = .ok (.aload_n 0, 1) := by decide +kernel
theorem dX10_goes_62 : decode cX10_goes 62 = .ok (.getfield 13, 3) := by decide +kernel
theorem dX10_goes_65 : decode cX10_goes 65 = .ok (.bipush 24, 2) := by decide +kernel
theorem dX10_goes_67 : decode cX10_goes 67 = .ok (.iload 6, 2) := by decide +kernel
theorem dX10_goes_69 : decode cX10_goes 69 = .ok (.imul, 1) := by decide +kernel
theorem dX10_goes_70 : decode cX10_goes 70 = .ok (.iload 5, 2) := by decide +kernel
theorem dX10_goes_72 : decode cX10_goes 72 = .ok (.iadd, 1) := by decide +kernel
theorem dX10_goes_73 : decode cX10_goes 73 = .ok (.iaload, 1) := by decide +kernel
theorem dX10_goes_74 : decode cX10_goes 74 = .ok (.iconst 1, 1) := by decide +kernel
theorem dX10_goes_75 : decode cX10_goes 75 = .ok (.if_icmp .ne 15, 3) := by decide +kernel
theorem dX10_goes_78 : decode cX10_goes 78 = .ok (.aload_n 0, 1) := by decide +kernel
theorem dX10_goes_79 : decode cX10_goes 79 = .ok (.dup, 1) := by decide +kernel
theorem dX10_goes_80 : decode cX10_goes 80 = .ok (.getfield 388, 3) := by decide +kernel
theorem dX10_goes_83 : decode cX10_goes 83 = .ok (.iload 8, 2) := by decide +kernel
theorem dX10_goes_85 : decode cX10_goes 85 = .ok (.iadd, 1) := by decide +kernel
theorem dX10_goes_86 : decode cX10_goes 86 = .ok (.putfield 388, 3) := by decide +kernel
theorem dX10_goes_89 : decode cX10_goes 89 = .ok (.return_, 1) := by decide +kernel
theorem dX10_goes_90 : decode cX10_goes 90 = .ok (.bipush 24, 2) := by decide +kernel
theorem dX10_goes_92 : decode cX10_goes 92 = .ok (.iload 6, 2) := by decide +kernel
theorem dX10_goes_94 : decode cX10_goes 94 = .ok (.imul, 1) := by decide +kernel
theorem dX10_goes_95 : decode cX10_goes 95 = .ok (.iload 5, 2) := by decide +kernel
theorem dX10_goes_97 : decode cX10_goes 97 = .ok (.iadd, 1) := by decide +kernel
theorem dX10_goes_98 : decode cX10_goes 98 = .ok (.istore 9, 2) := by decide +kernel
theorem dX10_goes_100 : decode cX10_goes 100 = .ok (.iload 8, 2) := by decide +kernel
theorem dX10_goes_102 : decode cX10_goes 102 = .ok (.i2l, 1) := by decide +kernel
theorem dX10_goes_103 : decode cX10_goes 103 = .ok (.aload_n 0, 1) := by decide +kernel
theorem dX10_goes_104 : decode cX10_goes 104 = .ok (.getfield 7, 3) := by decide +kernel
theorem dX10_goes_107 : decode cX10_goes 107 = .ok (.iconst 4, 1) := by decide +kernel
theorem dX10_goes_108 : decode cX10_goes 108 = .ok (.iaload, 1) := by decide +kernel
theorem dX10_goes_109 : decode cX10_goes 109 = .ok (.i2l, 1) := by decide +kernel
theorem dX10_goes_110 : decode cX10_goes 110 = .ok (.lmul, 1) := by decide +kernel
theorem dX10_goes_111 : decode cX10_goes 111 = .ok (.ldc2_w 204, 3) := by decide +kernel
theorem dX10_goes_114 : decode cX10_goes 114 = .ok (.ldiv, 1) := by decide +kernel
theorem dX10_goes_115 : decode cX10_goes 115 = .ok (.l2i, 1) := by decide +kernel
theorem dX10_goes_116 : decode cX10_goes 116 = .ok (.istore 10, 2) := by decide +kernel
theorem dX10_goes_118 : decode cX10_goes 118 = .ok (.aload_n 0, 1) := by decide +kernel
theorem dX10_goes_119 : decode cX10_goes 119 = .ok (.dup, 1) := by decide +kernel
theorem dX10_goes_120 : decode cX10_goes 120 = .ok (.getfield 410, 3) := by decide +kernel
theorem dX10_goes_123 : decode cX10_goes 123 = .ok (.iload 10, 2) := by decide +kernel
theorem dX10_goes_125 : decode cX10_goes 125 = .ok (.iadd, 1) := by decide +kernel
theorem dX10_goes_126 : decode cX10_goes 126 = .ok (.putfield 410, 3) := by decide +kernel
theorem dX10_goes_129 : decode cX10_goes 129 = .ok (.iload 8, 2) := by decide +kernel
theorem dX10_goes_131 : decode cX10_goes 131 = .ok (.iload 10, 2) := by decide +kernel
theorem dX10_goes_133 : decode cX10_goes 133 = .ok (.isub, 1) := by decide +kernel
theorem dX10_goes_134 : decode cX10_goes 134 = .ok (.istore 8, 2) := by decide +kernel
theorem dX10_goes_136 : decode cX10_goes 136 = .ok (.aload_n 0, 1) := by decide +kernel
theorem dX10_goes_137 : decode cX10_goes 137 = .ok (.getfield 130, 3) := by decide +kernel
theorem dX10_goes_140 : decode cX10_goes 140 = .ok (.iload 9, 2) := by decide +kernel
theorem dX10_goes_142 : decode cX10_goes 142 = .ok (.iload 8, 2) := by decide +kernel
theorem dX10_goes_144 : decode cX10_goes 144 = .ok (.aload_n 0, 1) := by decide +kernel
theorem dX10_goes_145 : decode cX10_goes 145 = .ok (.getfield 130, 3) := by decide +kernel
theorem dX10_goes_148 : decode cX10_goes 148 = .ok (.iload 9, 2) := by decide +kernel
theorem dX10_goes_150 : decode cX10_goes 150 = .ok (.iaload, 1) := by decide +kernel
theorem dX10_goes_151 : decode cX10_goes 151 = .ok (.if_icmp .le 8, 3) := by decide +kernel
theorem dX10_goes_154 : decode cX10_goes 154 = .ok (.iload 8, 2) := by decide +kernel
theorem dX10_goes_156 : decode cX10_goes 156 = .ok (.goto 10, 3) := by decide +kernel
theorem dX10_goes_159 : decode cX10_goes 159 = .ok (.aload_n 0, 1) := by decide +kernel
theorem dX10_goes_160 : decode cX10_goes 160 = .ok (.getfield 130, 3) := by decide +kernel
theorem dX10_goes_163 : decode cX10_goes 163 = .ok (.iload 9, 2) := by decide +kernel
theorem dX10_goes_165 : decode cX10_goes 165 = .ok (.iaload, 1) := by decide +kernel
theorem dX10_goes_166 : decode cX10_goes 166 = .ok (.iastore, 1) := by decide +kernel
theorem dX10_goes_167 : decode cX10_goes 167 = .ok (.aload_n 0, 1) := by decide +kernel
theorem dX10_goes_168 : decode cX10_goes 168 = .ok (.iload 5, 2) := by decide +kernel
theorem dX10_goes_170 : decode cX10_goes 170 = .ok (.iload 6, 2) := by decide +kernel
theorem dX10_goes_172 : decode cX10_goes 172 = .ok (.invokevirtual 413, 3) := by decide +kernel
theorem dX10_goes_175 : decode cX10_goes 175 = .ok (.istore 11, 2) := by decide +kernel
theorem dX10_goes_177 : decode cX10_goes 177 = .ok (.iload 11, 2) := by decide +kernel
theorem dX10_goes_179 : decode cX10_goes 179 = .ok (.iconst (-1), 1) := by decide +kernel
theorem dX10_goes_180 : decode cX10_goes 180 = .ok (.if_icmp .eq 41, 3) := by decide +kernel
theorem dX10_goes_183 : decode cX10_goes 183 = .ok (.iload 8, 2) := by decide +kernel
theorem dX10_goes_185 : decode cX10_goes 185 = .ok (.i2l, 1) := by decide +kernel
theorem dX10_goes_186 : decode cX10_goes 186 = .ok (.aload_n 0, 1) := by decide +kernel
theorem dX10_goes_187 : decode cX10_goes 187 = .ok (.getfield 70, 3) := by decide +kernel
theorem dX10_goes_190 : decode cX10_goes 190 = .ok (.iload 11, 2) := by decide +kernel
theorem dX10_goes_192 : decode cX10_goes 192 = .ok (.iaload, 1) := by decide +kernel
theorem dX10_goes_193 : decode cX10_goes 193 = .ok (.i2l, 1) := by decide +kernel
theorem dX10_goes_194 : decode cX10_goes 194 = .ok (.lmul, 1) := by decide +kernel
theorem dX10_goes_195 : decode cX10_goes 195 = .ok (.ldc2_w 204, 3) := by decide +kernel
theorem dX10_goes_198 : decode cX10_goes 198 = .ok (.ldiv, 1) := by decide +kernel
theorem dX10_goes_199 : decode cX10_goes 199 = .ok (.l2i, 1) := by decide +kernel
theorem dX10_goes_200 : decode cX10_goes 200 = .ok (.istore 10, 2) := by decide +kernel
theorem dX10_goes_202 : decode cX10_goes 202 = .ok (.aload_n 0, 1) := by decide +kernel
theorem dX10_goes_203 : decode cX10_goes 203 = .ok (.getfield 133, 3) := by decide +kernel
theorem dX10_goes_206 : decode cX10_goes 206 = .ok (.iload 11, 2) := by decide +kernel
theorem dX10_goes_208 : decode cX10_goes 208 = .ok (.dup2, 1) := by decide +kernel
theorem dX10_goes_209 : decode cX10_goes 209 = .ok (.iaload, 1) := by decide +kernel
theorem dX10_goes_210 : decode cX10_goes 210 = .ok (.iload 10, 2) := by decide +kernel
theorem dX10_goes_212 : decode cX10_goes 212 = .ok (.iadd, 1) := by decide +kernel
theorem dX10_goes_213 : decode cX10_goes 213 = .ok (.iastore, 1) := by decide +kernel
theorem dX10_goes_214 : decode cX10_goes 214 = .ok (.iload 8, 2) := by decide +kernel
theorem dX10_goes_216 : decode cX10_goes 216 = .ok (.iload 10, 2) := by decide +kernel
theorem dX10_goes_218 : decode cX10_goes 218 = .ok (.isub, 1) := by decide +kernel
theorem dX10_goes_219 : decode cX10_goes 219 = .ok (.istore 8, 2) := by decide +kernel
theorem dX10_goes_221 : decode cX10_goes 221 = .ok (.aload_n 0, 1) := by decide +kernel
theorem dX10_goes_222 : decode cX10_goes 222 = .ok (.getfield 25, 3) := by decide +kernel
theorem dX10_goes_225 : decode cX10_goes 225 = .ok (.iload 9, 2) := by decide +kernel
theorem dX10_goes_227 : decode cX10_goes 227 = .ok (.iaload, 1) := by decide +kernel
theorem dX10_goes_228 : decode cX10_goes 228 = .ok (.istore 12, 2) := by decide +kernel
theorem dX10_goes_230 : decode cX10_goes 230 = .ok (.iload 12, 2) := by decide +kernel
theorem dX10_goes_232 : decode cX10_goes 232 = .ok (.iconst (-1), 1) := by decide +kernel
theorem dX10_goes_233 : decode cX10_goes 233 = .ok (.if_icmp .eq 172, 3) := by decide +kernel
theorem dX10_goes_236 : decode cX10_goes 236 = .ok (.aload_n 0, 1) := by decide +kernel
theorem dX10_goes_237 : decode cX10_goes 237 = .ok (.getfield 52, 3) := by decide +kernel
theorem dX10_goes_240 : decode cX10_goes 240 = .ok (.iload 12, 2) := by decide +kernel
theorem dX10_goes_242 : decode cX10_goes 242 = .ok (.iaload, 1) := by decide +kernel
theorem dX10_goes_243 : decode cX10_goes 243 = .ok (.ifCond .ne 162, 3) := by decide +kernel
theorem dX10_goes_246 : decode cX10_goes 246 = .ok (.aload_n 0, 1) := by decide +kernel
theorem dX10_goes_247 : decode cX10_goes 247 = .ok (.iload 12, 2) := by decide +kernel
theorem dX10_goes_249 : decode cX10_goes 249 = .ok (.iload 8, 2) := by decide +kernel
theorem dX10_goes_251 : decode cX10_goes 251 = .ok (.invokevirtual 417, 3) := by decide +kernel
theorem dX10_goes_254 : decode cX10_goes 254 = .ok (.istore 8, 2) := by decide +kernel
theorem dX10_goes_256 : decode cX10_goes 256 = .ok (.aload_n 0, 1) := by decide +kernel
theorem dX10_goes_257 : decode cX10_goes 257 = .ok (.getfield 37, 3) := by decide +kernel
theorem dX10_goes_260 : decode cX10_goes 260 = .ok (.iload 12, 2) := by decide +kernel
theorem dX10_goes_262 : decode cX10_goes 262 = .ok (.iaload, 1) := by decide +kernel
theorem dX10_goes_263 : decode cX10_goes 263 = .ok (.aload_n 0, 1) := by decide +kernel
theorem dX10_goes_264 : decode cX10_goes 264 = .ok (.getfield 49, 3) := by decide +kernel
theorem dX10_goes_267 : decode cX10_goes 267 = .ok (.iload 12, 2) := by decide +kernel
theorem dX10_goes_269 : decode cX10_goes 269 = .ok (.iaload, 1) := by decide +kernel
theorem dX10_goes_270 : decode cX10_goes 270 = .ok (.iadd, 1) := by decide +kernel
theorem dX10_goes_271 : decode cX10_goes 271 = .ok (.sipush 1000, 3) := by decide +kernel
theorem dX10_goes_274 : decode cX10_goes 274 = .ok (.if_icmp .le 9, 3) := by decide +kernel
theorem dX10_goes_277 : decode cX10_goes 277 = .ok (.sipush 1000, 3) := by decide +kernel
theorem dX10_goes_280 : decode cX10_goes 280 = .ok (.goto 18, 3) := by decide +kernel
theorem dX10_goes_283 : decode cX10_goes 283 = .ok (.aload_n 0, 1) := by decide +kernel
theorem dX10_goes_284 : decode cX10_goes 284 = .ok (.getfield 37, 3) := by decide +kernel
theorem dX10_goes_287 : decode cX10_goes 287 = .ok (.iload 12, 2) := by decide +kernel
theorem dX10_goes_289 : decode cX10_goes 289 = .ok (.iaload, 1) := by decide +kernel
theorem dX10_goes_290 : decode cX10_goes 290 = .ok (.aload_n 0, 1) := by decide +kernel
theorem dX10_goes_291 : decode cX10_goes 291 = .ok (.getfield 49, 3) := by decide +kernel
theorem dX10_goes_294 : decode cX10_goes 294 = .ok (.iload 12, 2) := by decide +kernel
theorem dX10_goes_296 : decode cX10_goes 296 = .ok (.iaload, 1) := by decide +kernel
theorem dX10_goes_297 : decode cX10_goes 297 = .ok (.iadd, 1) := by decide +kernel
theorem dX10_goes_298 : decode cX10_goes 298 = .ok (.istore 13, 2) := by decide +kernel
theorem dX10_goes_300 : decode cX10_goes 300 = .ok (.iload 8, 2) := by decide +kernel
theorem dX10_goes_302 : decode cX10_goes 302 = .ok (.i2l, 1) := by decide +kernel
theorem dX10_goes_303 : decode cX10_goes 303 = .ok (.iload 13, 2) := by decide +kernel
theorem dX10_goes_305 : decode cX10_goes 305 = .ok (.i2l, 1) := by decide +kernel
theorem dX10_goes_306 : decode cX10_goes 306 = .ok (.lmul, 1) := by decide +kernel
theorem dX10_goes_307 : decode cX10_goes 307 = .ok (.ldc2_w 204, 3) := by decide +kernel
theorem dX10_goes_310 : decode cX10_goes 310 = .ok (.ldiv, 1) := by decide +kernel
theorem dX10_goes_311 : decode cX10_goes 311 = .ok (.l2i, 1) := by decide +kernel
theorem dX10_goes_312 : decode cX10_goes 312 = .ok (.istore 10, 2) := by decide +kernel
theorem dX10_goes_314 : decode cX10_goes 314 = .ok (.aload_n 0, 1) := by decide +kernel
theorem dX10_goes_315 : decode cX10_goes 315 = .ok (.dup, 1) := by decide +kernel
theorem dX10_goes_316 : decode cX10_goes 316 = .ok (.getfield 410, 3) := by decide +kernel
theorem dX10_goes_319 : decode cX10_goes 319 = .ok (.iload 10, 2) := by decide +kernel
theorem dX10_goes_321 : decode cX10_goes 321 = .ok (.iadd, 1) := by decide +kernel
theorem dX10_goes_322 : decode cX10_goes 322 = .ok (.putfield 410, 3) := by decide +kernel
theorem dX10_goes_325 : decode cX10_goes 325 = .ok (.iload 8, 2) := by decide +kernel
theorem dX10_goes_327 : decode cX10_goes 327 = .ok (.iload 10, 2) := by decide +kernel
theorem dX10_goes_329 : decode cX10_goes 329 = .ok (.isub, 1) := by decide +kernel
theorem dX10_goes_330 : decode cX10_goes 330 = .ok (.istore 8, 2) := by decide +kernel
theorem dX10_goes_332 : decode cX10_goes 332 = .ok (.iload 8, 2) := by decide +kernel
theorem dX10_goes_334 : decode cX10_goes 334 = .ok (.i2l, 1) := by decide +kernel
theorem dX10_goes_335 : decode cX10_goes 335 = .ok (.aload_n 0, 1) := by decide +kernel
theorem dX10_goes_336 : decode cX10_goes 336 = .ok (.getfield 40, 3) := by decide +kernel
theorem dX10_goes_339 : decode cX10_goes 339 = .ok (.iload 12, 2) := by decide +kernel
theorem dX10_goes_341 : decode cX10_goes 341 = .ok (.iaload, 1) := by decide +kernel
theorem dX10_goes_342 : decode cX10_goes 342 = .ok (.i2l, 1) := by decide +kernel
theorem dX10_goes_343 : decode cX10_goes 343 = .ok (.lmul, 1) := by decide +kernel
theorem dX10_goes_344 : decode cX10_goes 344 = .ok (.ldc2_w 204, 3) := by decide +kernel
theorem dX10_goes_347 : decode cX10_goes 347 = .ok (.ldiv, 1) := by decide +kernel
theorem dX10_goes_348 : decode cX10_goes 348 = .ok (.l2i, 1) := by decide +kernel
theorem dX10_goes_349 : decode cX10_goes 349 = .ok (.istore 14, 2) := by decide +kernel
theorem dX10_goes_351 : decode cX10_goes 351 = .ok (.iload 8, 2) := by decide +kernel
theorem dX10_goes_353 : decode cX10_goes 353 = .ok (.iload 14, 2) := by decide +kernel
theorem dX10_goes_355 : decode cX10_goes 355 = .ok (.isub, 1) := by decide +kernel
theorem dX10_goes_356 : decode cX10_goes 356 = .ok (.istore 8, 2) := by decide +kernel
theorem dX10_goes_358 : decode cX10_goes 358 = .ok (.iload 14, 2) := by decide +kernel
theorem dX10_goes_360 : decode cX10_goes 360 = .ok (.ifCond .le 27, 3) := by decide +kernel
theorem dX10_goes_363 : decode cX10_goes 363 = .ok (.aload_n 0, 1) := by decide +kernel
theorem dX10_goes_364 : decode cX10_goes 364 = .ok (.iload 5, 2) := by decide +kernel
theorem dX10_goes_366 : decode cX10_goes 366 = .ok (.iload 7, 2) := by decide +kernel
theorem dX10_goes_368 : decode cX10_goes 368 = .ok (.invokestatic 420, 3) := by decide +kernel
theorem dX10_goes_371 : decode cX10_goes 371 = .ok (.iadd, 1) := by decide +kernel
theorem dX10_goes_372 : decode cX10_goes 372 = .ok (.iload 6, 2) := by decide +kernel
theorem dX10_goes_374 : decode cX10_goes 374 = .ok (.iload 7, 2) := by decide +kernel
theorem dX10_goes_376 : decode cX10_goes 376 = .ok (.invokestatic 423, 3) := by decide +kernel
theorem dX10_goes_379 : decode cX10_goes 379 = .ok (.iadd, 1) := by decide +kernel
theorem dX10_goes_380 : decode cX10_goes 380 = .ok (.iload 7, 2) := by decide +kernel
theorem dX10_goes_382 : decode cX10_goes 382 = .ok (.iload 14, 2) := by decide +kernel
theorem dX10_goes_384 : decode cX10_goes 384 = .ok (.invokevirtual 426, 3) := by decide +kernel
theorem dX10_goes_387 : decode cX10_goes 387 = .ok (.aload_n 0, 1) := by decide +kernel
theorem dX10_goes_388 : decode cX10_goes 388 = .ok (.getfield 34, 3) := by decide +kernel
theorem dX10_goes_391 : decode cX10_goes 391 = .ok (.iload 12, 2) := by decide +kernel
theorem dX10_goes_393 : decode cX10_goes 393 = .ok (.iaload, 1) := by decide +kernel
theorem dX10_goes_394 : decode cX10_goes 394 = .ok (.iload 7, 2) := by decide +kernel
theorem dX10_goes_396 : decode cX10_goes 396 = .ok (.isub, 1) := by decide +kernel
theorem dX10_goes_397 : decode cX10_goes 397 = .ok (.bipush 8, 2) := by decide +kernel
theorem dX10_goes_399 : decode cX10_goes 399 = .ok (.iadd, 1) := by decide +kernel
theorem dX10_goes_400 : decode cX10_goes 400 = .ok (.bipush 8, 2) := by decide +kernel
theorem dX10_goes_402 : decode cX10_goes 402 = .ok (.irem, 1) := by decide +kernel
theorem dX10_goes_403 : decode cX10_goes 403 = .ok (.istore 7, 2) := by decide +kernel
theorem dX10_goes_405 : decode cX10_goes 405 = .ok (.iload 5, 2) := by decide +kernel
theorem dX10_goes_407 : decode cX10_goes 407 = .ok (.iload 7, 2) := by decide +kernel
theorem dX10_goes_409 : decode cX10_goes 409 = .ok (.invokestatic 420, 3) := by decide +kernel
theorem dX10_goes_412 : decode cX10_goes 412 = .ok (.iadd, 1) := by decide +kernel
theorem dX10_goes_413 : decode cX10_goes 413 = .ok (.istore 5, 2) := by decide +kernel
theorem dX10_goes_415 : decode cX10_goes 415 = .ok (.iload 6, 2) := by decide +kernel
theorem dX10_goes_417 : decode cX10_goes 417 = .ok (.iload 7, 2) := by decide +kernel
theorem dX10_goes_419 : decode cX10_goes 419 = .ok (.invokestatic 423, 3) := by decide +kernel
theorem dX10_goes_422 : decode cX10_goes 422 = .ok (.iadd, 1) := by decide +kernel
theorem dX10_goes_423 : decode cX10_goes 423 = .ok (.istore 6, 2) := by decide +kernel
theorem dX10_goes_425 : decode cX10_goes 425 = .ok (.goto (-412), 3) := by decide +kernel
theorem dX10_goes_428 : decode cX10_goes 428 = .ok (.return_, 1) := by decide +kernel
theorem ce_X10_goes : CeV RX10 yX10_goes cX10_goes 15 none 4 := ⟨tb_1650, tp_88, tb_11, tb_1651, rfl, by decide, by decide, by decide +kernel⟩
set_option maxHeartbeats 4000000 in
set_option maxRecDepth 20000 in
theorem V_X10_goes (l : Launch) (D : va_G) (A : Nat → Prop) (ad : Nat → Nat) (ns : List Nat) (I : MI) (L : ML) (G : MG) (a0 : Int32) (a1 : Int32) (a2 : Int32) (a3 : Int32) (hJ : SGM ns G) (hI : INV I) : Met l yX10_goes (wd yX10_goes cX10_goes 15 none) ({ frames := 2, cells := 0, slots := 0, locals := 48 }) (va_Pc [.ref (ad (1000)), .int a0, .int a1, .int a2, .int a3] (PM D A ad ns I L G)) (va_Qv (fun u => ∃ I2 L2, u = (ad, ns, I2, L2, G) ∧ INV I2 ∧ Kp [(1045, 1051), (1058, 1059), (1061, 1063)] [(1000, 52), (1000, 53), (1000, 54), (1000, 55), (1000, 56), (1000, 63)] I I2 ∧ (2 * (2000 - (I2 1000 55).toInt) + (I2 1000 52).toInt ≤ 2 * (2000 - (I 1000 55).toInt) + (I 1000 52).toInt)) (BM D A) A) 0 0 A := by
  refine m_ofW (by decide) (Nat.le_of_ble_eq_true rfl) ?_
  intro p e s m below meth c ls args hC hE hM hA hS hl
  obtain ⟨hx, hb, hml, hown, hts, hr, hlocks, hin⟩ := hC
  have km1 : (-1 : Int32).toInt = -1 := by decide
  have k0 : (0 : Int32).toInt = 0 := by decide
  have k1 : (1 : Int32).toInt = 1 := by decide
  have k4 : (4 : Int32).toInt = 4 := by decide
  have k8 : (8 : Int32).toInt = 8 := by decide
  have k24 : (24 : Int32).toInt = 24 := by decide
  have k1000 : (1000 : Int32).toInt = 1000 := by decide
  have k2000 : (2000 : Int32).toInt = 2000 := by decide
  have kl1000 : (1000 : Int64).toInt = 1000 := by decide
  have hK : Kp [(1045, 1051), (1058, 1059), (1061, 1063)] [(1000, 52), (1000, 53), (1000, 54), (1000, 55), (1000, 56), (1000, 63)] I I := Kp.rf
  have hl : lv_has ls 15 [(0, .ref (ad (1000))), (1, .int (a0)), (2, .int (a1)), (3, .int (a2)), (4, .int (a3))] := hl
  refine lv_iload_n hx hb dX10_goes_0 rfl (lv_at hl 1 rfl) ?_
  refine lv_istore (lv' := [(5, .int (a0)), (0, .ref (ad (1000))), (1, .int (a0)), (2, .int (a1)), (3, .int (a2)), (4, .int (a3))]) hx hb dX10_goes_1 hl (by decide) rfl (fun ls hl => ?_)
  refine lv_iload_n hx hb dX10_goes_3 rfl (lv_at hl 3 rfl) ?_
  refine lv_istore (lv' := [(6, .int (a1)), (5, .int (a0)), (0, .ref (ad (1000))), (1, .int (a0)), (2, .int (a1)), (3, .int (a2)), (4, .int (a3))]) hx hb dX10_goes_4 hl (by decide) rfl (fun ls hl => ?_)
  refine lv_iload_n hx hb dX10_goes_6 rfl (lv_at hl 5 rfl) ?_
  refine lv_istore (lv' := [(7, .int (a2)), (6, .int (a1)), (5, .int (a0)), (0, .ref (ad (1000))), (1, .int (a0)), (2, .int (a1)), (3, .int (a2)), (4, .int (a3))]) hx hb dX10_goes_7 hl (by decide) rfl (fun ls hl => ?_)
  refine lv_iload hx hb dX10_goes_9 (lv_at hl 7 rfl) ?_
  refine lv_istore (lv' := [(8, .int (a3)), (7, .int (a2)), (6, .int (a1)), (5, .int (a0)), (0, .ref (ad (1000))), (1, .int (a0)), (2, .int (a1)), (3, .int (a2)), (4, .int (a3))]) hx hb dX10_goes_11 hl (by decide) rfl (fun ls hl => ?_)
  have loop13 : ∀ (n : Nat) (x8_13 : Int32) (x7_13 : Int32) (x6_13 : Int32) (x5_13 : Int32) (Ia13 : MI) (La13 : ML) (H : Heap) (locs : List Loc) (ls : Array Slot), INV Ia13 → Kp [(1045, 1051), (1058, 1059), (1061, 1063)] [(1000, 52), (1000, 53), (1000, 54), (1000, 55), (1000, 56), (1000, 63)] I Ia13 → (2 * (2000 - (Ia13 1000 55).toInt) + (Ia13 1000 52).toInt ≤ 2 * (2000 - (I 1000 55).toInt) + (I 1000 52).toInt) → (2000 - (Ia13 1000 55).toInt).toNat < n → Mem D A ad ns Ia13 La13 G H → va_S A s.heap H locs → lv_has ls 15 [(8, .int (x8_13)), (7, .int (x7_13)), (6, .int (x6_13)), (5, .int (x5_13)), (0, .ref (ad (1000))), (1, .int (a0)), (2, .int (a1)), (3, .int (a2)), (4, .int (a3))] → W p l e ({ frames := 2, cells := 0, slots := 0, locals := 48 } : Room) s m args below meth c H locs 0 0 (MQ below (va_Qv (fun u => ∃ I2 L2, u = (ad, ns, I2, L2, G) ∧ INV I2 ∧ Kp [(1045, 1051), (1058, 1059), (1061, 1063)] [(1000, 52), (1000, 53), (1000, 54), (1000, 55), (1000, 56), (1000, 63)] I I2 ∧ (2 * (2000 - (I2 1000 55).toInt) + (I2 1000 52).toInt ≤ 2 * (2000 - (I 1000 55).toInt) + (I 1000 52).toInt)) (BM D A) A) args s 0 0 A) (F0 m 13 ls []) := by
    intro n
    induction n with
    | zero =>
      intro x8_13 x7_13 x6_13 x5_13 Ia13 La13 H locs ls hI hK hx2 hmu
      exact absurd hmu (Nat.not_lt_zero _)
    | succ n ih13 =>
      intro x8_13 x7_13 x6_13 x5_13 Ia13 La13 H locs ls hI hK hx2 hmu13 hM hS hl
      refine lv_iload hx hb dX10_goes_13 (lv_at hl 0 rfl) ?_
      refine lv_if_le (tgt := 428) hx hb dX10_goes_15 (by decide) (fun c1 => ?_) (fun c1 => ?_)
      · have hc1 := c1
        have q1 := q_le hc1
        exact m_vret hx hb hr hlocks hM hS (Nat.le_of_ble_eq_true rfl) (Nat.le_of_ble_eq_true rfl) ⟨_, _, rfl, hI, hK, (by omega)⟩ dX10_goes_428
      · have hc1 := c1
        have q1 := q_nle hc1
        refine lv_aload_n hx hb dX10_goes_18 rfl (lv_at hl 4 rfl) ?_
        refine m_geti (1000) 55 hx hb hts hown hE oc10 hM hJ.1 rfl (by decide) rfl tb_1232 dX10_goes_19 ?_
        have g2 := hI.get (1000) 55 (lo := 0) (hi := 2000) rfl
        refine lv_sipush (v := (2000)) hx hb dX10_goes_22 (by decide) ?_
        refine lv_icmp_ne (tgt := 40) hx hb dX10_goes_25 (by decide) (fun c3 => ?_) (fun c3 => ?_)
        · have hc3 := c3
          have q3 := q_ne hc3
          refine lv_aload_n hx hb dX10_goes_40 rfl (lv_at hl 4 rfl) ?_
          refine lv_dup hx hb dX10_goes_41 rfl ?_
          refine m_geti (1000) 55 hx hb hts hown hE oc10 hM hJ.1 rfl (by decide) rfl tb_1232 dX10_goes_42 ?_
          refine lv_iconst (v := (1)) hx hb dX10_goes_45 (by decide) ?_
          refine lv_iadd hx hb dX10_goes_46 ?_
          refine lv_topi (fun v4 ev4 => ?_)
          have tv4 := a_add ev4 (by omega) (by omega)
          refine m_puti (1000) 55 hx hb hts hown hE oc10 hM hS hJ.1 rfl (by decide) rfl rfl rfl rfl tb_1232 dX10_goes_47 (fun H locs I5 eI5 hM hS => ?_)
          subst eI5
          have hI := hI.put (n := 1000) (k := 55) (v := v4) (lo := 0) (hi := 2000) rfl (by first | omega | decide)
          have hK := hK.put (n := 1000) (k := 55) (v := v4) (by first | rfl | simp [inR])
          refine lv_aload_n hx hb dX10_goes_50 rfl (lv_at hl 4 rfl) ?_
          refine lv_iload hx hb dX10_goes_51 (lv_at hl 3 rfl) ?_
          refine lv_iload hx hb dX10_goes_53 (lv_at hl 2 rfl) ?_
          refine m_calli (m_runV (1000) (As := [.int (x5_13), .int (x6_13)]) (rest := []) hx hb hml hown hts hE hM hS hA ce_X10_isCell tb_1437 (V_X10_isCell l D A ad ns (u2 Ia13 (1000) 55 (v4)) La13 G (x5_13) (x6_13) hJ hI) rfl rfl ⟨Nat.le_of_ble_eq_true rfl, Nat.le_of_ble_eq_true rfl⟩ hJ.1 rfl rfl (by decide) rfl hl.1 rfl (Nat.le_of_ble_eq_true rfl) dX10_goes_55 ⟨Nat.le_of_ble_eq_true rfl, Nat.le_of_ble_eq_true rfl⟩) hS (fun r6 u H locs hw hM hS => ?_)
          obtain ⟨rfl, xr6⟩ := hw
          have hM : Mem D A ad ns (u2 Ia13 (1000) 55 (v4)) La13 G H := hM
          have yr6 := bo01 xr6
          have g7 := hI.get 1001 1 (lo := 0) (hi := 24) rfl
          have g8 := hI.get 1001 2 (lo := 0) (hi := 24) rfl
          refine lv_if_eq (tgt := 78) hx hb dX10_goes_58 (by decide) (fun c9 => ?_) (fun c9 => ?_)
          · have hc9 := c9
            have q9 := xr6.f hc9
            refine lv_aload_n hx hb dX10_goes_78 rfl (lv_at hl 4 rfl) ?_
            refine lv_dup hx hb dX10_goes_79 rfl ?_
            refine m_geti (1000) 54 hx hb hts hown hE oc10 hM hJ.1 rfl (by decide) rfl tb_1231 dX10_goes_80 ?_
            have z10 : (u2 Ia13 (1000) 55 (v4)) (1000) 54 = Ia13 (1000) 54 := (show (u2 Ia13 (1000) 55 (v4)) (1000) 54 = Ia13 (1000) 54 from by simp [u2_v])
            rw [z10]
            refine lv_iload hx hb dX10_goes_83 (lv_at hl 0 rfl) ?_
            refine lv_iadd hx hb dX10_goes_85 ?_
            refine lv_topi (fun v11 ev11 => ?_)
            refine m_puti (1000) 54 hx hb hts hown hE oc10 hM hS hJ.1 rfl (by decide) rfl rfl rfl rfl tb_1231 dX10_goes_86 (fun H locs I12 eI12 hM hS => ?_)
            subst eI12
            have hI := hI.putF (n := 1000) (k := 54) (v := v11) rfl
            have hK := hK.put (n := 1000) (k := 54) (v := v11) (by first | rfl | simp [inR])
            exact m_vret hx hb hr hlocks hM hS (Nat.le_of_ble_eq_true rfl) (Nat.le_of_ble_eq_true rfl) ⟨_, _, rfl, hI, hK, (by have := congrArg Int32.toInt ((show (u2 (u2 Ia13 (1000) 55 (v4)) (1000) 54 (v11)) (1000) 55 = v4 from by simp [u2_v])); have := congrArg Int32.toInt ((show (u2 (u2 Ia13 (1000) 55 (v4)) (1000) 54 (v11)) (1000) 52 = Ia13 (1000) 52 from by simp [u2_v])); omega)⟩ dX10_goes_89
          · have hc9 := c9
            have q9 := xr6.t hc9
            refine lv_aload_n hx hb dX10_goes_61 rfl (lv_at hl 4 rfl) ?_
            refine m_getr (1000) 2 (1002) hx hb hts hown hE oc10 hM hJ.1 rfl (by decide) rfl (hJ.2 2 (by decide)).2 (by decide) tb_1179 dX10_goes_62 ?_
            refine lv_bipush (v := (24)) hx hb dX10_goes_65 (by decide) ?_
            refine lv_iload hx hb dX10_goes_67 (lv_at hl 2 rfl) ?_
            refine lv_imul hx hb dX10_goes_69 ?_
            refine lv_topi (fun v13 ev13 => ?_)
            have tv13 := a_mulL (c := 24) ev13 (by decide) (by omega) (by omega)
            refine lv_iload hx hb dX10_goes_70 (lv_at hl 3 rfl) ?_
            refine lv_iadd hx hb dX10_goes_72 ?_
            refine lv_topi (fun v14 ev14 => ?_)
            have tv14 := a_add ev14 (by omega) (by omega)
            refine m_iald (1002) hx hb hE hM (hJ.2 2 (by decide)).1 rfl (vp_in_iff.mpr (by omega)) dX10_goes_73 ?_
            have z15 : (u2 Ia13 (1000) 55 (v4)) (1002) (v14).toNatClampNeg = Ia13 (1002) ((v14).toNatClampNeg) := (show (u2 Ia13 (1000) 55 (v4)) (1002) ((v14).toNatClampNeg) = Ia13 (1002) ((v14).toNatClampNeg) from by simp [u2_v])
            rw [z15]
            refine lv_iconst (v := (1)) hx hb dX10_goes_74 (by decide) ?_
            refine lv_icmp_ne (tgt := 90) hx hb dX10_goes_75 (by decide) (fun c16 => ?_) (fun c16 => ?_)
            · have hc16 := c16
              have q16 := q_ne hc16
              refine lv_bipush (v := (24)) hx hb dX10_goes_90 (by decide) ?_
              refine lv_iload hx hb dX10_goes_92 (lv_at hl 2 rfl) ?_
              refine lv_imul hx hb dX10_goes_94 ?_
              refine lv_topi (fun v17 ev17 => ?_)
              have tv17 := a_mulL (c := 24) ev17 (by decide) (by omega) (by omega)
              refine lv_iload hx hb dX10_goes_95 (lv_at hl 3 rfl) ?_
              refine lv_iadd hx hb dX10_goes_97 ?_
              refine lv_topi (fun v18 ev18 => ?_)
              have tv18 := a_add ev18 (by omega) (by omega)
              refine lv_istore (lv' := [(9, .int (v18)), (8, .int (x8_13)), (7, .int (x7_13)), (6, .int (x6_13)), (5, .int (x5_13)), (0, .ref (ad (1000))), (1, .int (a0)), (2, .int (a1)), (3, .int (a2)), (4, .int (a3))]) hx hb dX10_goes_98 hl (by decide) rfl (fun ls hl => ?_)
              refine lv_iload hx hb dX10_goes_100 (lv_at hl 1 rfl) ?_
              refine lv_i2l hx hb dX10_goes_102 rfl ?_
              refine lv_topl (fun v19 ev19 => ?_)
              have tv19 := q_i2l ev19
              refine lv_aload_n hx hb dX10_goes_103 rfl (lv_at hl 5 rfl) ?_
              refine m_getr (1000) 1 (1001) hx hb hts hown hE oc10 hM hJ.1 rfl (by decide) rfl (hJ.2 1 (by decide)).2 (by decide) tb_1178 dX10_goes_104 ?_
              refine lv_iconst (v := (4)) hx hb dX10_goes_107 (by decide) ?_
              refine m_iald (1001) hx hb hE hM (hJ.2 1 (by decide)).1 rfl (vp_in_iff.mpr (by decide)) dX10_goes_108 ?_
              rw [show (4 : Int32).toNatClampNeg = 4 from rfl]
              have z20 : (u2 Ia13 (1000) 55 (v4)) (1001) 4 = Ia13 (1001) 4 := (show (u2 Ia13 (1000) 55 (v4)) (1001) 4 = Ia13 (1001) 4 from by simp [u2_v])
              rw [z20]
              refine lv_i2l hx hb dX10_goes_109 rfl ?_
              refine lv_topl (fun v21 ev21 => ?_)
              have tv21 := q_i2l ev21
              refine lv_lmul hx hb dX10_goes_110 ?_
              refine lv_topl (fun v22 ev22 => ?_)
              refine lv_ldc2 (v := (1000)) hx hb hown (hts _ tb_1428) dX10_goes_111 ?_
              refine lv_ldiv hx hb dX10_goes_114 (by decide) ?_
              refine lv_topl (fun v23 ev23 => ?_)
              refine lv_l2i hx hb dX10_goes_115 rfl ?_
              refine lv_topi (fun v24 ev24 => ?_)
              refine lv_istore (lv' := [(10, .int (v24)), (9, .int (v18)), (8, .int (x8_13)), (7, .int (x7_13)), (6, .int (x6_13)), (5, .int (x5_13)), (0, .ref (ad (1000))), (1, .int (a0)), (2, .int (a1)), (3, .int (a2)), (4, .int (a3))]) hx hb dX10_goes_116 hl (by decide) rfl (fun ls hl => ?_)
              refine lv_aload_n hx hb dX10_goes_118 rfl (lv_at hl 6 rfl) ?_
              refine lv_dup hx hb dX10_goes_119 rfl ?_
              refine m_geti (1000) 53 hx hb hts hown hE oc10 hM hJ.1 rfl (by decide) rfl tb_1230 dX10_goes_120 ?_
              have z25 : (u2 Ia13 (1000) 55 (v4)) (1000) 53 = Ia13 (1000) 53 := (show (u2 Ia13 (1000) 55 (v4)) (1000) 53 = Ia13 (1000) 53 from by simp [u2_v])
              rw [z25]
              refine lv_iload hx hb dX10_goes_123 (lv_at hl 0 rfl) ?_
              refine lv_iadd hx hb dX10_goes_125 ?_
              refine lv_topi (fun v26 ev26 => ?_)
              refine m_puti (1000) 53 hx hb hts hown hE oc10 hM hS hJ.1 rfl (by decide) rfl rfl rfl rfl tb_1230 dX10_goes_126 (fun H locs I27 eI27 hM hS => ?_)
              subst eI27
              have hI := hI.putF (n := 1000) (k := 53) (v := v26) rfl
              have hK := hK.put (n := 1000) (k := 53) (v := v26) (by first | rfl | simp [inR])
              refine lv_iload hx hb dX10_goes_129 (lv_at hl 2 rfl) ?_
              refine lv_iload hx hb dX10_goes_131 (lv_at hl 0 rfl) ?_
              refine lv_isub hx hb dX10_goes_133 ?_
              refine lv_topi (fun v28 ev28 => ?_)
              refine lv_istore (lv' := [(8, .int (v28)), (10, .int (v24)), (9, .int (v18)), (7, .int (x7_13)), (6, .int (x6_13)), (5, .int (x5_13)), (0, .ref (ad (1000))), (1, .int (a0)), (2, .int (a1)), (3, .int (a2)), (4, .int (a3))]) hx hb dX10_goes_134 hl (by decide) rfl (fun ls hl => ?_)
              refine lv_aload_n hx hb dX10_goes_136 rfl (lv_at hl 6 rfl) ?_
              refine m_getr (1000) 49 (1049) hx hb hts hown hE oc10 hM hJ.1 rfl (by decide) rfl (hJ.2 49 (by decide)).2 (by decide) tb_1226 dX10_goes_137 ?_
              refine lv_iload hx hb dX10_goes_140 (lv_at hl 2 rfl) ?_
              refine lv_iload hx hb dX10_goes_142 (lv_at hl 0 rfl) ?_
              refine lv_aload_n hx hb dX10_goes_144 rfl (lv_at hl 6 rfl) ?_
              refine m_getr (1000) 49 (1049) hx hb hts hown hE oc10 hM hJ.1 rfl (by decide) rfl (hJ.2 49 (by decide)).2 (by decide) tb_1226 dX10_goes_145 ?_
              refine lv_iload hx hb dX10_goes_148 (lv_at hl 2 rfl) ?_
              refine m_iald (1049) hx hb hE hM (hJ.2 49 (by decide)).1 rfl (vp_in_iff.mpr (by omega)) dX10_goes_150 ?_
              have z29 : (u2 (u2 Ia13 (1000) 55 (v4)) (1000) 53 (v26)) (1049) (v18).toNatClampNeg = Ia13 (1049) ((v18).toNatClampNeg) := (show (u2 (u2 Ia13 (1000) 55 (v4)) (1000) 53 (v26)) (1049) ((v18).toNatClampNeg) = Ia13 (1049) ((v18).toNatClampNeg) from by simp [u2_v])
              rw [z29]
              refine lv_icmp_le (tgt := 159) hx hb dX10_goes_151 (by decide) (fun c30 => ?_) (fun c30 => ?_)
              · have hc30 := c30
                have q30 := q_le hc30
                refine lv_aload_n hx hb dX10_goes_159 rfl (lv_at hl 6 rfl) ?_
                refine m_getr (1000) 49 (1049) hx hb hts hown hE oc10 hM hJ.1 rfl (by decide) rfl (hJ.2 49 (by decide)).2 (by decide) tb_1226 dX10_goes_160 ?_
                refine lv_iload hx hb dX10_goes_163 (lv_at hl 2 rfl) ?_
                refine m_iald (1049) hx hb hE hM (hJ.2 49 (by decide)).1 rfl (vp_in_iff.mpr (by omega)) dX10_goes_165 ?_
                have z31 : (u2 (u2 Ia13 (1000) 55 (v4)) (1000) 53 (v26)) (1049) (v18).toNatClampNeg = Ia13 (1049) ((v18).toNatClampNeg) := (show (u2 (u2 Ia13 (1000) 55 (v4)) (1000) 53 (v26)) (1049) ((v18).toNatClampNeg) = Ia13 (1049) ((v18).toNatClampNeg) from by simp [u2_v])
                rw [z31]
                refine m_iast (1049) hx hb hE hM hS (hJ.2 49 (by decide)).1 rfl (vp_in_iff.mpr (by omega)) dX10_goes_166 (fun H locs I32 eI32 hM hS => ?_)
                subst eI32
                have hI := hI.putF (n := 1049) (k := ((v18).toNatClampNeg)) (v := Ia13 (1049) ((v18).toNatClampNeg)) rfl
                have hK := hK.put (n := 1049) (k := ((v18).toNatClampNeg)) (v := Ia13 (1049) ((v18).toNatClampNeg)) (by first | rfl | simp [inR])
                refine lv_aload_n hx hb dX10_goes_167 rfl (lv_at hl 6 rfl) ?_
                refine lv_iload hx hb dX10_goes_168 (lv_at hl 5 rfl) ?_
                refine lv_iload hx hb dX10_goes_170 (lv_at hl 4 rfl) ?_
                refine m_calli (m_runV (1000) (As := [.int (x5_13), .int (x6_13)]) (rest := []) hx hb hml hown hts hE hM hS hA ce_X10_yardOf tb_1652 (V_X10_yardOf l D A ad ns (u2 (u2 (u2 Ia13 (1000) 55 (v4)) (1000) 53 (v26)) (1049) ((v18).toNatClampNeg) (Ia13 (1049) ((v18).toNatClampNeg))) La13 G (x5_13) (x6_13) hJ hI) rfl rfl ⟨Nat.le_of_ble_eq_true rfl, Nat.le_of_ble_eq_true rfl⟩ hJ.1 rfl rfl (by decide) rfl hl.1 rfl (Nat.le_of_ble_eq_true rfl) dX10_goes_172 ⟨Nat.le_of_ble_eq_true rfl, Nat.le_of_ble_eq_true rfl⟩) hS (fun r33 u H locs hw hM hS => ?_)
                obtain ⟨rfl, xr33⟩ := hw
                have hM : Mem D A ad ns (u2 (u2 (u2 Ia13 (1000) 55 (v4)) (1000) 53 (v26)) (1049) ((v18).toNatClampNeg) (Ia13 (1049) ((v18).toNatClampNeg))) La13 G H := hM
                refine lv_istore (lv' := [(11, .int (r33)), (8, .int (v28)), (10, .int (v24)), (9, .int (v18)), (7, .int (x7_13)), (6, .int (x6_13)), (5, .int (x5_13)), (0, .ref (ad (1000))), (1, .int (a0)), (2, .int (a1)), (3, .int (a2)), (4, .int (a3))]) hx hb dX10_goes_175 hl (by decide) rfl (fun ls hl => ?_)
                refine lv_iload hx hb dX10_goes_177 (lv_at hl 0 rfl) ?_
                refine lv_iconst (v := (-1)) hx hb dX10_goes_179 (by decide) ?_
                refine lv_icmp_eq (tgt := 221) hx hb dX10_goes_180 (by decide) (fun c34 => ?_) (fun c34 => ?_)
                · have hc34 := c34
                  have q34 := q_eq hc34
                  refine lv_aload_n hx hb dX10_goes_221 rfl (lv_at hl 7 rfl) ?_
                  refine m_getr (1000) 6 (1006) hx hb hts hown hE oc10 hM hJ.1 rfl (by decide) rfl (hJ.2 6 (by decide)).2 (by decide) tb_1183 dX10_goes_222 ?_
                  refine lv_iload hx hb dX10_goes_225 (lv_at hl 3 rfl) ?_
                  refine m_iald (1006) hx hb hE hM (hJ.2 6 (by decide)).1 rfl (vp_in_iff.mpr (by omega)) dX10_goes_227 ?_
                  have g35 := hI.get (1006) ((v18).toNatClampNeg) (lo := -1) (hi := 23) rfl
                  have z36 : (u2 (u2 (u2 Ia13 (1000) 55 (v4)) (1000) 53 (v26)) (1049) ((v18).toNatClampNeg) (Ia13 (1049) ((v18).toNatClampNeg))) (1006) (v18).toNatClampNeg = Ia13 (1006) ((v18).toNatClampNeg) := (show (u2 (u2 (u2 Ia13 (1000) 55 (v4)) (1000) 53 (v26)) (1049) ((v18).toNatClampNeg) (Ia13 (1049) ((v18).toNatClampNeg))) (1006) ((v18).toNatClampNeg) = Ia13 (1006) ((v18).toNatClampNeg) from by simp [u2_v])
                  rw [z36] at g35 ⊢
                  refine lv_istore (lv' := [(12, .int (Ia13 (1006) ((v18).toNatClampNeg))), (11, .int (r33)), (8, .int (v28)), (10, .int (v24)), (9, .int (v18)), (7, .int (x7_13)), (6, .int (x6_13)), (5, .int (x5_13)), (0, .ref (ad (1000))), (1, .int (a0)), (2, .int (a1)), (3, .int (a2)), (4, .int (a3))]) hx hb dX10_goes_228 hl (by decide) rfl (fun ls hl => ?_)
                  refine lv_iload hx hb dX10_goes_230 (lv_at hl 0 rfl) ?_
                  refine lv_iconst (v := (-1)) hx hb dX10_goes_232 (by decide) ?_
                  refine lv_icmp_eq (tgt := 405) hx hb dX10_goes_233 (by decide) (fun c37 => ?_) (fun c37 => ?_)
                  · have hc37 := c37
                    have q37 := q_eq hc37
                    refine lv_iload hx hb dX10_goes_405 (lv_at hl 7 rfl) ?_
                    refine lv_iload hx hb dX10_goes_407 (lv_at hl 5 rfl) ?_
                    refine m_calli (m_runS (As := [.int (x7_13)]) (rest := [.int (x5_13)]) hx hb hml hown hts hE hM hS hA ce_X10_stepX tb_1660 (V_X10_stepX l D A ad ns (u2 (u2 (u2 Ia13 (1000) 55 (v4)) (1000) 53 (v26)) (1049) ((v18).toNatClampNeg) (Ia13 (1049) ((v18).toNatClampNeg))) La13 G (x7_13) hI) rfl rfl ⟨Nat.le_of_ble_eq_true rfl, Nat.le_of_ble_eq_true rfl⟩  rfl hl.1 rfl (Nat.le_of_ble_eq_true rfl) dX10_goes_409 ⟨Nat.le_of_ble_eq_true rfl, Nat.le_of_ble_eq_true rfl⟩) hS (fun r38 u H locs hw hM hS => ?_)
                    obtain ⟨rfl, xr38⟩ := hw
                    have hM : Mem D A ad ns (u2 (u2 (u2 Ia13 (1000) 55 (v4)) (1000) 53 (v26)) (1049) ((v18).toNatClampNeg) (Ia13 (1049) ((v18).toNatClampNeg))) La13 G H := hM
                    refine lv_iadd hx hb dX10_goes_412 ?_
                    refine lv_topi (fun v39 ev39 => ?_)
                    have tv39 := a_add ev39 (by omega) (by omega)
                    refine lv_istore (lv' := [(5, .int (v39)), (12, .int (Ia13 (1006) ((v18).toNatClampNeg))), (11, .int (r33)), (8, .int (v28)), (10, .int (v24)), (9, .int (v18)), (7, .int (x7_13)), (6, .int (x6_13)), (0, .ref (ad (1000))), (1, .int (a0)), (2, .int (a1)), (3, .int (a2)), (4, .int (a3))]) hx hb dX10_goes_413 hl (by decide) rfl (fun ls hl => ?_)
                    refine lv_iload hx hb dX10_goes_415 (lv_at hl 7 rfl) ?_
                    refine lv_iload hx hb dX10_goes_417 (lv_at hl 6 rfl) ?_
                    refine m_calli (m_runS (As := [.int (x7_13)]) (rest := [.int (x6_13)]) hx hb hml hown hts hE hM hS hA ce_X10_stepY tb_1663 (V_X10_stepY l D A ad ns (u2 (u2 (u2 Ia13 (1000) 55 (v4)) (1000) 53 (v26)) (1049) ((v18).toNatClampNeg) (Ia13 (1049) ((v18).toNatClampNeg))) La13 G (x7_13) hI) rfl rfl ⟨Nat.le_of_ble_eq_true rfl, Nat.le_of_ble_eq_true rfl⟩  rfl hl.1 rfl (Nat.le_of_ble_eq_true rfl) dX10_goes_419 ⟨Nat.le_of_ble_eq_true rfl, Nat.le_of_ble_eq_true rfl⟩) hS (fun r40 u H locs hw hM hS => ?_)
                    obtain ⟨rfl, xr40⟩ := hw
                    have hM : Mem D A ad ns (u2 (u2 (u2 Ia13 (1000) 55 (v4)) (1000) 53 (v26)) (1049) ((v18).toNatClampNeg) (Ia13 (1049) ((v18).toNatClampNeg))) La13 G H := hM
                    refine lv_iadd hx hb dX10_goes_422 ?_
                    refine lv_topi (fun v41 ev41 => ?_)
                    have tv41 := a_add ev41 (by omega) (by omega)
                    refine lv_istore (lv' := [(6, .int (v41)), (5, .int (v39)), (12, .int (Ia13 (1006) ((v18).toNatClampNeg))), (11, .int (r33)), (8, .int (v28)), (10, .int (v24)), (9, .int (v18)), (7, .int (x7_13)), (0, .ref (ad (1000))), (1, .int (a0)), (2, .int (a1)), (3, .int (a2)), (4, .int (a3))]) hx hb dX10_goes_423 hl (by decide) rfl (fun ls hl => ?_)
                    refine lv_goto (tgt := 13) hx hb dX10_goes_425 (by decide) ?_
                    have tr100055 : ((u2 (u2 (u2 Ia13 (1000) 55 (v4)) (1000) 53 (v26)) (1049) ((v18).toNatClampNeg) (Ia13 (1049) ((v18).toNatClampNeg))) (1000) 55).toInt = (v4 : Int32).toInt := congrArg Int32.toInt ((show (u2 (u2 (u2 Ia13 (1000) 55 (v4)) (1000) 53 (v26)) (1049) ((v18).toNatClampNeg) (Ia13 (1049) ((v18).toNatClampNeg))) (1000) 55 = v4 from by simp [u2_v]))
                    have tr100052 : ((u2 (u2 (u2 Ia13 (1000) 55 (v4)) (1000) 53 (v26)) (1049) ((v18).toNatClampNeg) (Ia13 (1049) ((v18).toNatClampNeg))) (1000) 52).toInt = (Ia13 (1000) 52 : Int32).toInt := congrArg Int32.toInt ((show (u2 (u2 (u2 Ia13 (1000) 55 (v4)) (1000) 53 (v26)) (1049) ((v18).toNatClampNeg) (Ia13 (1049) ((v18).toNatClampNeg))) (1000) 52 = Ia13 (1000) 52 from by simp [u2_v]))
                    exact ih13 (v28) (x7_13) (v41) (v39) (u2 (u2 (u2 Ia13 (1000) 55 (v4)) (1000) 53 (v26)) (1049) ((v18).toNatClampNeg) (Ia13 (1049) ((v18).toNatClampNeg))) La13 _ _ ls hI hK (by omega) (by omega) hM hS (lv_sub hl [4, 7, 0, 1, 8, 9, 10, 11, 12] rfl)
                  · have hc37 := c37
                    have q37 := q_ne hc37
                    refine lv_aload_n hx hb dX10_goes_236 rfl (lv_at hl 8 rfl) ?_
                    refine m_getr (1000) 15 (1015) hx hb hts hown hE oc10 hM hJ.1 rfl (by decide) rfl (hJ.2 15 (by decide)).2 (by decide) tb_1192 dX10_goes_237 ?_
                    refine lv_iload hx hb dX10_goes_240 (lv_at hl 0 rfl) ?_
                    refine m_iald (1015) hx hb hE hM (hJ.2 15 (by decide)).1 rfl (vp_in_iff.mpr (by omega)) dX10_goes_242 ?_
                    have z42 : (u2 (u2 (u2 Ia13 (1000) 55 (v4)) (1000) 53 (v26)) (1049) ((v18).toNatClampNeg) (Ia13 (1049) ((v18).toNatClampNeg))) (1015) (Ia13 (1006) ((v18).toNatClampNeg)).toNatClampNeg = Ia13 (1015) ((Ia13 (1006) ((v18).toNatClampNeg)).toNatClampNeg) := (show (u2 (u2 (u2 Ia13 (1000) 55 (v4)) (1000) 53 (v26)) (1049) ((v18).toNatClampNeg) (Ia13 (1049) ((v18).toNatClampNeg))) (1015) ((Ia13 (1006) ((v18).toNatClampNeg)).toNatClampNeg) = Ia13 (1015) ((Ia13 (1006) ((v18).toNatClampNeg)).toNatClampNeg) from by simp [u2_v])
                    rw [z42]
                    refine lv_if_ne (tgt := 405) hx hb dX10_goes_243 (by decide) (fun c43 => ?_) (fun c43 => ?_)
                    · have hc43 := c43
                      have q43 := q_ne hc43
                      refine lv_iload hx hb dX10_goes_405 (lv_at hl 7 rfl) ?_
                      refine lv_iload hx hb dX10_goes_407 (lv_at hl 5 rfl) ?_
                      refine m_calli (m_runS (As := [.int (x7_13)]) (rest := [.int (x5_13)]) hx hb hml hown hts hE hM hS hA ce_X10_stepX tb_1660 (V_X10_stepX l D A ad ns (u2 (u2 (u2 Ia13 (1000) 55 (v4)) (1000) 53 (v26)) (1049) ((v18).toNatClampNeg) (Ia13 (1049) ((v18).toNatClampNeg))) La13 G (x7_13) hI) rfl rfl ⟨Nat.le_of_ble_eq_true rfl, Nat.le_of_ble_eq_true rfl⟩  rfl hl.1 rfl (Nat.le_of_ble_eq_true rfl) dX10_goes_409 ⟨Nat.le_of_ble_eq_true rfl, Nat.le_of_ble_eq_true rfl⟩) hS (fun r44 u H locs hw hM hS => ?_)
                      obtain ⟨rfl, xr44⟩ := hw
                      have hM : Mem D A ad ns (u2 (u2 (u2 Ia13 (1000) 55 (v4)) (1000) 53 (v26)) (1049) ((v18).toNatClampNeg) (Ia13 (1049) ((v18).toNatClampNeg))) La13 G H := hM
                      refine lv_iadd hx hb dX10_goes_412 ?_
                      refine lv_topi (fun v45 ev45 => ?_)
                      have tv45 := a_add ev45 (by omega) (by omega)
                      refine lv_istore (lv' := [(5, .int (v45)), (12, .int (Ia13 (1006) ((v18).toNatClampNeg))), (11, .int (r33)), (8, .int (v28)), (10, .int (v24)), (9, .int (v18)), (7, .int (x7_13)), (6, .int (x6_13)), (0, .ref (ad (1000))), (1, .int (a0)), (2, .int (a1)), (3, .int (a2)), (4, .int (a3))]) hx hb dX10_goes_413 hl (by decide) rfl (fun ls hl => ?_)
                      refine lv_iload hx hb dX10_goes_415 (lv_at hl 7 rfl) ?_
                      refine lv_iload hx hb dX10_goes_417 (lv_at hl 6 rfl) ?_
                      refine m_calli (m_runS (As := [.int (x7_13)]) (rest := [.int (x6_13)]) hx hb hml hown hts hE hM hS hA ce_X10_stepY tb_1663 (V_X10_stepY l D A ad ns (u2 (u2 (u2 Ia13 (1000) 55 (v4)) (1000) 53 (v26)) (1049) ((v18).toNatClampNeg) (Ia13 (1049) ((v18).toNatClampNeg))) La13 G (x7_13) hI) rfl rfl ⟨Nat.le_of_ble_eq_true rfl, Nat.le_of_ble_eq_true rfl⟩  rfl hl.1 rfl (Nat.le_of_ble_eq_true rfl) dX10_goes_419 ⟨Nat.le_of_ble_eq_true rfl, Nat.le_of_ble_eq_true rfl⟩) hS (fun r46 u H locs hw hM hS => ?_)
                      obtain ⟨rfl, xr46⟩ := hw
                      have hM : Mem D A ad ns (u2 (u2 (u2 Ia13 (1000) 55 (v4)) (1000) 53 (v26)) (1049) ((v18).toNatClampNeg) (Ia13 (1049) ((v18).toNatClampNeg))) La13 G H := hM
                      refine lv_iadd hx hb dX10_goes_422 ?_
                      refine lv_topi (fun v47 ev47 => ?_)
                      have tv47 := a_add ev47 (by omega) (by omega)
                      refine lv_istore (lv' := [(6, .int (v47)), (5, .int (v45)), (12, .int (Ia13 (1006) ((v18).toNatClampNeg))), (11, .int (r33)), (8, .int (v28)), (10, .int (v24)), (9, .int (v18)), (7, .int (x7_13)), (0, .ref (ad (1000))), (1, .int (a0)), (2, .int (a1)), (3, .int (a2)), (4, .int (a3))]) hx hb dX10_goes_423 hl (by decide) rfl (fun ls hl => ?_)
                      refine lv_goto (tgt := 13) hx hb dX10_goes_425 (by decide) ?_
                      have tr100055 : ((u2 (u2 (u2 Ia13 (1000) 55 (v4)) (1000) 53 (v26)) (1049) ((v18).toNatClampNeg) (Ia13 (1049) ((v18).toNatClampNeg))) (1000) 55).toInt = (v4 : Int32).toInt := congrArg Int32.toInt ((show (u2 (u2 (u2 Ia13 (1000) 55 (v4)) (1000) 53 (v26)) (1049) ((v18).toNatClampNeg) (Ia13 (1049) ((v18).toNatClampNeg))) (1000) 55 = v4 from by simp [u2_v]))
                      have tr100052 : ((u2 (u2 (u2 Ia13 (1000) 55 (v4)) (1000) 53 (v26)) (1049) ((v18).toNatClampNeg) (Ia13 (1049) ((v18).toNatClampNeg))) (1000) 52).toInt = (Ia13 (1000) 52 : Int32).toInt := congrArg Int32.toInt ((show (u2 (u2 (u2 Ia13 (1000) 55 (v4)) (1000) 53 (v26)) (1049) ((v18).toNatClampNeg) (Ia13 (1049) ((v18).toNatClampNeg))) (1000) 52 = Ia13 (1000) 52 from by simp [u2_v]))
                      exact ih13 (v28) (x7_13) (v47) (v45) (u2 (u2 (u2 Ia13 (1000) 55 (v4)) (1000) 53 (v26)) (1049) ((v18).toNatClampNeg) (Ia13 (1049) ((v18).toNatClampNeg))) La13 _ _ ls hI hK (by omega) (by omega) hM hS (lv_sub hl [4, 7, 0, 1, 8, 9, 10, 11, 12] rfl)
                    · have hc43 := c43
                      have q43 := q_eq hc43
                      refine lv_aload_n hx hb dX10_goes_246 rfl (lv_at hl 8 rfl) ?_
                      refine lv_iload hx hb dX10_goes_247 (lv_at hl 0 rfl) ?_
                      refine lv_iload hx hb dX10_goes_249 (lv_at hl 2 rfl) ?_
                      refine m_calli (m_runV (1000) (As := [.int (Ia13 (1006) ((v18).toNatClampNeg)), .int (v28)]) (rest := []) hx hb hml hown hts hE hM hS hA ce_X10_told tb_1656 (V_X10_told l D A ad ns (u2 (u2 (u2 Ia13 (1000) 55 (v4)) (1000) 53 (v26)) (1049) ((v18).toNatClampNeg) (Ia13 (1049) ((v18).toNatClampNeg))) La13 G (Ia13 (1006) ((v18).toNatClampNeg)) (v28) hJ hI (by first | omega | decide)) rfl rfl ⟨Nat.le_of_ble_eq_true rfl, Nat.le_of_ble_eq_true rfl⟩ hJ.1 rfl rfl (by decide) rfl hl.1 rfl (Nat.le_of_ble_eq_true rfl) dX10_goes_251 ⟨Nat.le_of_ble_eq_true rfl, Nat.le_of_ble_eq_true rfl⟩) hS (fun r48 u H locs hw hM hS => ?_)
                      obtain ⟨I49, L50, rfl, hI, hkI49⟩ := hw
                      have hM : Mem D A ad ns I49 L50 G H := hM
                      have hK := hK.trans hkI49 rfl
                      refine lv_istore (lv' := [(8, .int (r48)), (12, .int (Ia13 (1006) ((v18).toNatClampNeg))), (11, .int (r33)), (10, .int (v24)), (9, .int (v18)), (7, .int (x7_13)), (6, .int (x6_13)), (5, .int (x5_13)), (0, .ref (ad (1000))), (1, .int (a0)), (2, .int (a1)), (3, .int (a2)), (4, .int (a3))]) hx hb dX10_goes_254 hl (by decide) rfl (fun ls hl => ?_)
                      refine lv_aload_n hx hb dX10_goes_256 rfl (lv_at hl 8 rfl) ?_
                      refine m_getr (1000) 10 (1010) hx hb hts hown hE oc10 hM hJ.1 rfl (by decide) rfl (hJ.2 10 (by decide)).2 (by decide) tb_1187 dX10_goes_257 ?_
                      refine lv_iload hx hb dX10_goes_260 (lv_at hl 1 rfl) ?_
                      refine m_iald (1010) hx hb hE hM (hJ.2 10 (by decide)).1 rfl (vp_in_iff.mpr (by omega)) dX10_goes_262 ?_
                      have z51 : I49 (1010) (Ia13 (1006) ((v18).toNatClampNeg)).toNatClampNeg = Ia13 (1010) ((Ia13 (1006) ((v18).toNatClampNeg)).toNatClampNeg) := ((congrFun (hkI49.getA (1010) rfl) ((Ia13 (1006) ((v18).toNatClampNeg)).toNatClampNeg))).trans (show (u2 (u2 (u2 Ia13 (1000) 55 (v4)) (1000) 53 (v26)) (1049) ((v18).toNatClampNeg) (Ia13 (1049) ((v18).toNatClampNeg))) (1010) ((Ia13 (1006) ((v18).toNatClampNeg)).toNatClampNeg) = Ia13 (1010) ((Ia13 (1006) ((v18).toNatClampNeg)).toNatClampNeg) from by simp [u2_v])
                      rw [z51]
                      refine lv_aload_n hx hb dX10_goes_263 rfl (lv_at hl 8 rfl) ?_
                      refine m_getr (1000) 14 (1014) hx hb hts hown hE oc10 hM hJ.1 rfl (by decide) rfl (hJ.2 14 (by decide)).2 (by decide) tb_1191 dX10_goes_264 ?_
                      refine lv_iload hx hb dX10_goes_267 (lv_at hl 1 rfl) ?_
                      refine m_iald (1014) hx hb hE hM (hJ.2 14 (by decide)).1 rfl (vp_in_iff.mpr (by omega)) dX10_goes_269 ?_
                      have z52 : I49 (1014) (Ia13 (1006) ((v18).toNatClampNeg)).toNatClampNeg = Ia13 (1014) ((Ia13 (1006) ((v18).toNatClampNeg)).toNatClampNeg) := ((congrFun (hkI49.getA (1014) rfl) ((Ia13 (1006) ((v18).toNatClampNeg)).toNatClampNeg))).trans (show (u2 (u2 (u2 Ia13 (1000) 55 (v4)) (1000) 53 (v26)) (1049) ((v18).toNatClampNeg) (Ia13 (1049) ((v18).toNatClampNeg))) (1014) ((Ia13 (1006) ((v18).toNatClampNeg)).toNatClampNeg) = Ia13 (1014) ((Ia13 (1006) ((v18).toNatClampNeg)).toNatClampNeg) from by simp [u2_v])
                      rw [z52]
                      refine lv_iadd hx hb dX10_goes_270 ?_
                      refine lv_topi (fun v53 ev53 => ?_)
                      refine lv_sipush (v := (1000)) hx hb dX10_goes_271 (by decide) ?_
                      refine lv_icmp_le (tgt := 283) hx hb dX10_goes_274 (by decide) (fun c54 => ?_) (fun c54 => ?_)
                      · have hc54 := c54
                        have q54 := q_le hc54
                        refine lv_aload_n hx hb dX10_goes_283 rfl (lv_at hl 8 rfl) ?_
                        refine m_getr (1000) 10 (1010) hx hb hts hown hE oc10 hM hJ.1 rfl (by decide) rfl (hJ.2 10 (by decide)).2 (by decide) tb_1187 dX10_goes_284 ?_
                        refine lv_iload hx hb dX10_goes_287 (lv_at hl 1 rfl) ?_
                        refine m_iald (1010) hx hb hE hM (hJ.2 10 (by decide)).1 rfl (vp_in_iff.mpr (by omega)) dX10_goes_289 ?_
                        have z55 : I49 (1010) (Ia13 (1006) ((v18).toNatClampNeg)).toNatClampNeg = Ia13 (1010) ((Ia13 (1006) ((v18).toNatClampNeg)).toNatClampNeg) := ((congrFun (hkI49.getA (1010) rfl) ((Ia13 (1006) ((v18).toNatClampNeg)).toNatClampNeg))).trans (show (u2 (u2 (u2 Ia13 (1000) 55 (v4)) (1000) 53 (v26)) (1049) ((v18).toNatClampNeg) (Ia13 (1049) ((v18).toNatClampNeg))) (1010) ((Ia13 (1006) ((v18).toNatClampNeg)).toNatClampNeg) = Ia13 (1010) ((Ia13 (1006) ((v18).toNatClampNeg)).toNatClampNeg) from by simp [u2_v])
                        rw [z55]
                        refine lv_aload_n hx hb dX10_goes_290 rfl (lv_at hl 8 rfl) ?_
                        refine m_getr (1000) 14 (1014) hx hb hts hown hE oc10 hM hJ.1 rfl (by decide) rfl (hJ.2 14 (by decide)).2 (by decide) tb_1191 dX10_goes_291 ?_
                        refine lv_iload hx hb dX10_goes_294 (lv_at hl 1 rfl) ?_
                        refine m_iald (1014) hx hb hE hM (hJ.2 14 (by decide)).1 rfl (vp_in_iff.mpr (by omega)) dX10_goes_296 ?_
                        have z56 : I49 (1014) (Ia13 (1006) ((v18).toNatClampNeg)).toNatClampNeg = Ia13 (1014) ((Ia13 (1006) ((v18).toNatClampNeg)).toNatClampNeg) := ((congrFun (hkI49.getA (1014) rfl) ((Ia13 (1006) ((v18).toNatClampNeg)).toNatClampNeg))).trans (show (u2 (u2 (u2 Ia13 (1000) 55 (v4)) (1000) 53 (v26)) (1049) ((v18).toNatClampNeg) (Ia13 (1049) ((v18).toNatClampNeg))) (1014) ((Ia13 (1006) ((v18).toNatClampNeg)).toNatClampNeg) = Ia13 (1014) ((Ia13 (1006) ((v18).toNatClampNeg)).toNatClampNeg) from by simp [u2_v])
                        rw [z56]
                        refine lv_iadd hx hb dX10_goes_297 ?_
                        refine lv_topi (fun v57 ev57 => ?_)
                        refine lv_istore (lv' := [(13, .int (v57)), (8, .int (r48)), (12, .int (Ia13 (1006) ((v18).toNatClampNeg))), (11, .int (r33)), (10, .int (v24)), (9, .int (v18)), (7, .int (x7_13)), (6, .int (x6_13)), (5, .int (x5_13)), (0, .ref (ad (1000))), (1, .int (a0)), (2, .int (a1)), (3, .int (a2)), (4, .int (a3))]) hx hb dX10_goes_298 hl (by decide) rfl (fun ls hl => ?_)
                        refine lv_iload hx hb dX10_goes_300 (lv_at hl 1 rfl) ?_
                        refine lv_i2l hx hb dX10_goes_302 rfl ?_
                        refine lv_topl (fun v58 ev58 => ?_)
                        have tv58 := q_i2l ev58
                        refine lv_iload hx hb dX10_goes_303 (lv_at hl 0 rfl) ?_
                        refine lv_i2l hx hb dX10_goes_305 rfl ?_
                        refine lv_topl (fun v59 ev59 => ?_)
                        have tv59 := q_i2l ev59
                        refine lv_lmul hx hb dX10_goes_306 ?_
                        refine lv_topl (fun v60 ev60 => ?_)
                        refine lv_ldc2 (v := (1000)) hx hb hown (hts _ tb_1428) dX10_goes_307 ?_
                        refine lv_ldiv hx hb dX10_goes_310 (by decide) ?_
                        refine lv_topl (fun v61 ev61 => ?_)
                        refine lv_l2i hx hb dX10_goes_311 rfl ?_
                        refine lv_topi (fun v62 ev62 => ?_)
                        refine lv_istore (lv' := [(10, .int (v62)), (13, .int (v57)), (8, .int (r48)), (12, .int (Ia13 (1006) ((v18).toNatClampNeg))), (11, .int (r33)), (9, .int (v18)), (7, .int (x7_13)), (6, .int (x6_13)), (5, .int (x5_13)), (0, .ref (ad (1000))), (1, .int (a0)), (2, .int (a1)), (3, .int (a2)), (4, .int (a3))]) hx hb dX10_goes_312 hl (by decide) rfl (fun ls hl => ?_)
                        refine lv_aload_n hx hb dX10_goes_314 rfl (lv_at hl 9 rfl) ?_
                        refine lv_dup hx hb dX10_goes_315 rfl ?_
                        refine m_geti (1000) 53 hx hb hts hown hE oc10 hM hJ.1 rfl (by decide) rfl tb_1230 dX10_goes_316 ?_
                        have z63 : I49 (1000) 53 = v26 := ((hkI49.get (1000) 53 rfl)).trans (show (u2 (u2 (u2 Ia13 (1000) 55 (v4)) (1000) 53 (v26)) (1049) ((v18).toNatClampNeg) (Ia13 (1049) ((v18).toNatClampNeg))) (1000) 53 = v26 from by simp [u2_v])
                        rw [z63]
                        refine lv_iload hx hb dX10_goes_319 (lv_at hl 0 rfl) ?_
                        refine lv_iadd hx hb dX10_goes_321 ?_
                        refine lv_topi (fun v64 ev64 => ?_)
                        refine m_puti (1000) 53 hx hb hts hown hE oc10 hM hS hJ.1 rfl (by decide) rfl rfl rfl rfl tb_1230 dX10_goes_322 (fun H locs I65 eI65 hM hS => ?_)
                        subst eI65
                        have hI := hI.putF (n := 1000) (k := 53) (v := v64) rfl
                        have hK := hK.put (n := 1000) (k := 53) (v := v64) (by first | rfl | simp [inR])
                        refine lv_iload hx hb dX10_goes_325 (lv_at hl 2 rfl) ?_
                        refine lv_iload hx hb dX10_goes_327 (lv_at hl 0 rfl) ?_
                        refine lv_isub hx hb dX10_goes_329 ?_
                        refine lv_topi (fun v66 ev66 => ?_)
                        refine lv_istore (lv' := [(8, .int (v66)), (10, .int (v62)), (13, .int (v57)), (12, .int (Ia13 (1006) ((v18).toNatClampNeg))), (11, .int (r33)), (9, .int (v18)), (7, .int (x7_13)), (6, .int (x6_13)), (5, .int (x5_13)), (0, .ref (ad (1000))), (1, .int (a0)), (2, .int (a1)), (3, .int (a2)), (4, .int (a3))]) hx hb dX10_goes_330 hl (by decide) rfl (fun ls hl => ?_)
                        refine lv_iload hx hb dX10_goes_332 (lv_at hl 0 rfl) ?_
                        refine lv_i2l hx hb dX10_goes_334 rfl ?_
                        refine lv_topl (fun v67 ev67 => ?_)
                        have tv67 := q_i2l ev67
                        refine lv_aload_n hx hb dX10_goes_335 rfl (lv_at hl 9 rfl) ?_
                        refine m_getr (1000) 11 (1011) hx hb hts hown hE oc10 hM hJ.1 rfl (by decide) rfl (hJ.2 11 (by decide)).2 (by decide) tb_1188 dX10_goes_336 ?_
                        refine lv_iload hx hb dX10_goes_339 (lv_at hl 3 rfl) ?_
                        refine m_iald (1011) hx hb hE hM (hJ.2 11 (by decide)).1 rfl (vp_in_iff.mpr (by omega)) dX10_goes_341 ?_
                        have z68 : (u2 I49 (1000) 53 (v64)) (1011) (Ia13 (1006) ((v18).toNatClampNeg)).toNatClampNeg = Ia13 (1011) ((Ia13 (1006) ((v18).toNatClampNeg)).toNatClampNeg) := (((show (u2 I49 (1000) 53 (v64)) (1011) ((Ia13 (1006) ((v18).toNatClampNeg)).toNatClampNeg) = I49 (1011) ((Ia13 (1006) ((v18).toNatClampNeg)).toNatClampNeg) from by simp [u2_v])).trans (congrFun (hkI49.getA (1011) rfl) ((Ia13 (1006) ((v18).toNatClampNeg)).toNatClampNeg))).trans (show (u2 (u2 (u2 Ia13 (1000) 55 (v4)) (1000) 53 (v26)) (1049) ((v18).toNatClampNeg) (Ia13 (1049) ((v18).toNatClampNeg))) (1011) ((Ia13 (1006) ((v18).toNatClampNeg)).toNatClampNeg) = Ia13 (1011) ((Ia13 (1006) ((v18).toNatClampNeg)).toNatClampNeg) from by simp [u2_v])
                        rw [z68]
                        refine lv_i2l hx hb dX10_goes_342 rfl ?_
                        refine lv_topl (fun v69 ev69 => ?_)
                        have tv69 := q_i2l ev69
                        refine lv_lmul hx hb dX10_goes_343 ?_
                        refine lv_topl (fun v70 ev70 => ?_)
                        refine lv_ldc2 (v := (1000)) hx hb hown (hts _ tb_1428) dX10_goes_344 ?_
                        refine lv_ldiv hx hb dX10_goes_347 (by decide) ?_
                        refine lv_topl (fun v71 ev71 => ?_)
                        refine lv_l2i hx hb dX10_goes_348 rfl ?_
                        refine lv_topi (fun v72 ev72 => ?_)
                        refine lv_istore (lv' := [(14, .int (v72)), (8, .int (v66)), (10, .int (v62)), (13, .int (v57)), (12, .int (Ia13 (1006) ((v18).toNatClampNeg))), (11, .int (r33)), (9, .int (v18)), (7, .int (x7_13)), (6, .int (x6_13)), (5, .int (x5_13)), (0, .ref (ad (1000))), (1, .int (a0)), (2, .int (a1)), (3, .int (a2)), (4, .int (a3))]) hx hb dX10_goes_349 hl (by decide) rfl (fun ls hl => ?_)
                        refine lv_iload hx hb dX10_goes_351 (lv_at hl 1 rfl) ?_
                        refine lv_iload hx hb dX10_goes_353 (lv_at hl 0 rfl) ?_
                        refine lv_isub hx hb dX10_goes_355 ?_
                        refine lv_topi (fun v73 ev73 => ?_)
                        refine lv_istore (lv' := [(8, .int (v73)), (14, .int (v72)), (10, .int (v62)), (13, .int (v57)), (12, .int (Ia13 (1006) ((v18).toNatClampNeg))), (11, .int (r33)), (9, .int (v18)), (7, .int (x7_13)), (6, .int (x6_13)), (5, .int (x5_13)), (0, .ref (ad (1000))), (1, .int (a0)), (2, .int (a1)), (3, .int (a2)), (4, .int (a3))]) hx hb dX10_goes_356 hl (by decide) rfl (fun ls hl => ?_)
                        refine lv_iload hx hb dX10_goes_358 (lv_at hl 1 rfl) ?_
                        refine lv_if_le (tgt := 387) hx hb dX10_goes_360 (by decide) (fun c74 => ?_) (fun c74 => ?_)
                        · have hc74 := c74
                          have q74 := q_le hc74
                          refine lv_aload_n hx hb dX10_goes_387 rfl (lv_at hl 10 rfl) ?_
                          refine m_getr (1000) 9 (1009) hx hb hts hown hE oc10 hM hJ.1 rfl (by decide) rfl (hJ.2 9 (by decide)).2 (by decide) tb_1186 dX10_goes_388 ?_
                          refine lv_iload hx hb dX10_goes_391 (lv_at hl 4 rfl) ?_
                          refine m_iald (1009) hx hb hE hM (hJ.2 9 (by decide)).1 rfl (vp_in_iff.mpr (by omega)) dX10_goes_393 ?_
                          have z75 : (u2 I49 (1000) 53 (v64)) (1009) (Ia13 (1006) ((v18).toNatClampNeg)).toNatClampNeg = Ia13 (1009) ((Ia13 (1006) ((v18).toNatClampNeg)).toNatClampNeg) := (((show (u2 I49 (1000) 53 (v64)) (1009) ((Ia13 (1006) ((v18).toNatClampNeg)).toNatClampNeg) = I49 (1009) ((Ia13 (1006) ((v18).toNatClampNeg)).toNatClampNeg) from by simp [u2_v])).trans (congrFun (hkI49.getA (1009) rfl) ((Ia13 (1006) ((v18).toNatClampNeg)).toNatClampNeg))).trans (show (u2 (u2 (u2 Ia13 (1000) 55 (v4)) (1000) 53 (v26)) (1049) ((v18).toNatClampNeg) (Ia13 (1049) ((v18).toNatClampNeg))) (1009) ((Ia13 (1006) ((v18).toNatClampNeg)).toNatClampNeg) = Ia13 (1009) ((Ia13 (1006) ((v18).toNatClampNeg)).toNatClampNeg) from by simp [u2_v])
                          rw [z75]
                          refine lv_iload hx hb dX10_goes_394 (lv_at hl 7 rfl) ?_
                          refine lv_isub hx hb dX10_goes_396 ?_
                          refine lv_topi (fun v76 ev76 => ?_)
                          refine lv_bipush (v := (8)) hx hb dX10_goes_397 (by decide) ?_
                          refine lv_iadd hx hb dX10_goes_399 ?_
                          refine lv_topi (fun v77 ev77 => ?_)
                          refine lv_bipush (v := (8)) hx hb dX10_goes_400 (by decide) ?_
                          refine lv_irem hx hb dX10_goes_402 (by decide) ?_
                          refine lv_topi (fun v78 ev78 => ?_)
                          refine lv_istore (lv' := [(7, .int (v78)), (8, .int (v73)), (14, .int (v72)), (10, .int (v62)), (13, .int (v57)), (12, .int (Ia13 (1006) ((v18).toNatClampNeg))), (11, .int (r33)), (9, .int (v18)), (6, .int (x6_13)), (5, .int (x5_13)), (0, .ref (ad (1000))), (1, .int (a0)), (2, .int (a1)), (3, .int (a2)), (4, .int (a3))]) hx hb dX10_goes_403 hl (by decide) rfl (fun ls hl => ?_)
                          refine lv_iload hx hb dX10_goes_405 (lv_at hl 9 rfl) ?_
                          refine lv_iload hx hb dX10_goes_407 (lv_at hl 0 rfl) ?_
                          refine m_calli (m_runS (As := [.int (v78)]) (rest := [.int (x5_13)]) hx hb hml hown hts hE hM hS hA ce_X10_stepX tb_1660 (V_X10_stepX l D A ad ns (u2 I49 (1000) 53 (v64)) L50 G (v78) hI) rfl rfl ⟨Nat.le_of_ble_eq_true rfl, Nat.le_of_ble_eq_true rfl⟩  rfl hl.1 rfl (Nat.le_of_ble_eq_true rfl) dX10_goes_409 ⟨Nat.le_of_ble_eq_true rfl, Nat.le_of_ble_eq_true rfl⟩) hS (fun r79 u H locs hw hM hS => ?_)
                          obtain ⟨rfl, xr79⟩ := hw
                          have hM : Mem D A ad ns (u2 I49 (1000) 53 (v64)) L50 G H := hM
                          refine lv_iadd hx hb dX10_goes_412 ?_
                          refine lv_topi (fun v80 ev80 => ?_)
                          have tv80 := a_add ev80 (by omega) (by omega)
                          refine lv_istore (lv' := [(5, .int (v80)), (7, .int (v78)), (8, .int (v73)), (14, .int (v72)), (10, .int (v62)), (13, .int (v57)), (12, .int (Ia13 (1006) ((v18).toNatClampNeg))), (11, .int (r33)), (9, .int (v18)), (6, .int (x6_13)), (0, .ref (ad (1000))), (1, .int (a0)), (2, .int (a1)), (3, .int (a2)), (4, .int (a3))]) hx hb dX10_goes_413 hl (by decide) rfl (fun ls hl => ?_)
                          refine lv_iload hx hb dX10_goes_415 (lv_at hl 9 rfl) ?_
                          refine lv_iload hx hb dX10_goes_417 (lv_at hl 1 rfl) ?_
                          refine m_calli (m_runS (As := [.int (v78)]) (rest := [.int (x6_13)]) hx hb hml hown hts hE hM hS hA ce_X10_stepY tb_1663 (V_X10_stepY l D A ad ns (u2 I49 (1000) 53 (v64)) L50 G (v78) hI) rfl rfl ⟨Nat.le_of_ble_eq_true rfl, Nat.le_of_ble_eq_true rfl⟩  rfl hl.1 rfl (Nat.le_of_ble_eq_true rfl) dX10_goes_419 ⟨Nat.le_of_ble_eq_true rfl, Nat.le_of_ble_eq_true rfl⟩) hS (fun r81 u H locs hw hM hS => ?_)
                          obtain ⟨rfl, xr81⟩ := hw
                          have hM : Mem D A ad ns (u2 I49 (1000) 53 (v64)) L50 G H := hM
                          refine lv_iadd hx hb dX10_goes_422 ?_
                          refine lv_topi (fun v82 ev82 => ?_)
                          have tv82 := a_add ev82 (by omega) (by omega)
                          refine lv_istore (lv' := [(6, .int (v82)), (5, .int (v80)), (7, .int (v78)), (8, .int (v73)), (14, .int (v72)), (10, .int (v62)), (13, .int (v57)), (12, .int (Ia13 (1006) ((v18).toNatClampNeg))), (11, .int (r33)), (9, .int (v18)), (0, .ref (ad (1000))), (1, .int (a0)), (2, .int (a1)), (3, .int (a2)), (4, .int (a3))]) hx hb dX10_goes_423 hl (by decide) rfl (fun ls hl => ?_)
                          refine lv_goto (tgt := 13) hx hb dX10_goes_425 (by decide) ?_
                          have tr100055 : ((u2 I49 (1000) 53 (v64)) (1000) 55).toInt = (v4 : Int32).toInt := congrArg Int32.toInt ((((show (u2 I49 (1000) 53 (v64)) (1000) 55 = I49 (1000) 55 from by simp [u2_v])).trans (hkI49.get (1000) 55 rfl)).trans (show (u2 (u2 (u2 Ia13 (1000) 55 (v4)) (1000) 53 (v26)) (1049) ((v18).toNatClampNeg) (Ia13 (1049) ((v18).toNatClampNeg))) (1000) 55 = v4 from by simp [u2_v]))
                          have tr100052 : ((u2 I49 (1000) 53 (v64)) (1000) 52).toInt = (Ia13 (1000) 52 : Int32).toInt := congrArg Int32.toInt ((((show (u2 I49 (1000) 53 (v64)) (1000) 52 = I49 (1000) 52 from by simp [u2_v])).trans (hkI49.get (1000) 52 rfl)).trans (show (u2 (u2 (u2 Ia13 (1000) 55 (v4)) (1000) 53 (v26)) (1049) ((v18).toNatClampNeg) (Ia13 (1049) ((v18).toNatClampNeg))) (1000) 52 = Ia13 (1000) 52 from by simp [u2_v]))
                          exact ih13 (v73) (v78) (v82) (v80) (u2 I49 (1000) 53 (v64)) L50 _ _ ls hI hK (by omega) (by omega) hM hS (lv_sub hl [3, 2, 0, 1, 10, 11, 12, 13, 14] rfl)
                        · have hc74 := c74
                          have q74 := q_nle hc74
                          refine lv_aload_n hx hb dX10_goes_363 rfl (lv_at hl 10 rfl) ?_
                          refine lv_iload hx hb dX10_goes_364 (lv_at hl 9 rfl) ?_
                          refine lv_iload hx hb dX10_goes_366 (lv_at hl 7 rfl) ?_
                          refine m_calli (m_runS (As := [.int (x7_13)]) (rest := [.int (x5_13), .ref (ad (1000))]) hx hb hml hown hts hE hM hS hA ce_X10_stepX tb_1660 (V_X10_stepX l D A ad ns (u2 I49 (1000) 53 (v64)) L50 G (x7_13) hI) rfl rfl ⟨Nat.le_of_ble_eq_true rfl, Nat.le_of_ble_eq_true rfl⟩  rfl hl.1 rfl (Nat.le_of_ble_eq_true rfl) dX10_goes_368 ⟨Nat.le_of_ble_eq_true rfl, Nat.le_of_ble_eq_true rfl⟩) hS (fun r83 u H locs hw hM hS => ?_)
                          obtain ⟨rfl, xr83⟩ := hw
                          have hM : Mem D A ad ns (u2 I49 (1000) 53 (v64)) L50 G H := hM
                          refine lv_iadd hx hb dX10_goes_371 ?_
                          refine lv_topi (fun v84 ev84 => ?_)
                          have tv84 := a_add ev84 (by omega) (by omega)
                          refine lv_iload hx hb dX10_goes_372 (lv_at hl 8 rfl) ?_
                          refine lv_iload hx hb dX10_goes_374 (lv_at hl 7 rfl) ?_
                          refine m_calli (m_runS (As := [.int (x7_13)]) (rest := [.int (x6_13), .int (v84), .ref (ad (1000))]) hx hb hml hown hts hE hM hS hA ce_X10_stepY tb_1663 (V_X10_stepY l D A ad ns (u2 I49 (1000) 53 (v64)) L50 G (x7_13) hI) rfl rfl ⟨Nat.le_of_ble_eq_true rfl, Nat.le_of_ble_eq_true rfl⟩  rfl hl.1 rfl (Nat.le_of_ble_eq_true rfl) dX10_goes_376 ⟨Nat.le_of_ble_eq_true rfl, Nat.le_of_ble_eq_true rfl⟩) hS (fun r85 u H locs hw hM hS => ?_)
                          obtain ⟨rfl, xr85⟩ := hw
                          have hM : Mem D A ad ns (u2 I49 (1000) 53 (v64)) L50 G H := hM
                          refine lv_iadd hx hb dX10_goes_379 ?_
                          refine lv_topi (fun v86 ev86 => ?_)
                          have tv86 := a_add ev86 (by omega) (by omega)
                          refine lv_iload hx hb dX10_goes_380 (lv_at hl 7 rfl) ?_
                          refine lv_iload hx hb dX10_goes_382 (lv_at hl 1 rfl) ?_
                          refine m_callv (m_runV (1000) (As := [.int (v84), .int (v86), .int (x7_13), .int (v72)]) (rest := []) hx hb hml hown hts hE hM hS hA ce_X10_waitsFor tb_1666 (V_X10_waitsFor l D A ad ns (u2 I49 (1000) 53 (v64)) L50 G (v84) (v86) (x7_13) (v72) hJ hI) rfl rfl ⟨Nat.le_of_ble_eq_true rfl, Nat.le_of_ble_eq_true rfl⟩ hJ.1 rfl rfl (by decide) rfl hl.1 rfl (Nat.le_of_ble_eq_true rfl) dX10_goes_384 ⟨Nat.le_of_ble_eq_true rfl, Nat.le_of_ble_eq_true rfl⟩) hS (fun u H locs hw hM hS => ?_)
                          obtain ⟨I87, L88, rfl, hI, hkI87, xI87⟩ := hw
                          have hM : Mem D A ad ns I87 L88 G H := hM
                          have hK := hK.trans hkI87 rfl
                          have pw89 : ((u2 I49 (1000) 53 (v64)) (1000) 52).toInt = (Ia13 (1000) 52 : Int32).toInt := congrArg Int32.toInt ((((show (u2 I49 (1000) 53 (v64)) (1000) 52 = I49 (1000) 52 from by simp [u2_v])).trans (hkI49.get (1000) 52 rfl)).trans (show (u2 (u2 (u2 Ia13 (1000) 55 (v4)) (1000) 53 (v26)) (1049) ((v18).toNatClampNeg) (Ia13 (1049) ((v18).toNatClampNeg))) (1000) 52 = Ia13 (1000) 52 from by simp [u2_v]))
                          refine lv_aload_n hx hb dX10_goes_387 rfl (lv_at hl 10 rfl) ?_
                          refine m_getr (1000) 9 (1009) hx hb hts hown hE oc10 hM hJ.1 rfl (by decide) rfl (hJ.2 9 (by decide)).2 (by decide) tb_1186 dX10_goes_388 ?_
                          refine lv_iload hx hb dX10_goes_391 (lv_at hl 4 rfl) ?_
                          refine m_iald (1009) hx hb hE hM (hJ.2 9 (by decide)).1 rfl (vp_in_iff.mpr (by omega)) dX10_goes_393 ?_
                          have z90 : I87 (1009) (Ia13 (1006) ((v18).toNatClampNeg)).toNatClampNeg = Ia13 (1009) ((Ia13 (1006) ((v18).toNatClampNeg)).toNatClampNeg) := ((((congrFun (hkI87.getA (1009) rfl) ((Ia13 (1006) ((v18).toNatClampNeg)).toNatClampNeg))).trans (show (u2 I49 (1000) 53 (v64)) (1009) ((Ia13 (1006) ((v18).toNatClampNeg)).toNatClampNeg) = I49 (1009) ((Ia13 (1006) ((v18).toNatClampNeg)).toNatClampNeg) from by simp [u2_v])).trans (congrFun (hkI49.getA (1009) rfl) ((Ia13 (1006) ((v18).toNatClampNeg)).toNatClampNeg))).trans (show (u2 (u2 (u2 Ia13 (1000) 55 (v4)) (1000) 53 (v26)) (1049) ((v18).toNatClampNeg) (Ia13 (1049) ((v18).toNatClampNeg))) (1009) ((Ia13 (1006) ((v18).toNatClampNeg)).toNatClampNeg) = Ia13 (1009) ((Ia13 (1006) ((v18).toNatClampNeg)).toNatClampNeg) from by simp [u2_v])
                          rw [z90]
                          refine lv_iload hx hb dX10_goes_394 (lv_at hl 7 rfl) ?_
                          refine lv_isub hx hb dX10_goes_396 ?_
                          refine lv_topi (fun v91 ev91 => ?_)
                          refine lv_bipush (v := (8)) hx hb dX10_goes_397 (by decide) ?_
                          refine lv_iadd hx hb dX10_goes_399 ?_
                          refine lv_topi (fun v92 ev92 => ?_)
                          refine lv_bipush (v := (8)) hx hb dX10_goes_400 (by decide) ?_
                          refine lv_irem hx hb dX10_goes_402 (by decide) ?_
                          refine lv_topi (fun v93 ev93 => ?_)
                          refine lv_istore (lv' := [(7, .int (v93)), (8, .int (v73)), (14, .int (v72)), (10, .int (v62)), (13, .int (v57)), (12, .int (Ia13 (1006) ((v18).toNatClampNeg))), (11, .int (r33)), (9, .int (v18)), (6, .int (x6_13)), (5, .int (x5_13)), (0, .ref (ad (1000))), (1, .int (a0)), (2, .int (a1)), (3, .int (a2)), (4, .int (a3))]) hx hb dX10_goes_403 hl (by decide) rfl (fun ls hl => ?_)
                          refine lv_iload hx hb dX10_goes_405 (lv_at hl 9 rfl) ?_
                          refine lv_iload hx hb dX10_goes_407 (lv_at hl 0 rfl) ?_
                          refine m_calli (m_runS (As := [.int (v93)]) (rest := [.int (x5_13)]) hx hb hml hown hts hE hM hS hA ce_X10_stepX tb_1660 (V_X10_stepX l D A ad ns I87 L88 G (v93) hI) rfl rfl ⟨Nat.le_of_ble_eq_true rfl, Nat.le_of_ble_eq_true rfl⟩  rfl hl.1 rfl (Nat.le_of_ble_eq_true rfl) dX10_goes_409 ⟨Nat.le_of_ble_eq_true rfl, Nat.le_of_ble_eq_true rfl⟩) hS (fun r94 u H locs hw hM hS => ?_)
                          obtain ⟨rfl, xr94⟩ := hw
                          have hM : Mem D A ad ns I87 L88 G H := hM
                          refine lv_iadd hx hb dX10_goes_412 ?_
                          refine lv_topi (fun v95 ev95 => ?_)
                          have tv95 := a_add ev95 (by omega) (by omega)
                          refine lv_istore (lv' := [(5, .int (v95)), (7, .int (v93)), (8, .int (v73)), (14, .int (v72)), (10, .int (v62)), (13, .int (v57)), (12, .int (Ia13 (1006) ((v18).toNatClampNeg))), (11, .int (r33)), (9, .int (v18)), (6, .int (x6_13)), (0, .ref (ad (1000))), (1, .int (a0)), (2, .int (a1)), (3, .int (a2)), (4, .int (a3))]) hx hb dX10_goes_413 hl (by decide) rfl (fun ls hl => ?_)
                          refine lv_iload hx hb dX10_goes_415 (lv_at hl 9 rfl) ?_
                          refine lv_iload hx hb dX10_goes_417 (lv_at hl 1 rfl) ?_
                          refine m_calli (m_runS (As := [.int (v93)]) (rest := [.int (x6_13)]) hx hb hml hown hts hE hM hS hA ce_X10_stepY tb_1663 (V_X10_stepY l D A ad ns I87 L88 G (v93) hI) rfl rfl ⟨Nat.le_of_ble_eq_true rfl, Nat.le_of_ble_eq_true rfl⟩  rfl hl.1 rfl (Nat.le_of_ble_eq_true rfl) dX10_goes_419 ⟨Nat.le_of_ble_eq_true rfl, Nat.le_of_ble_eq_true rfl⟩) hS (fun r96 u H locs hw hM hS => ?_)
                          obtain ⟨rfl, xr96⟩ := hw
                          have hM : Mem D A ad ns I87 L88 G H := hM
                          refine lv_iadd hx hb dX10_goes_422 ?_
                          refine lv_topi (fun v97 ev97 => ?_)
                          have tv97 := a_add ev97 (by omega) (by omega)
                          refine lv_istore (lv' := [(6, .int (v97)), (5, .int (v95)), (7, .int (v93)), (8, .int (v73)), (14, .int (v72)), (10, .int (v62)), (13, .int (v57)), (12, .int (Ia13 (1006) ((v18).toNatClampNeg))), (11, .int (r33)), (9, .int (v18)), (0, .ref (ad (1000))), (1, .int (a0)), (2, .int (a1)), (3, .int (a2)), (4, .int (a3))]) hx hb dX10_goes_423 hl (by decide) rfl (fun ls hl => ?_)
                          refine lv_goto (tgt := 13) hx hb dX10_goes_425 (by decide) ?_
                          have tr100055 : (I87 (1000) 55).toInt = (v4 : Int32).toInt := congrArg Int32.toInt (((((hkI87.get (1000) 55 rfl)).trans (show (u2 I49 (1000) 53 (v64)) (1000) 55 = I49 (1000) 55 from by simp [u2_v])).trans (hkI49.get (1000) 55 rfl)).trans (show (u2 (u2 (u2 Ia13 (1000) 55 (v4)) (1000) 53 (v26)) (1049) ((v18).toNatClampNeg) (Ia13 (1049) ((v18).toNatClampNeg))) (1000) 55 = v4 from by simp [u2_v]))
                          exact ih13 (v73) (v93) (v97) (v95) I87 L88 _ _ ls hI hK (by omega) (by omega) hM hS (lv_sub hl [3, 2, 0, 1, 10, 11, 12, 13, 14] rfl)
                      · have hc54 := c54
                        have q54 := q_nle hc54
                        refine lv_sipush (v := (1000)) hx hb dX10_goes_277 (by decide) ?_
                        refine lv_goto (tgt := 298) hx hb dX10_goes_280 (by decide) ?_
                        refine lv_istore (lv' := [(13, .int (1000)), (8, .int (r48)), (12, .int (Ia13 (1006) ((v18).toNatClampNeg))), (11, .int (r33)), (10, .int (v24)), (9, .int (v18)), (7, .int (x7_13)), (6, .int (x6_13)), (5, .int (x5_13)), (0, .ref (ad (1000))), (1, .int (a0)), (2, .int (a1)), (3, .int (a2)), (4, .int (a3))]) hx hb dX10_goes_298 hl (by decide) rfl (fun ls hl => ?_)
                        refine lv_iload hx hb dX10_goes_300 (lv_at hl 1 rfl) ?_
                        refine lv_i2l hx hb dX10_goes_302 rfl ?_
                        refine lv_topl (fun v98 ev98 => ?_)
                        have tv98 := q_i2l ev98
                        refine lv_iload hx hb dX10_goes_303 (lv_at hl 0 rfl) ?_
                        refine lv_i2l hx hb dX10_goes_305 rfl ?_
                        refine lv_topl (fun v99 ev99 => ?_)
                        have tv99 := q_i2l ev99
                        refine lv_lmul hx hb dX10_goes_306 ?_
                        refine lv_topl (fun v100 ev100 => ?_)
                        refine lv_ldc2 (v := (1000)) hx hb hown (hts _ tb_1428) dX10_goes_307 ?_
                        refine lv_ldiv hx hb dX10_goes_310 (by decide) ?_
                        refine lv_topl (fun v101 ev101 => ?_)
                        refine lv_l2i hx hb dX10_goes_311 rfl ?_
                        refine lv_topi (fun v102 ev102 => ?_)
                        refine lv_istore (lv' := [(10, .int (v102)), (13, .int (1000)), (8, .int (r48)), (12, .int (Ia13 (1006) ((v18).toNatClampNeg))), (11, .int (r33)), (9, .int (v18)), (7, .int (x7_13)), (6, .int (x6_13)), (5, .int (x5_13)), (0, .ref (ad (1000))), (1, .int (a0)), (2, .int (a1)), (3, .int (a2)), (4, .int (a3))]) hx hb dX10_goes_312 hl (by decide) rfl (fun ls hl => ?_)
                        refine lv_aload_n hx hb dX10_goes_314 rfl (lv_at hl 9 rfl) ?_
                        refine lv_dup hx hb dX10_goes_315 rfl ?_
                        refine m_geti (1000) 53 hx hb hts hown hE oc10 hM hJ.1 rfl (by decide) rfl tb_1230 dX10_goes_316 ?_
                        have z103 : I49 (1000) 53 = v26 := ((hkI49.get (1000) 53 rfl)).trans (show (u2 (u2 (u2 Ia13 (1000) 55 (v4)) (1000) 53 (v26)) (1049) ((v18).toNatClampNeg) (Ia13 (1049) ((v18).toNatClampNeg))) (1000) 53 = v26 from by simp [u2_v])
                        rw [z103]
                        refine lv_iload hx hb dX10_goes_319 (lv_at hl 0 rfl) ?_
                        refine lv_iadd hx hb dX10_goes_321 ?_
                        refine lv_topi (fun v104 ev104 => ?_)
                        refine m_puti (1000) 53 hx hb hts hown hE oc10 hM hS hJ.1 rfl (by decide) rfl rfl rfl rfl tb_1230 dX10_goes_322 (fun H locs I105 eI105 hM hS => ?_)
                        subst eI105
                        have hI := hI.putF (n := 1000) (k := 53) (v := v104) rfl
                        have hK := hK.put (n := 1000) (k := 53) (v := v104) (by first | rfl | simp [inR])
                        refine lv_iload hx hb dX10_goes_325 (lv_at hl 2 rfl) ?_
                        refine lv_iload hx hb dX10_goes_327 (lv_at hl 0 rfl) ?_
                        refine lv_isub hx hb dX10_goes_329 ?_
                        refine lv_topi (fun v106 ev106 => ?_)
                        refine lv_istore (lv' := [(8, .int (v106)), (10, .int (v102)), (13, .int (1000)), (12, .int (Ia13 (1006) ((v18).toNatClampNeg))), (11, .int (r33)), (9, .int (v18)), (7, .int (x7_13)), (6, .int (x6_13)), (5, .int (x5_13)), (0, .ref (ad (1000))), (1, .int (a0)), (2, .int (a1)), (3, .int (a2)), (4, .int (a3))]) hx hb dX10_goes_330 hl (by decide) rfl (fun ls hl => ?_)
                        refine lv_iload hx hb dX10_goes_332 (lv_at hl 0 rfl) ?_
                        refine lv_i2l hx hb dX10_goes_334 rfl ?_
                        refine lv_topl (fun v107 ev107 => ?_)
                        have tv107 := q_i2l ev107
                        refine lv_aload_n hx hb dX10_goes_335 rfl (lv_at hl 9 rfl) ?_
                        refine m_getr (1000) 11 (1011) hx hb hts hown hE oc10 hM hJ.1 rfl (by decide) rfl (hJ.2 11 (by decide)).2 (by decide) tb_1188 dX10_goes_336 ?_
                        refine lv_iload hx hb dX10_goes_339 (lv_at hl 3 rfl) ?_
                        refine m_iald (1011) hx hb hE hM (hJ.2 11 (by decide)).1 rfl (vp_in_iff.mpr (by omega)) dX10_goes_341 ?_
                        have z108 : (u2 I49 (1000) 53 (v104)) (1011) (Ia13 (1006) ((v18).toNatClampNeg)).toNatClampNeg = Ia13 (1011) ((Ia13 (1006) ((v18).toNatClampNeg)).toNatClampNeg) := (((show (u2 I49 (1000) 53 (v104)) (1011) ((Ia13 (1006) ((v18).toNatClampNeg)).toNatClampNeg) = I49 (1011) ((Ia13 (1006) ((v18).toNatClampNeg)).toNatClampNeg) from by simp [u2_v])).trans (congrFun (hkI49.getA (1011) rfl) ((Ia13 (1006) ((v18).toNatClampNeg)).toNatClampNeg))).trans (show (u2 (u2 (u2 Ia13 (1000) 55 (v4)) (1000) 53 (v26)) (1049) ((v18).toNatClampNeg) (Ia13 (1049) ((v18).toNatClampNeg))) (1011) ((Ia13 (1006) ((v18).toNatClampNeg)).toNatClampNeg) = Ia13 (1011) ((Ia13 (1006) ((v18).toNatClampNeg)).toNatClampNeg) from by simp [u2_v])
                        rw [z108]
                        refine lv_i2l hx hb dX10_goes_342 rfl ?_
                        refine lv_topl (fun v109 ev109 => ?_)
                        have tv109 := q_i2l ev109
                        refine lv_lmul hx hb dX10_goes_343 ?_
                        refine lv_topl (fun v110 ev110 => ?_)
                        refine lv_ldc2 (v := (1000)) hx hb hown (hts _ tb_1428) dX10_goes_344 ?_
                        refine lv_ldiv hx hb dX10_goes_347 (by decide) ?_
                        refine lv_topl (fun v111 ev111 => ?_)
                        refine lv_l2i hx hb dX10_goes_348 rfl ?_
                        refine lv_topi (fun v112 ev112 => ?_)
                        refine lv_istore (lv' := [(14, .int (v112)), (8, .int (v106)), (10, .int (v102)), (13, .int (1000)), (12, .int (Ia13 (1006) ((v18).toNatClampNeg))), (11, .int (r33)), (9, .int (v18)), (7, .int (x7_13)), (6, .int (x6_13)), (5, .int (x5_13)), (0, .ref (ad (1000))), (1, .int (a0)), (2, .int (a1)), (3, .int (a2)), (4, .int (a3))]) hx hb dX10_goes_349 hl (by decide) rfl (fun ls hl => ?_)
                        refine lv_iload hx hb dX10_goes_351 (lv_at hl 1 rfl) ?_
                        refine lv_iload hx hb dX10_goes_353 (lv_at hl 0 rfl) ?_
                        refine lv_isub hx hb dX10_goes_355 ?_
                        refine lv_topi (fun v113 ev113 => ?_)
                        refine lv_istore (lv' := [(8, .int (v113)), (14, .int (v112)), (10, .int (v102)), (13, .int (1000)), (12, .int (Ia13 (1006) ((v18).toNatClampNeg))), (11, .int (r33)), (9, .int (v18)), (7, .int (x7_13)), (6, .int (x6_13)), (5, .int (x5_13)), (0, .ref (ad (1000))), (1, .int (a0)), (2, .int (a1)), (3, .int (a2)), (4, .int (a3))]) hx hb dX10_goes_356 hl (by decide) rfl (fun ls hl => ?_)
                        refine lv_iload hx hb dX10_goes_358 (lv_at hl 1 rfl) ?_
                        refine lv_if_le (tgt := 387) hx hb dX10_goes_360 (by decide) (fun c114 => ?_) (fun c114 => ?_)
                        · have hc114 := c114
                          have q114 := q_le hc114
                          refine lv_aload_n hx hb dX10_goes_387 rfl (lv_at hl 10 rfl) ?_
                          refine m_getr (1000) 9 (1009) hx hb hts hown hE oc10 hM hJ.1 rfl (by decide) rfl (hJ.2 9 (by decide)).2 (by decide) tb_1186 dX10_goes_388 ?_
                          refine lv_iload hx hb dX10_goes_391 (lv_at hl 4 rfl) ?_
                          refine m_iald (1009) hx hb hE hM (hJ.2 9 (by decide)).1 rfl (vp_in_iff.mpr (by omega)) dX10_goes_393 ?_
                          have z115 : (u2 I49 (1000) 53 (v104)) (1009) (Ia13 (1006) ((v18).toNatClampNeg)).toNatClampNeg = Ia13 (1009) ((Ia13 (1006) ((v18).toNatClampNeg)).toNatClampNeg) := (((show (u2 I49 (1000) 53 (v104)) (1009) ((Ia13 (1006) ((v18).toNatClampNeg)).toNatClampNeg) = I49 (1009) ((Ia13 (1006) ((v18).toNatClampNeg)).toNatClampNeg) from by simp [u2_v])).trans (congrFun (hkI49.getA (1009) rfl) ((Ia13 (1006) ((v18).toNatClampNeg)).toNatClampNeg))).trans (show (u2 (u2 (u2 Ia13 (1000) 55 (v4)) (1000) 53 (v26)) (1049) ((v18).toNatClampNeg) (Ia13 (1049) ((v18).toNatClampNeg))) (1009) ((Ia13 (1006) ((v18).toNatClampNeg)).toNatClampNeg) = Ia13 (1009) ((Ia13 (1006) ((v18).toNatClampNeg)).toNatClampNeg) from by simp [u2_v])
                          rw [z115]
                          refine lv_iload hx hb dX10_goes_394 (lv_at hl 7 rfl) ?_
                          refine lv_isub hx hb dX10_goes_396 ?_
                          refine lv_topi (fun v116 ev116 => ?_)
                          refine lv_bipush (v := (8)) hx hb dX10_goes_397 (by decide) ?_
                          refine lv_iadd hx hb dX10_goes_399 ?_
                          refine lv_topi (fun v117 ev117 => ?_)
                          refine lv_bipush (v := (8)) hx hb dX10_goes_400 (by decide) ?_
                          refine lv_irem hx hb dX10_goes_402 (by decide) ?_
                          refine lv_topi (fun v118 ev118 => ?_)
                          refine lv_istore (lv' := [(7, .int (v118)), (8, .int (v113)), (14, .int (v112)), (10, .int (v102)), (13, .int (1000)), (12, .int (Ia13 (1006) ((v18).toNatClampNeg))), (11, .int (r33)), (9, .int (v18)), (6, .int (x6_13)), (5, .int (x5_13)), (0, .ref (ad (1000))), (1, .int (a0)), (2, .int (a1)), (3, .int (a2)), (4, .int (a3))]) hx hb dX10_goes_403 hl (by decide) rfl (fun ls hl => ?_)
                          refine lv_iload hx hb dX10_goes_405 (lv_at hl 9 rfl) ?_
                          refine lv_iload hx hb dX10_goes_407 (lv_at hl 0 rfl) ?_
                          refine m_calli (m_runS (As := [.int (v118)]) (rest := [.int (x5_13)]) hx hb hml hown hts hE hM hS hA ce_X10_stepX tb_1660 (V_X10_stepX l D A ad ns (u2 I49 (1000) 53 (v104)) L50 G (v118) hI) rfl rfl ⟨Nat.le_of_ble_eq_true rfl, Nat.le_of_ble_eq_true rfl⟩  rfl hl.1 rfl (Nat.le_of_ble_eq_true rfl) dX10_goes_409 ⟨Nat.le_of_ble_eq_true rfl, Nat.le_of_ble_eq_true rfl⟩) hS (fun r119 u H locs hw hM hS => ?_)
                          obtain ⟨rfl, xr119⟩ := hw
                          have hM : Mem D A ad ns (u2 I49 (1000) 53 (v104)) L50 G H := hM
                          refine lv_iadd hx hb dX10_goes_412 ?_
                          refine lv_topi (fun v120 ev120 => ?_)
                          have tv120 := a_add ev120 (by omega) (by omega)
                          refine lv_istore (lv' := [(5, .int (v120)), (7, .int (v118)), (8, .int (v113)), (14, .int (v112)), (10, .int (v102)), (13, .int (1000)), (12, .int (Ia13 (1006) ((v18).toNatClampNeg))), (11, .int (r33)), (9, .int (v18)), (6, .int (x6_13)), (0, .ref (ad (1000))), (1, .int (a0)), (2, .int (a1)), (3, .int (a2)), (4, .int (a3))]) hx hb dX10_goes_413 hl (by decide) rfl (fun ls hl => ?_)
                          refine lv_iload hx hb dX10_goes_415 (lv_at hl 9 rfl) ?_
                          refine lv_iload hx hb dX10_goes_417 (lv_at hl 1 rfl) ?_
                          refine m_calli (m_runS (As := [.int (v118)]) (rest := [.int (x6_13)]) hx hb hml hown hts hE hM hS hA ce_X10_stepY tb_1663 (V_X10_stepY l D A ad ns (u2 I49 (1000) 53 (v104)) L50 G (v118) hI) rfl rfl ⟨Nat.le_of_ble_eq_true rfl, Nat.le_of_ble_eq_true rfl⟩  rfl hl.1 rfl (Nat.le_of_ble_eq_true rfl) dX10_goes_419 ⟨Nat.le_of_ble_eq_true rfl, Nat.le_of_ble_eq_true rfl⟩) hS (fun r121 u H locs hw hM hS => ?_)
                          obtain ⟨rfl, xr121⟩ := hw
                          have hM : Mem D A ad ns (u2 I49 (1000) 53 (v104)) L50 G H := hM
                          refine lv_iadd hx hb dX10_goes_422 ?_
                          refine lv_topi (fun v122 ev122 => ?_)
                          have tv122 := a_add ev122 (by omega) (by omega)
                          refine lv_istore (lv' := [(6, .int (v122)), (5, .int (v120)), (7, .int (v118)), (8, .int (v113)), (14, .int (v112)), (10, .int (v102)), (13, .int (1000)), (12, .int (Ia13 (1006) ((v18).toNatClampNeg))), (11, .int (r33)), (9, .int (v18)), (0, .ref (ad (1000))), (1, .int (a0)), (2, .int (a1)), (3, .int (a2)), (4, .int (a3))]) hx hb dX10_goes_423 hl (by decide) rfl (fun ls hl => ?_)
                          refine lv_goto (tgt := 13) hx hb dX10_goes_425 (by decide) ?_
                          have tr100055 : ((u2 I49 (1000) 53 (v104)) (1000) 55).toInt = (v4 : Int32).toInt := congrArg Int32.toInt ((((show (u2 I49 (1000) 53 (v104)) (1000) 55 = I49 (1000) 55 from by simp [u2_v])).trans (hkI49.get (1000) 55 rfl)).trans (show (u2 (u2 (u2 Ia13 (1000) 55 (v4)) (1000) 53 (v26)) (1049) ((v18).toNatClampNeg) (Ia13 (1049) ((v18).toNatClampNeg))) (1000) 55 = v4 from by simp [u2_v]))
                          have tr100052 : ((u2 I49 (1000) 53 (v104)) (1000) 52).toInt = (Ia13 (1000) 52 : Int32).toInt := congrArg Int32.toInt ((((show (u2 I49 (1000) 53 (v104)) (1000) 52 = I49 (1000) 52 from by simp [u2_v])).trans (hkI49.get (1000) 52 rfl)).trans (show (u2 (u2 (u2 Ia13 (1000) 55 (v4)) (1000) 53 (v26)) (1049) ((v18).toNatClampNeg) (Ia13 (1049) ((v18).toNatClampNeg))) (1000) 52 = Ia13 (1000) 52 from by simp [u2_v]))
                          exact ih13 (v113) (v118) (v122) (v120) (u2 I49 (1000) 53 (v104)) L50 _ _ ls hI hK (by omega) (by omega) hM hS (lv_sub hl [3, 2, 0, 1, 10, 11, 12, 13, 14] rfl)
                        · have hc114 := c114
                          have q114 := q_nle hc114
                          refine lv_aload_n hx hb dX10_goes_363 rfl (lv_at hl 10 rfl) ?_
                          refine lv_iload hx hb dX10_goes_364 (lv_at hl 9 rfl) ?_
                          refine lv_iload hx hb dX10_goes_366 (lv_at hl 7 rfl) ?_
                          refine m_calli (m_runS (As := [.int (x7_13)]) (rest := [.int (x5_13), .ref (ad (1000))]) hx hb hml hown hts hE hM hS hA ce_X10_stepX tb_1660 (V_X10_stepX l D A ad ns (u2 I49 (1000) 53 (v104)) L50 G (x7_13) hI) rfl rfl ⟨Nat.le_of_ble_eq_true rfl, Nat.le_of_ble_eq_true rfl⟩  rfl hl.1 rfl (Nat.le_of_ble_eq_true rfl) dX10_goes_368 ⟨Nat.le_of_ble_eq_true rfl, Nat.le_of_ble_eq_true rfl⟩) hS (fun r123 u H locs hw hM hS => ?_)
                          obtain ⟨rfl, xr123⟩ := hw
                          have hM : Mem D A ad ns (u2 I49 (1000) 53 (v104)) L50 G H := hM
                          refine lv_iadd hx hb dX10_goes_371 ?_
                          refine lv_topi (fun v124 ev124 => ?_)
                          have tv124 := a_add ev124 (by omega) (by omega)
                          refine lv_iload hx hb dX10_goes_372 (lv_at hl 8 rfl) ?_
                          refine lv_iload hx hb dX10_goes_374 (lv_at hl 7 rfl) ?_
                          refine m_calli (m_runS (As := [.int (x7_13)]) (rest := [.int (x6_13), .int (v124), .ref (ad (1000))]) hx hb hml hown hts hE hM hS hA ce_X10_stepY tb_1663 (V_X10_stepY l D A ad ns (u2 I49 (1000) 53 (v104)) L50 G (x7_13) hI) rfl rfl ⟨Nat.le_of_ble_eq_true rfl, Nat.le_of_ble_eq_true rfl⟩  rfl hl.1 rfl (Nat.le_of_ble_eq_true rfl) dX10_goes_376 ⟨Nat.le_of_ble_eq_true rfl, Nat.le_of_ble_eq_true rfl⟩) hS (fun r125 u H locs hw hM hS => ?_)
                          obtain ⟨rfl, xr125⟩ := hw
                          have hM : Mem D A ad ns (u2 I49 (1000) 53 (v104)) L50 G H := hM
                          refine lv_iadd hx hb dX10_goes_379 ?_
                          refine lv_topi (fun v126 ev126 => ?_)
                          have tv126 := a_add ev126 (by omega) (by omega)
                          refine lv_iload hx hb dX10_goes_380 (lv_at hl 7 rfl) ?_
                          refine lv_iload hx hb dX10_goes_382 (lv_at hl 1 rfl) ?_
                          refine m_callv (m_runV (1000) (As := [.int (v124), .int (v126), .int (x7_13), .int (v112)]) (rest := []) hx hb hml hown hts hE hM hS hA ce_X10_waitsFor tb_1666 (V_X10_waitsFor l D A ad ns (u2 I49 (1000) 53 (v104)) L50 G (v124) (v126) (x7_13) (v112) hJ hI) rfl rfl ⟨Nat.le_of_ble_eq_true rfl, Nat.le_of_ble_eq_true rfl⟩ hJ.1 rfl rfl (by decide) rfl hl.1 rfl (Nat.le_of_ble_eq_true rfl) dX10_goes_384 ⟨Nat.le_of_ble_eq_true rfl, Nat.le_of_ble_eq_true rfl⟩) hS (fun u H locs hw hM hS => ?_)
                          obtain ⟨I127, L128, rfl, hI, hkI127, xI127⟩ := hw
                          have hM : Mem D A ad ns I127 L128 G H := hM
                          have hK := hK.trans hkI127 rfl
                          have pw129 : ((u2 I49 (1000) 53 (v104)) (1000) 52).toInt = (Ia13 (1000) 52 : Int32).toInt := congrArg Int32.toInt ((((show (u2 I49 (1000) 53 (v104)) (1000) 52 = I49 (1000) 52 from by simp [u2_v])).trans (hkI49.get (1000) 52 rfl)).trans (show (u2 (u2 (u2 Ia13 (1000) 55 (v4)) (1000) 53 (v26)) (1049) ((v18).toNatClampNeg) (Ia13 (1049) ((v18).toNatClampNeg))) (1000) 52 = Ia13 (1000) 52 from by simp [u2_v]))
                          refine lv_aload_n hx hb dX10_goes_387 rfl (lv_at hl 10 rfl) ?_
                          refine m_getr (1000) 9 (1009) hx hb hts hown hE oc10 hM hJ.1 rfl (by decide) rfl (hJ.2 9 (by decide)).2 (by decide) tb_1186 dX10_goes_388 ?_
                          refine lv_iload hx hb dX10_goes_391 (lv_at hl 4 rfl) ?_
                          refine m_iald (1009) hx hb hE hM (hJ.2 9 (by decide)).1 rfl (vp_in_iff.mpr (by omega)) dX10_goes_393 ?_
                          have z130 : I127 (1009) (Ia13 (1006) ((v18).toNatClampNeg)).toNatClampNeg = Ia13 (1009) ((Ia13 (1006) ((v18).toNatClampNeg)).toNatClampNeg) := ((((congrFun (hkI127.getA (1009) rfl) ((Ia13 (1006) ((v18).toNatClampNeg)).toNatClampNeg))).trans (show (u2 I49 (1000) 53 (v104)) (1009) ((Ia13 (1006) ((v18).toNatClampNeg)).toNatClampNeg) = I49 (1009) ((Ia13 (1006) ((v18).toNatClampNeg)).toNatClampNeg) from by simp [u2_v])).trans (congrFun (hkI49.getA (1009) rfl) ((Ia13 (1006) ((v18).toNatClampNeg)).toNatClampNeg))).trans (show (u2 (u2 (u2 Ia13 (1000) 55 (v4)) (1000) 53 (v26)) (1049) ((v18).toNatClampNeg) (Ia13 (1049) ((v18).toNatClampNeg))) (1009) ((Ia13 (1006) ((v18).toNatClampNeg)).toNatClampNeg) = Ia13 (1009) ((Ia13 (1006) ((v18).toNatClampNeg)).toNatClampNeg) from by simp [u2_v])
                          rw [z130]
                          refine lv_iload hx hb dX10_goes_394 (lv_at hl 7 rfl) ?_
                          refine lv_isub hx hb dX10_goes_396 ?_
                          refine lv_topi (fun v131 ev131 => ?_)
                          refine lv_bipush (v := (8)) hx hb dX10_goes_397 (by decide) ?_
                          refine lv_iadd hx hb dX10_goes_399 ?_
                          refine lv_topi (fun v132 ev132 => ?_)
                          refine lv_bipush (v := (8)) hx hb dX10_goes_400 (by decide) ?_
                          refine lv_irem hx hb dX10_goes_402 (by decide) ?_
                          refine lv_topi (fun v133 ev133 => ?_)
                          refine lv_istore (lv' := [(7, .int (v133)), (8, .int (v113)), (14, .int (v112)), (10, .int (v102)), (13, .int (1000)), (12, .int (Ia13 (1006) ((v18).toNatClampNeg))), (11, .int (r33)), (9, .int (v18)), (6, .int (x6_13)), (5, .int (x5_13)), (0, .ref (ad (1000))), (1, .int (a0)), (2, .int (a1)), (3, .int (a2)), (4, .int (a3))]) hx hb dX10_goes_403 hl (by decide) rfl (fun ls hl => ?_)
                          refine lv_iload hx hb dX10_goes_405 (lv_at hl 9 rfl) ?_
                          refine lv_iload hx hb dX10_goes_407 (lv_at hl 0 rfl) ?_
                          refine m_calli (m_runS (As := [.int (v133)]) (rest := [.int (x5_13)]) hx hb hml hown hts hE hM hS hA ce_X10_stepX tb_1660 (V_X10_stepX l D A ad ns I127 L128 G (v133) hI) rfl rfl ⟨Nat.le_of_ble_eq_true rfl, Nat.le_of_ble_eq_true rfl⟩  rfl hl.1 rfl (Nat.le_of_ble_eq_true rfl) dX10_goes_409 ⟨Nat.le_of_ble_eq_true rfl, Nat.le_of_ble_eq_true rfl⟩) hS (fun r134 u H locs hw hM hS => ?_)
                          obtain ⟨rfl, xr134⟩ := hw
                          have hM : Mem D A ad ns I127 L128 G H := hM
                          refine lv_iadd hx hb dX10_goes_412 ?_
                          refine lv_topi (fun v135 ev135 => ?_)
                          have tv135 := a_add ev135 (by omega) (by omega)
                          refine lv_istore (lv' := [(5, .int (v135)), (7, .int (v133)), (8, .int (v113)), (14, .int (v112)), (10, .int (v102)), (13, .int (1000)), (12, .int (Ia13 (1006) ((v18).toNatClampNeg))), (11, .int (r33)), (9, .int (v18)), (6, .int (x6_13)), (0, .ref (ad (1000))), (1, .int (a0)), (2, .int (a1)), (3, .int (a2)), (4, .int (a3))]) hx hb dX10_goes_413 hl (by decide) rfl (fun ls hl => ?_)
                          refine lv_iload hx hb dX10_goes_415 (lv_at hl 9 rfl) ?_
                          refine lv_iload hx hb dX10_goes_417 (lv_at hl 1 rfl) ?_
                          refine m_calli (m_runS (As := [.int (v133)]) (rest := [.int (x6_13)]) hx hb hml hown hts hE hM hS hA ce_X10_stepY tb_1663 (V_X10_stepY l D A ad ns I127 L128 G (v133) hI) rfl rfl ⟨Nat.le_of_ble_eq_true rfl, Nat.le_of_ble_eq_true rfl⟩  rfl hl.1 rfl (Nat.le_of_ble_eq_true rfl) dX10_goes_419 ⟨Nat.le_of_ble_eq_true rfl, Nat.le_of_ble_eq_true rfl⟩) hS (fun r136 u H locs hw hM hS => ?_)
                          obtain ⟨rfl, xr136⟩ := hw
                          have hM : Mem D A ad ns I127 L128 G H := hM
                          refine lv_iadd hx hb dX10_goes_422 ?_
                          refine lv_topi (fun v137 ev137 => ?_)
                          have tv137 := a_add ev137 (by omega) (by omega)
                          refine lv_istore (lv' := [(6, .int (v137)), (5, .int (v135)), (7, .int (v133)), (8, .int (v113)), (14, .int (v112)), (10, .int (v102)), (13, .int (1000)), (12, .int (Ia13 (1006) ((v18).toNatClampNeg))), (11, .int (r33)), (9, .int (v18)), (0, .ref (ad (1000))), (1, .int (a0)), (2, .int (a1)), (3, .int (a2)), (4, .int (a3))]) hx hb dX10_goes_423 hl (by decide) rfl (fun ls hl => ?_)
                          refine lv_goto (tgt := 13) hx hb dX10_goes_425 (by decide) ?_
                          have tr100055 : (I127 (1000) 55).toInt = (v4 : Int32).toInt := congrArg Int32.toInt (((((hkI127.get (1000) 55 rfl)).trans (show (u2 I49 (1000) 53 (v104)) (1000) 55 = I49 (1000) 55 from by simp [u2_v])).trans (hkI49.get (1000) 55 rfl)).trans (show (u2 (u2 (u2 Ia13 (1000) 55 (v4)) (1000) 53 (v26)) (1049) ((v18).toNatClampNeg) (Ia13 (1049) ((v18).toNatClampNeg))) (1000) 55 = v4 from by simp [u2_v]))
                          exact ih13 (v113) (v133) (v137) (v135) I127 L128 _ _ ls hI hK (by omega) (by omega) hM hS (lv_sub hl [3, 2, 0, 1, 10, 11, 12, 13, 14] rfl)
                · have hc34 := c34
                  have q34 := q_ne hc34
                  refine lv_iload hx hb dX10_goes_183 (lv_at hl 1 rfl) ?_
                  refine lv_i2l hx hb dX10_goes_185 rfl ?_
                  refine lv_topl (fun v138 ev138 => ?_)
                  have tv138 := q_i2l ev138
                  refine lv_aload_n hx hb dX10_goes_186 rfl (lv_at hl 7 rfl) ?_
                  refine m_getr (1000) 21 (1021) hx hb hts hown hE oc10 hM hJ.1 rfl (by decide) rfl (hJ.2 21 (by decide)).2 (by decide) tb_1198 dX10_goes_187 ?_
                  refine lv_iload hx hb dX10_goes_190 (lv_at hl 0 rfl) ?_
                  refine m_iald (1021) hx hb hE hM (hJ.2 21 (by decide)).1 rfl (vp_in_iff.mpr (by omega)) dX10_goes_192 ?_
                  have z139 : (u2 (u2 (u2 Ia13 (1000) 55 (v4)) (1000) 53 (v26)) (1049) ((v18).toNatClampNeg) (Ia13 (1049) ((v18).toNatClampNeg))) (1021) (r33).toNatClampNeg = Ia13 (1021) ((r33).toNatClampNeg) := (show (u2 (u2 (u2 Ia13 (1000) 55 (v4)) (1000) 53 (v26)) (1049) ((v18).toNatClampNeg) (Ia13 (1049) ((v18).toNatClampNeg))) (1021) ((r33).toNatClampNeg) = Ia13 (1021) ((r33).toNatClampNeg) from by simp [u2_v])
                  rw [z139]
                  refine lv_i2l hx hb dX10_goes_193 rfl ?_
                  refine lv_topl (fun v140 ev140 => ?_)
                  have tv140 := q_i2l ev140
                  refine lv_lmul hx hb dX10_goes_194 ?_
                  refine lv_topl (fun v141 ev141 => ?_)
                  refine lv_ldc2 (v := (1000)) hx hb hown (hts _ tb_1428) dX10_goes_195 ?_
                  refine lv_ldiv hx hb dX10_goes_198 (by decide) ?_
                  refine lv_topl (fun v142 ev142 => ?_)
                  refine lv_l2i hx hb dX10_goes_199 rfl ?_
                  refine lv_topi (fun v143 ev143 => ?_)
                  refine lv_istore (lv' := [(10, .int (v143)), (11, .int (r33)), (8, .int (v28)), (9, .int (v18)), (7, .int (x7_13)), (6, .int (x6_13)), (5, .int (x5_13)), (0, .ref (ad (1000))), (1, .int (a0)), (2, .int (a1)), (3, .int (a2)), (4, .int (a3))]) hx hb dX10_goes_200 hl (by decide) rfl (fun ls hl => ?_)
                  refine lv_aload_n hx hb dX10_goes_202 rfl (lv_at hl 7 rfl) ?_
                  refine m_getr (1000) 50 (1050) hx hb hts hown hE oc10 hM hJ.1 rfl (by decide) rfl (hJ.2 50 (by decide)).2 (by decide) tb_1227 dX10_goes_203 ?_
                  refine lv_iload hx hb dX10_goes_206 (lv_at hl 1 rfl) ?_
                  refine lv_dup2_11 hx hb dX10_goes_208 rfl rfl ?_
                  refine m_iald (1050) hx hb hE hM (hJ.2 50 (by decide)).1 rfl (vp_in_iff.mpr (by omega)) dX10_goes_209 ?_
                  have z144 : (u2 (u2 (u2 Ia13 (1000) 55 (v4)) (1000) 53 (v26)) (1049) ((v18).toNatClampNeg) (Ia13 (1049) ((v18).toNatClampNeg))) (1050) (r33).toNatClampNeg = Ia13 (1050) ((r33).toNatClampNeg) := (show (u2 (u2 (u2 Ia13 (1000) 55 (v4)) (1000) 53 (v26)) (1049) ((v18).toNatClampNeg) (Ia13 (1049) ((v18).toNatClampNeg))) (1050) ((r33).toNatClampNeg) = Ia13 (1050) ((r33).toNatClampNeg) from by simp [u2_v])
                  rw [z144]
                  refine lv_iload hx hb dX10_goes_210 (lv_at hl 0 rfl) ?_
                  refine lv_iadd hx hb dX10_goes_212 ?_
                  refine lv_topi (fun v145 ev145 => ?_)
                  refine m_iast (1050) hx hb hE hM hS (hJ.2 50 (by decide)).1 rfl (vp_in_iff.mpr (by omega)) dX10_goes_213 (fun H locs I146 eI146 hM hS => ?_)
                  subst eI146
                  have hI := hI.putF (n := 1050) (k := ((r33).toNatClampNeg)) (v := v145) rfl
                  have hK := hK.put (n := 1050) (k := ((r33).toNatClampNeg)) (v := v145) (by first | rfl | simp [inR])
                  refine lv_iload hx hb dX10_goes_214 (lv_at hl 2 rfl) ?_
                  refine lv_iload hx hb dX10_goes_216 (lv_at hl 0 rfl) ?_
                  refine lv_isub hx hb dX10_goes_218 ?_
                  refine lv_topi (fun v147 ev147 => ?_)
                  refine lv_istore (lv' := [(8, .int (v147)), (10, .int (v143)), (11, .int (r33)), (9, .int (v18)), (7, .int (x7_13)), (6, .int (x6_13)), (5, .int (x5_13)), (0, .ref (ad (1000))), (1, .int (a0)), (2, .int (a1)), (3, .int (a2)), (4, .int (a3))]) hx hb dX10_goes_219 hl (by decide) rfl (fun ls hl => ?_)
                  refine lv_aload_n hx hb dX10_goes_221 rfl (lv_at hl 7 rfl) ?_
                  refine m_getr (1000) 6 (1006) hx hb hts hown hE oc10 hM hJ.1 rfl (by decide) rfl (hJ.2 6 (by decide)).2 (by decide) tb_1183 dX10_goes_222 ?_
                  refine lv_iload hx hb dX10_goes_225 (lv_at hl 3 rfl) ?_
                  refine m_iald (1006) hx hb hE hM (hJ.2 6 (by decide)).1 rfl (vp_in_iff.mpr (by omega)) dX10_goes_227 ?_
                  have g148 := hI.get (1006) ((v18).toNatClampNeg) (lo := -1) (hi := 23) rfl
                  have z149 : (u2 (u2 (u2 (u2 Ia13 (1000) 55 (v4)) (1000) 53 (v26)) (1049) ((v18).toNatClampNeg) (Ia13 (1049) ((v18).toNatClampNeg))) (1050) ((r33).toNatClampNeg) (v145)) (1006) (v18).toNatClampNeg = Ia13 (1006) ((v18).toNatClampNeg) := (show (u2 (u2 (u2 (u2 Ia13 (1000) 55 (v4)) (1000) 53 (v26)) (1049) ((v18).toNatClampNeg) (Ia13 (1049) ((v18).toNatClampNeg))) (1050) ((r33).toNatClampNeg) (v145)) (1006) ((v18).toNatClampNeg) = Ia13 (1006) ((v18).toNatClampNeg) from by simp [u2_v])
                  rw [z149] at g148 ⊢
                  refine lv_istore (lv' := [(12, .int (Ia13 (1006) ((v18).toNatClampNeg))), (8, .int (v147)), (10, .int (v143)), (11, .int (r33)), (9, .int (v18)), (7, .int (x7_13)), (6, .int (x6_13)), (5, .int (x5_13)), (0, .ref (ad (1000))), (1, .int (a0)), (2, .int (a1)), (3, .int (a2)), (4, .int (a3))]) hx hb dX10_goes_228 hl (by decide) rfl (fun ls hl => ?_)
                  refine lv_iload hx hb dX10_goes_230 (lv_at hl 0 rfl) ?_
                  refine lv_iconst (v := (-1)) hx hb dX10_goes_232 (by decide) ?_
                  refine lv_icmp_eq (tgt := 405) hx hb dX10_goes_233 (by decide) (fun c150 => ?_) (fun c150 => ?_)
                  · have hc150 := c150
                    have q150 := q_eq hc150
                    refine lv_iload hx hb dX10_goes_405 (lv_at hl 7 rfl) ?_
                    refine lv_iload hx hb dX10_goes_407 (lv_at hl 5 rfl) ?_
                    refine m_calli (m_runS (As := [.int (x7_13)]) (rest := [.int (x5_13)]) hx hb hml hown hts hE hM hS hA ce_X10_stepX tb_1660 (V_X10_stepX l D A ad ns (u2 (u2 (u2 (u2 Ia13 (1000) 55 (v4)) (1000) 53 (v26)) (1049) ((v18).toNatClampNeg) (Ia13 (1049) ((v18).toNatClampNeg))) (1050) ((r33).toNatClampNeg) (v145)) La13 G (x7_13) hI) rfl rfl ⟨Nat.le_of_ble_eq_true rfl, Nat.le_of_ble_eq_true rfl⟩  rfl hl.1 rfl (Nat.le_of_ble_eq_true rfl) dX10_goes_409 ⟨Nat.le_of_ble_eq_true rfl, Nat.le_of_ble_eq_true rfl⟩) hS (fun r151 u H locs hw hM hS => ?_)
                    obtain ⟨rfl, xr151⟩ := hw
                    have hM : Mem D A ad ns (u2 (u2 (u2 (u2 Ia13 (1000) 55 (v4)) (1000) 53 (v26)) (1049) ((v18).toNatClampNeg) (Ia13 (1049) ((v18).toNatClampNeg))) (1050) ((r33).toNatClampNeg) (v145)) La13 G H := hM
                    refine lv_iadd hx hb dX10_goes_412 ?_
                    refine lv_topi (fun v152 ev152 => ?_)
                    have tv152 := a_add ev152 (by omega) (by omega)
                    refine lv_istore (lv' := [(5, .int (v152)), (12, .int (Ia13 (1006) ((v18).toNatClampNeg))), (8, .int (v147)), (10, .int (v143)), (11, .int (r33)), (9, .int (v18)), (7, .int (x7_13)), (6, .int (x6_13)), (0, .ref (ad (1000))), (1, .int (a0)), (2, .int (a1)), (3, .int (a2)), (4, .int (a3))]) hx hb dX10_goes_413 hl (by decide) rfl (fun ls hl => ?_)
                    refine lv_iload hx hb dX10_goes_415 (lv_at hl 7 rfl) ?_
                    refine lv_iload hx hb dX10_goes_417 (lv_at hl 6 rfl) ?_
                    refine m_calli (m_runS (As := [.int (x7_13)]) (rest := [.int (x6_13)]) hx hb hml hown hts hE hM hS hA ce_X10_stepY tb_1663 (V_X10_stepY l D A ad ns (u2 (u2 (u2 (u2 Ia13 (1000) 55 (v4)) (1000) 53 (v26)) (1049) ((v18).toNatClampNeg) (Ia13 (1049) ((v18).toNatClampNeg))) (1050) ((r33).toNatClampNeg) (v145)) La13 G (x7_13) hI) rfl rfl ⟨Nat.le_of_ble_eq_true rfl, Nat.le_of_ble_eq_true rfl⟩  rfl hl.1 rfl (Nat.le_of_ble_eq_true rfl) dX10_goes_419 ⟨Nat.le_of_ble_eq_true rfl, Nat.le_of_ble_eq_true rfl⟩) hS (fun r153 u H locs hw hM hS => ?_)
                    obtain ⟨rfl, xr153⟩ := hw
                    have hM : Mem D A ad ns (u2 (u2 (u2 (u2 Ia13 (1000) 55 (v4)) (1000) 53 (v26)) (1049) ((v18).toNatClampNeg) (Ia13 (1049) ((v18).toNatClampNeg))) (1050) ((r33).toNatClampNeg) (v145)) La13 G H := hM
                    refine lv_iadd hx hb dX10_goes_422 ?_
                    refine lv_topi (fun v154 ev154 => ?_)
                    have tv154 := a_add ev154 (by omega) (by omega)
                    refine lv_istore (lv' := [(6, .int (v154)), (5, .int (v152)), (12, .int (Ia13 (1006) ((v18).toNatClampNeg))), (8, .int (v147)), (10, .int (v143)), (11, .int (r33)), (9, .int (v18)), (7, .int (x7_13)), (0, .ref (ad (1000))), (1, .int (a0)), (2, .int (a1)), (3, .int (a2)), (4, .int (a3))]) hx hb dX10_goes_423 hl (by decide) rfl (fun ls hl => ?_)
                    refine lv_goto (tgt := 13) hx hb dX10_goes_425 (by decide) ?_
                    have tr100055 : ((u2 (u2 (u2 (u2 Ia13 (1000) 55 (v4)) (1000) 53 (v26)) (1049) ((v18).toNatClampNeg) (Ia13 (1049) ((v18).toNatClampNeg))) (1050) ((r33).toNatClampNeg) (v145)) (1000) 55).toInt = (v4 : Int32).toInt := congrArg Int32.toInt ((show (u2 (u2 (u2 (u2 Ia13 (1000) 55 (v4)) (1000) 53 (v26)) (1049) ((v18).toNatClampNeg) (Ia13 (1049) ((v18).toNatClampNeg))) (1050) ((r33).toNatClampNeg) (v145)) (1000) 55 = v4 from by simp [u2_v]))
                    have tr100052 : ((u2 (u2 (u2 (u2 Ia13 (1000) 55 (v4)) (1000) 53 (v26)) (1049) ((v18).toNatClampNeg) (Ia13 (1049) ((v18).toNatClampNeg))) (1050) ((r33).toNatClampNeg) (v145)) (1000) 52).toInt = (Ia13 (1000) 52 : Int32).toInt := congrArg Int32.toInt ((show (u2 (u2 (u2 (u2 Ia13 (1000) 55 (v4)) (1000) 53 (v26)) (1049) ((v18).toNatClampNeg) (Ia13 (1049) ((v18).toNatClampNeg))) (1050) ((r33).toNatClampNeg) (v145)) (1000) 52 = Ia13 (1000) 52 from by simp [u2_v]))
                    exact ih13 (v147) (x7_13) (v154) (v152) (u2 (u2 (u2 (u2 Ia13 (1000) 55 (v4)) (1000) 53 (v26)) (1049) ((v18).toNatClampNeg) (Ia13 (1049) ((v18).toNatClampNeg))) (1050) ((r33).toNatClampNeg) (v145)) La13 _ _ ls hI hK (by omega) (by omega) hM hS (lv_sub hl [3, 7, 0, 1, 8, 9, 10, 11, 12] rfl)
                  · have hc150 := c150
                    have q150 := q_ne hc150
                    refine lv_aload_n hx hb dX10_goes_236 rfl (lv_at hl 8 rfl) ?_
                    refine m_getr (1000) 15 (1015) hx hb hts hown hE oc10 hM hJ.1 rfl (by decide) rfl (hJ.2 15 (by decide)).2 (by decide) tb_1192 dX10_goes_237 ?_
                    refine lv_iload hx hb dX10_goes_240 (lv_at hl 0 rfl) ?_
                    refine m_iald (1015) hx hb hE hM (hJ.2 15 (by decide)).1 rfl (vp_in_iff.mpr (by omega)) dX10_goes_242 ?_
                    have z155 : (u2 (u2 (u2 (u2 Ia13 (1000) 55 (v4)) (1000) 53 (v26)) (1049) ((v18).toNatClampNeg) (Ia13 (1049) ((v18).toNatClampNeg))) (1050) ((r33).toNatClampNeg) (v145)) (1015) (Ia13 (1006) ((v18).toNatClampNeg)).toNatClampNeg = Ia13 (1015) ((Ia13 (1006) ((v18).toNatClampNeg)).toNatClampNeg) := (show (u2 (u2 (u2 (u2 Ia13 (1000) 55 (v4)) (1000) 53 (v26)) (1049) ((v18).toNatClampNeg) (Ia13 (1049) ((v18).toNatClampNeg))) (1050) ((r33).toNatClampNeg) (v145)) (1015) ((Ia13 (1006) ((v18).toNatClampNeg)).toNatClampNeg) = Ia13 (1015) ((Ia13 (1006) ((v18).toNatClampNeg)).toNatClampNeg) from by simp [u2_v])
                    rw [z155]
                    refine lv_if_ne (tgt := 405) hx hb dX10_goes_243 (by decide) (fun c156 => ?_) (fun c156 => ?_)
                    · have hc156 := c156
                      have q156 := q_ne hc156
                      refine lv_iload hx hb dX10_goes_405 (lv_at hl 7 rfl) ?_
                      refine lv_iload hx hb dX10_goes_407 (lv_at hl 5 rfl) ?_
                      refine m_calli (m_runS (As := [.int (x7_13)]) (rest := [.int (x5_13)]) hx hb hml hown hts hE hM hS hA ce_X10_stepX tb_1660 (V_X10_stepX l D A ad ns (u2 (u2 (u2 (u2 Ia13 (1000) 55 (v4)) (1000) 53 (v26)) (1049) ((v18).toNatClampNeg) (Ia13 (1049) ((v18).toNatClampNeg))) (1050) ((r33).toNatClampNeg) (v145)) La13 G (x7_13) hI) rfl rfl ⟨Nat.le_of_ble_eq_true rfl, Nat.le_of_ble_eq_true rfl⟩  rfl hl.1 rfl (Nat.le_of_ble_eq_true rfl) dX10_goes_409 ⟨Nat.le_of_ble_eq_true rfl, Nat.le_of_ble_eq_true rfl⟩) hS (fun r157 u H locs hw hM hS => ?_)
                      obtain ⟨rfl, xr157⟩ := hw
                      have hM : Mem D A ad ns (u2 (u2 (u2 (u2 Ia13 (1000) 55 (v4)) (1000) 53 (v26)) (1049) ((v18).toNatClampNeg) (Ia13 (1049) ((v18).toNatClampNeg))) (1050) ((r33).toNatClampNeg) (v145)) La13 G H := hM
                      refine lv_iadd hx hb dX10_goes_412 ?_
                      refine lv_topi (fun v158 ev158 => ?_)
                      have tv158 := a_add ev158 (by omega) (by omega)
                      refine lv_istore (lv' := [(5, .int (v158)), (12, .int (Ia13 (1006) ((v18).toNatClampNeg))), (8, .int (v147)), (10, .int (v143)), (11, .int (r33)), (9, .int (v18)), (7, .int (x7_13)), (6, .int (x6_13)), (0, .ref (ad (1000))), (1, .int (a0)), (2, .int (a1)), (3, .int (a2)), (4, .int (a3))]) hx hb dX10_goes_413 hl (by decide) rfl (fun ls hl => ?_)
                      refine lv_iload hx hb dX10_goes_415 (lv_at hl 7 rfl) ?_
                      refine lv_iload hx hb dX10_goes_417 (lv_at hl 6 rfl) ?_
                      refine m_calli (m_runS (As := [.int (x7_13)]) (rest := [.int (x6_13)]) hx hb hml hown hts hE hM hS hA ce_X10_stepY tb_1663 (V_X10_stepY l D A ad ns (u2 (u2 (u2 (u2 Ia13 (1000) 55 (v4)) (1000) 53 (v26)) (1049) ((v18).toNatClampNeg) (Ia13 (1049) ((v18).toNatClampNeg))) (1050) ((r33).toNatClampNeg) (v145)) La13 G (x7_13) hI) rfl rfl ⟨Nat.le_of_ble_eq_true rfl, Nat.le_of_ble_eq_true rfl⟩  rfl hl.1 rfl (Nat.le_of_ble_eq_true rfl) dX10_goes_419 ⟨Nat.le_of_ble_eq_true rfl, Nat.le_of_ble_eq_true rfl⟩) hS (fun r159 u H locs hw hM hS => ?_)
                      obtain ⟨rfl, xr159⟩ := hw
                      have hM : Mem D A ad ns (u2 (u2 (u2 (u2 Ia13 (1000) 55 (v4)) (1000) 53 (v26)) (1049) ((v18).toNatClampNeg) (Ia13 (1049) ((v18).toNatClampNeg))) (1050) ((r33).toNatClampNeg) (v145)) La13 G H := hM
                      refine lv_iadd hx hb dX10_goes_422 ?_
                      refine lv_topi (fun v160 ev160 => ?_)
                      have tv160 := a_add ev160 (by omega) (by omega)
                      refine lv_istore (lv' := [(6, .int (v160)), (5, .int (v158)), (12, .int (Ia13 (1006) ((v18).toNatClampNeg))), (8, .int (v147)), (10, .int (v143)), (11, .int (r33)), (9, .int (v18)), (7, .int (x7_13)), (0, .ref (ad (1000))), (1, .int (a0)), (2, .int (a1)), (3, .int (a2)), (4, .int (a3))]) hx hb dX10_goes_423 hl (by decide) rfl (fun ls hl => ?_)
                      refine lv_goto (tgt := 13) hx hb dX10_goes_425 (by decide) ?_
                      have tr100055 : ((u2 (u2 (u2 (u2 Ia13 (1000) 55 (v4)) (1000) 53 (v26)) (1049) ((v18).toNatClampNeg) (Ia13 (1049) ((v18).toNatClampNeg))) (1050) ((r33).toNatClampNeg) (v145)) (1000) 55).toInt = (v4 : Int32).toInt := congrArg Int32.toInt ((show (u2 (u2 (u2 (u2 Ia13 (1000) 55 (v4)) (1000) 53 (v26)) (1049) ((v18).toNatClampNeg) (Ia13 (1049) ((v18).toNatClampNeg))) (1050) ((r33).toNatClampNeg) (v145)) (1000) 55 = v4 from by simp [u2_v]))
                      have tr100052 : ((u2 (u2 (u2 (u2 Ia13 (1000) 55 (v4)) (1000) 53 (v26)) (1049) ((v18).toNatClampNeg) (Ia13 (1049) ((v18).toNatClampNeg))) (1050) ((r33).toNatClampNeg) (v145)) (1000) 52).toInt = (Ia13 (1000) 52 : Int32).toInt := congrArg Int32.toInt ((show (u2 (u2 (u2 (u2 Ia13 (1000) 55 (v4)) (1000) 53 (v26)) (1049) ((v18).toNatClampNeg) (Ia13 (1049) ((v18).toNatClampNeg))) (1050) ((r33).toNatClampNeg) (v145)) (1000) 52 = Ia13 (1000) 52 from by simp [u2_v]))
                      exact ih13 (v147) (x7_13) (v160) (v158) (u2 (u2 (u2 (u2 Ia13 (1000) 55 (v4)) (1000) 53 (v26)) (1049) ((v18).toNatClampNeg) (Ia13 (1049) ((v18).toNatClampNeg))) (1050) ((r33).toNatClampNeg) (v145)) La13 _ _ ls hI hK (by omega) (by omega) hM hS (lv_sub hl [3, 7, 0, 1, 8, 9, 10, 11, 12] rfl)
                    · have hc156 := c156
                      have q156 := q_eq hc156
                      refine lv_aload_n hx hb dX10_goes_246 rfl (lv_at hl 8 rfl) ?_
                      refine lv_iload hx hb dX10_goes_247 (lv_at hl 0 rfl) ?_
                      refine lv_iload hx hb dX10_goes_249 (lv_at hl 1 rfl) ?_
                      refine m_calli (m_runV (1000) (As := [.int (Ia13 (1006) ((v18).toNatClampNeg)), .int (v147)]) (rest := []) hx hb hml hown hts hE hM hS hA ce_X10_told tb_1656 (V_X10_told l D A ad ns (u2 (u2 (u2 (u2 Ia13 (1000) 55 (v4)) (1000) 53 (v26)) (1049) ((v18).toNatClampNeg) (Ia13 (1049) ((v18).toNatClampNeg))) (1050) ((r33).toNatClampNeg) (v145)) La13 G (Ia13 (1006) ((v18).toNatClampNeg)) (v147) hJ hI (by first | omega | decide)) rfl rfl ⟨Nat.le_of_ble_eq_true rfl, Nat.le_of_ble_eq_true rfl⟩ hJ.1 rfl rfl (by decide) rfl hl.1 rfl (Nat.le_of_ble_eq_true rfl) dX10_goes_251 ⟨Nat.le_of_ble_eq_true rfl, Nat.le_of_ble_eq_true rfl⟩) hS (fun r161 u H locs hw hM hS => ?_)
                      obtain ⟨I162, L163, rfl, hI, hkI162⟩ := hw
                      have hM : Mem D A ad ns I162 L163 G H := hM
                      have hK := hK.trans hkI162 rfl
                      refine lv_istore (lv' := [(8, .int (r161)), (12, .int (Ia13 (1006) ((v18).toNatClampNeg))), (10, .int (v143)), (11, .int (r33)), (9, .int (v18)), (7, .int (x7_13)), (6, .int (x6_13)), (5, .int (x5_13)), (0, .ref (ad (1000))), (1, .int (a0)), (2, .int (a1)), (3, .int (a2)), (4, .int (a3))]) hx hb dX10_goes_254 hl (by decide) rfl (fun ls hl => ?_)
                      refine lv_aload_n hx hb dX10_goes_256 rfl (lv_at hl 8 rfl) ?_
                      refine m_getr (1000) 10 (1010) hx hb hts hown hE oc10 hM hJ.1 rfl (by decide) rfl (hJ.2 10 (by decide)).2 (by decide) tb_1187 dX10_goes_257 ?_
                      refine lv_iload hx hb dX10_goes_260 (lv_at hl 1 rfl) ?_
                      refine m_iald (1010) hx hb hE hM (hJ.2 10 (by decide)).1 rfl (vp_in_iff.mpr (by omega)) dX10_goes_262 ?_
                      have z164 : I162 (1010) (Ia13 (1006) ((v18).toNatClampNeg)).toNatClampNeg = Ia13 (1010) ((Ia13 (1006) ((v18).toNatClampNeg)).toNatClampNeg) := ((congrFun (hkI162.getA (1010) rfl) ((Ia13 (1006) ((v18).toNatClampNeg)).toNatClampNeg))).trans (show (u2 (u2 (u2 (u2 Ia13 (1000) 55 (v4)) (1000) 53 (v26)) (1049) ((v18).toNatClampNeg) (Ia13 (1049) ((v18).toNatClampNeg))) (1050) ((r33).toNatClampNeg) (v145)) (1010) ((Ia13 (1006) ((v18).toNatClampNeg)).toNatClampNeg) = Ia13 (1010) ((Ia13 (1006) ((v18).toNatClampNeg)).toNatClampNeg) from by simp [u2_v])
                      rw [z164]
                      refine lv_aload_n hx hb dX10_goes_263 rfl (lv_at hl 8 rfl) ?_
                      refine m_getr (1000) 14 (1014) hx hb hts hown hE oc10 hM hJ.1 rfl (by decide) rfl (hJ.2 14 (by decide)).2 (by decide) tb_1191 dX10_goes_264 ?_
                      refine lv_iload hx hb dX10_goes_267 (lv_at hl 1 rfl) ?_
                      refine m_iald (1014) hx hb hE hM (hJ.2 14 (by decide)).1 rfl (vp_in_iff.mpr (by omega)) dX10_goes_269 ?_
                      have z165 : I162 (1014) (Ia13 (1006) ((v18).toNatClampNeg)).toNatClampNeg = Ia13 (1014) ((Ia13 (1006) ((v18).toNatClampNeg)).toNatClampNeg) := ((congrFun (hkI162.getA (1014) rfl) ((Ia13 (1006) ((v18).toNatClampNeg)).toNatClampNeg))).trans (show (u2 (u2 (u2 (u2 Ia13 (1000) 55 (v4)) (1000) 53 (v26)) (1049) ((v18).toNatClampNeg) (Ia13 (1049) ((v18).toNatClampNeg))) (1050) ((r33).toNatClampNeg) (v145)) (1014) ((Ia13 (1006) ((v18).toNatClampNeg)).toNatClampNeg) = Ia13 (1014) ((Ia13 (1006) ((v18).toNatClampNeg)).toNatClampNeg) from by simp [u2_v])
                      rw [z165]
                      refine lv_iadd hx hb dX10_goes_270 ?_
                      refine lv_topi (fun v166 ev166 => ?_)
                      refine lv_sipush (v := (1000)) hx hb dX10_goes_271 (by decide) ?_
                      refine lv_icmp_le (tgt := 283) hx hb dX10_goes_274 (by decide) (fun c167 => ?_) (fun c167 => ?_)
                      · have hc167 := c167
                        have q167 := q_le hc167
                        refine lv_aload_n hx hb dX10_goes_283 rfl (lv_at hl 8 rfl) ?_
                        refine m_getr (1000) 10 (1010) hx hb hts hown hE oc10 hM hJ.1 rfl (by decide) rfl (hJ.2 10 (by decide)).2 (by decide) tb_1187 dX10_goes_284 ?_
                        refine lv_iload hx hb dX10_goes_287 (lv_at hl 1 rfl) ?_
                        refine m_iald (1010) hx hb hE hM (hJ.2 10 (by decide)).1 rfl (vp_in_iff.mpr (by omega)) dX10_goes_289 ?_
                        have z168 : I162 (1010) (Ia13 (1006) ((v18).toNatClampNeg)).toNatClampNeg = Ia13 (1010) ((Ia13 (1006) ((v18).toNatClampNeg)).toNatClampNeg) := ((congrFun (hkI162.getA (1010) rfl) ((Ia13 (1006) ((v18).toNatClampNeg)).toNatClampNeg))).trans (show (u2 (u2 (u2 (u2 Ia13 (1000) 55 (v4)) (1000) 53 (v26)) (1049) ((v18).toNatClampNeg) (Ia13 (1049) ((v18).toNatClampNeg))) (1050) ((r33).toNatClampNeg) (v145)) (1010) ((Ia13 (1006) ((v18).toNatClampNeg)).toNatClampNeg) = Ia13 (1010) ((Ia13 (1006) ((v18).toNatClampNeg)).toNatClampNeg) from by simp [u2_v])
                        rw [z168]
                        refine lv_aload_n hx hb dX10_goes_290 rfl (lv_at hl 8 rfl) ?_
                        refine m_getr (1000) 14 (1014) hx hb hts hown hE oc10 hM hJ.1 rfl (by decide) rfl (hJ.2 14 (by decide)).2 (by decide) tb_1191 dX10_goes_291 ?_
                        refine lv_iload hx hb dX10_goes_294 (lv_at hl 1 rfl) ?_
                        refine m_iald (1014) hx hb hE hM (hJ.2 14 (by decide)).1 rfl (vp_in_iff.mpr (by omega)) dX10_goes_296 ?_
                        have z169 : I162 (1014) (Ia13 (1006) ((v18).toNatClampNeg)).toNatClampNeg = Ia13 (1014) ((Ia13 (1006) ((v18).toNatClampNeg)).toNatClampNeg) := ((congrFun (hkI162.getA (1014) rfl) ((Ia13 (1006) ((v18).toNatClampNeg)).toNatClampNeg))).trans (show (u2 (u2 (u2 (u2 Ia13 (1000) 55 (v4)) (1000) 53 (v26)) (1049) ((v18).toNatClampNeg) (Ia13 (1049) ((v18).toNatClampNeg))) (1050) ((r33).toNatClampNeg) (v145)) (1014) ((Ia13 (1006) ((v18).toNatClampNeg)).toNatClampNeg) = Ia13 (1014) ((Ia13 (1006) ((v18).toNatClampNeg)).toNatClampNeg) from by simp [u2_v])
                        rw [z169]
                        refine lv_iadd hx hb dX10_goes_297 ?_
                        refine lv_topi (fun v170 ev170 => ?_)
                        refine lv_istore (lv' := [(13, .int (v170)), (8, .int (r161)), (12, .int (Ia13 (1006) ((v18).toNatClampNeg))), (10, .int (v143)), (11, .int (r33)), (9, .int (v18)), (7, .int (x7_13)), (6, .int (x6_13)), (5, .int (x5_13)), (0, .ref (ad (1000))), (1, .int (a0)), (2, .int (a1)), (3, .int (a2)), (4, .int (a3))]) hx hb dX10_goes_298 hl (by decide) rfl (fun ls hl => ?_)
                        refine lv_iload hx hb dX10_goes_300 (lv_at hl 1 rfl) ?_
                        refine lv_i2l hx hb dX10_goes_302 rfl ?_
                        refine lv_topl (fun v171 ev171 => ?_)
                        have tv171 := q_i2l ev171
                        refine lv_iload hx hb dX10_goes_303 (lv_at hl 0 rfl) ?_
                        refine lv_i2l hx hb dX10_goes_305 rfl ?_
                        refine lv_topl (fun v172 ev172 => ?_)
                        have tv172 := q_i2l ev172
                        refine lv_lmul hx hb dX10_goes_306 ?_
                        refine lv_topl (fun v173 ev173 => ?_)
                        refine lv_ldc2 (v := (1000)) hx hb hown (hts _ tb_1428) dX10_goes_307 ?_
                        refine lv_ldiv hx hb dX10_goes_310 (by decide) ?_
                        refine lv_topl (fun v174 ev174 => ?_)
                        refine lv_l2i hx hb dX10_goes_311 rfl ?_
                        refine lv_topi (fun v175 ev175 => ?_)
                        refine lv_istore (lv' := [(10, .int (v175)), (13, .int (v170)), (8, .int (r161)), (12, .int (Ia13 (1006) ((v18).toNatClampNeg))), (11, .int (r33)), (9, .int (v18)), (7, .int (x7_13)), (6, .int (x6_13)), (5, .int (x5_13)), (0, .ref (ad (1000))), (1, .int (a0)), (2, .int (a1)), (3, .int (a2)), (4, .int (a3))]) hx hb dX10_goes_312 hl (by decide) rfl (fun ls hl => ?_)
                        refine lv_aload_n hx hb dX10_goes_314 rfl (lv_at hl 9 rfl) ?_
                        refine lv_dup hx hb dX10_goes_315 rfl ?_
                        refine m_geti (1000) 53 hx hb hts hown hE oc10 hM hJ.1 rfl (by decide) rfl tb_1230 dX10_goes_316 ?_
                        have z176 : I162 (1000) 53 = v26 := ((hkI162.get (1000) 53 rfl)).trans (show (u2 (u2 (u2 (u2 Ia13 (1000) 55 (v4)) (1000) 53 (v26)) (1049) ((v18).toNatClampNeg) (Ia13 (1049) ((v18).toNatClampNeg))) (1050) ((r33).toNatClampNeg) (v145)) (1000) 53 = v26 from by simp [u2_v])
                        rw [z176]
                        refine lv_iload hx hb dX10_goes_319 (lv_at hl 0 rfl) ?_
                        refine lv_iadd hx hb dX10_goes_321 ?_
                        refine lv_topi (fun v177 ev177 => ?_)
                        refine m_puti (1000) 53 hx hb hts hown hE oc10 hM hS hJ.1 rfl (by decide) rfl rfl rfl rfl tb_1230 dX10_goes_322 (fun H locs I178 eI178 hM hS => ?_)
                        subst eI178
                        have hI := hI.putF (n := 1000) (k := 53) (v := v177) rfl
                        have hK := hK.put (n := 1000) (k := 53) (v := v177) (by first | rfl | simp [inR])
                        refine lv_iload hx hb dX10_goes_325 (lv_at hl 2 rfl) ?_
                        refine lv_iload hx hb dX10_goes_327 (lv_at hl 0 rfl) ?_
                        refine lv_isub hx hb dX10_goes_329 ?_
                        refine lv_topi (fun v179 ev179 => ?_)
                        refine lv_istore (lv' := [(8, .int (v179)), (10, .int (v175)), (13, .int (v170)), (12, .int (Ia13 (1006) ((v18).toNatClampNeg))), (11, .int (r33)), (9, .int (v18)), (7, .int (x7_13)), (6, .int (x6_13)), (5, .int (x5_13)), (0, .ref (ad (1000))), (1, .int (a0)), (2, .int (a1)), (3, .int (a2)), (4, .int (a3))]) hx hb dX10_goes_330 hl (by decide) rfl (fun ls hl => ?_)
                        refine lv_iload hx hb dX10_goes_332 (lv_at hl 0 rfl) ?_
                        refine lv_i2l hx hb dX10_goes_334 rfl ?_
                        refine lv_topl (fun v180 ev180 => ?_)
                        have tv180 := q_i2l ev180
                        refine lv_aload_n hx hb dX10_goes_335 rfl (lv_at hl 9 rfl) ?_
                        refine m_getr (1000) 11 (1011) hx hb hts hown hE oc10 hM hJ.1 rfl (by decide) rfl (hJ.2 11 (by decide)).2 (by decide) tb_1188 dX10_goes_336 ?_
                        refine lv_iload hx hb dX10_goes_339 (lv_at hl 3 rfl) ?_
                        refine m_iald (1011) hx hb hE hM (hJ.2 11 (by decide)).1 rfl (vp_in_iff.mpr (by omega)) dX10_goes_341 ?_
                        have z181 : (u2 I162 (1000) 53 (v177)) (1011) (Ia13 (1006) ((v18).toNatClampNeg)).toNatClampNeg = Ia13 (1011) ((Ia13 (1006) ((v18).toNatClampNeg)).toNatClampNeg) := (((show (u2 I162 (1000) 53 (v177)) (1011) ((Ia13 (1006) ((v18).toNatClampNeg)).toNatClampNeg) = I162 (1011) ((Ia13 (1006) ((v18).toNatClampNeg)).toNatClampNeg) from by simp [u2_v])).trans (congrFun (hkI162.getA (1011) rfl) ((Ia13 (1006) ((v18).toNatClampNeg)).toNatClampNeg))).trans (show (u2 (u2 (u2 (u2 Ia13 (1000) 55 (v4)) (1000) 53 (v26)) (1049) ((v18).toNatClampNeg) (Ia13 (1049) ((v18).toNatClampNeg))) (1050) ((r33).toNatClampNeg) (v145)) (1011) ((Ia13 (1006) ((v18).toNatClampNeg)).toNatClampNeg) = Ia13 (1011) ((Ia13 (1006) ((v18).toNatClampNeg)).toNatClampNeg) from by simp [u2_v])
                        rw [z181]
                        refine lv_i2l hx hb dX10_goes_342 rfl ?_
                        refine lv_topl (fun v182 ev182 => ?_)
                        have tv182 := q_i2l ev182
                        refine lv_lmul hx hb dX10_goes_343 ?_
                        refine lv_topl (fun v183 ev183 => ?_)
                        refine lv_ldc2 (v := (1000)) hx hb hown (hts _ tb_1428) dX10_goes_344 ?_
                        refine lv_ldiv hx hb dX10_goes_347 (by decide) ?_
                        refine lv_topl (fun v184 ev184 => ?_)
                        refine lv_l2i hx hb dX10_goes_348 rfl ?_
                        refine lv_topi (fun v185 ev185 => ?_)
                        refine lv_istore (lv' := [(14, .int (v185)), (8, .int (v179)), (10, .int (v175)), (13, .int (v170)), (12, .int (Ia13 (1006) ((v18).toNatClampNeg))), (11, .int (r33)), (9, .int (v18)), (7, .int (x7_13)), (6, .int (x6_13)), (5, .int (x5_13)), (0, .ref (ad (1000))), (1, .int (a0)), (2, .int (a1)), (3, .int (a2)), (4, .int (a3))]) hx hb dX10_goes_349 hl (by decide) rfl (fun ls hl => ?_)
                        refine lv_iload hx hb dX10_goes_351 (lv_at hl 1 rfl) ?_
                        refine lv_iload hx hb dX10_goes_353 (lv_at hl 0 rfl) ?_
                        refine lv_isub hx hb dX10_goes_355 ?_
                        refine lv_topi (fun v186 ev186 => ?_)
                        refine lv_istore (lv' := [(8, .int (v186)), (14, .int (v185)), (10, .int (v175)), (13, .int (v170)), (12, .int (Ia13 (1006) ((v18).toNatClampNeg))), (11, .int (r33)), (9, .int (v18)), (7, .int (x7_13)), (6, .int (x6_13)), (5, .int (x5_13)), (0, .ref (ad (1000))), (1, .int (a0)), (2, .int (a1)), (3, .int (a2)), (4, .int (a3))]) hx hb dX10_goes_356 hl (by decide) rfl (fun ls hl => ?_)
                        refine lv_iload hx hb dX10_goes_358 (lv_at hl 1 rfl) ?_
                        refine lv_if_le (tgt := 387) hx hb dX10_goes_360 (by decide) (fun c187 => ?_) (fun c187 => ?_)
                        · have hc187 := c187
                          have q187 := q_le hc187
                          refine lv_aload_n hx hb dX10_goes_387 rfl (lv_at hl 10 rfl) ?_
                          refine m_getr (1000) 9 (1009) hx hb hts hown hE oc10 hM hJ.1 rfl (by decide) rfl (hJ.2 9 (by decide)).2 (by decide) tb_1186 dX10_goes_388 ?_
                          refine lv_iload hx hb dX10_goes_391 (lv_at hl 4 rfl) ?_
                          refine m_iald (1009) hx hb hE hM (hJ.2 9 (by decide)).1 rfl (vp_in_iff.mpr (by omega)) dX10_goes_393 ?_
                          have z188 : (u2 I162 (1000) 53 (v177)) (1009) (Ia13 (1006) ((v18).toNatClampNeg)).toNatClampNeg = Ia13 (1009) ((Ia13 (1006) ((v18).toNatClampNeg)).toNatClampNeg) := (((show (u2 I162 (1000) 53 (v177)) (1009) ((Ia13 (1006) ((v18).toNatClampNeg)).toNatClampNeg) = I162 (1009) ((Ia13 (1006) ((v18).toNatClampNeg)).toNatClampNeg) from by simp [u2_v])).trans (congrFun (hkI162.getA (1009) rfl) ((Ia13 (1006) ((v18).toNatClampNeg)).toNatClampNeg))).trans (show (u2 (u2 (u2 (u2 Ia13 (1000) 55 (v4)) (1000) 53 (v26)) (1049) ((v18).toNatClampNeg) (Ia13 (1049) ((v18).toNatClampNeg))) (1050) ((r33).toNatClampNeg) (v145)) (1009) ((Ia13 (1006) ((v18).toNatClampNeg)).toNatClampNeg) = Ia13 (1009) ((Ia13 (1006) ((v18).toNatClampNeg)).toNatClampNeg) from by simp [u2_v])
                          rw [z188]
                          refine lv_iload hx hb dX10_goes_394 (lv_at hl 7 rfl) ?_
                          refine lv_isub hx hb dX10_goes_396 ?_
                          refine lv_topi (fun v189 ev189 => ?_)
                          refine lv_bipush (v := (8)) hx hb dX10_goes_397 (by decide) ?_
                          refine lv_iadd hx hb dX10_goes_399 ?_
                          refine lv_topi (fun v190 ev190 => ?_)
                          refine lv_bipush (v := (8)) hx hb dX10_goes_400 (by decide) ?_
                          refine lv_irem hx hb dX10_goes_402 (by decide) ?_
                          refine lv_topi (fun v191 ev191 => ?_)
                          refine lv_istore (lv' := [(7, .int (v191)), (8, .int (v186)), (14, .int (v185)), (10, .int (v175)), (13, .int (v170)), (12, .int (Ia13 (1006) ((v18).toNatClampNeg))), (11, .int (r33)), (9, .int (v18)), (6, .int (x6_13)), (5, .int (x5_13)), (0, .ref (ad (1000))), (1, .int (a0)), (2, .int (a1)), (3, .int (a2)), (4, .int (a3))]) hx hb dX10_goes_403 hl (by decide) rfl (fun ls hl => ?_)
                          refine lv_iload hx hb dX10_goes_405 (lv_at hl 9 rfl) ?_
                          refine lv_iload hx hb dX10_goes_407 (lv_at hl 0 rfl) ?_
                          refine m_calli (m_runS (As := [.int (v191)]) (rest := [.int (x5_13)]) hx hb hml hown hts hE hM hS hA ce_X10_stepX tb_1660 (V_X10_stepX l D A ad ns (u2 I162 (1000) 53 (v177)) L163 G (v191) hI) rfl rfl ⟨Nat.le_of_ble_eq_true rfl, Nat.le_of_ble_eq_true rfl⟩  rfl hl.1 rfl (Nat.le_of_ble_eq_true rfl) dX10_goes_409 ⟨Nat.le_of_ble_eq_true rfl, Nat.le_of_ble_eq_true rfl⟩) hS (fun r192 u H locs hw hM hS => ?_)
                          obtain ⟨rfl, xr192⟩ := hw
                          have hM : Mem D A ad ns (u2 I162 (1000) 53 (v177)) L163 G H := hM
                          refine lv_iadd hx hb dX10_goes_412 ?_
                          refine lv_topi (fun v193 ev193 => ?_)
                          have tv193 := a_add ev193 (by omega) (by omega)
                          refine lv_istore (lv' := [(5, .int (v193)), (7, .int (v191)), (8, .int (v186)), (14, .int (v185)), (10, .int (v175)), (13, .int (v170)), (12, .int (Ia13 (1006) ((v18).toNatClampNeg))), (11, .int (r33)), (9, .int (v18)), (6, .int (x6_13)), (0, .ref (ad (1000))), (1, .int (a0)), (2, .int (a1)), (3, .int (a2)), (4, .int (a3))]) hx hb dX10_goes_413 hl (by decide) rfl (fun ls hl => ?_)
                          refine lv_iload hx hb dX10_goes_415 (lv_at hl 9 rfl) ?_
                          refine lv_iload hx hb dX10_goes_417 (lv_at hl 1 rfl) ?_
                          refine m_calli (m_runS (As := [.int (v191)]) (rest := [.int (x6_13)]) hx hb hml hown hts hE hM hS hA ce_X10_stepY tb_1663 (V_X10_stepY l D A ad ns (u2 I162 (1000) 53 (v177)) L163 G (v191) hI) rfl rfl ⟨Nat.le_of_ble_eq_true rfl, Nat.le_of_ble_eq_true rfl⟩  rfl hl.1 rfl (Nat.le_of_ble_eq_true rfl) dX10_goes_419 ⟨Nat.le_of_ble_eq_true rfl, Nat.le_of_ble_eq_true rfl⟩) hS (fun r194 u H locs hw hM hS => ?_)
                          obtain ⟨rfl, xr194⟩ := hw
                          have hM : Mem D A ad ns (u2 I162 (1000) 53 (v177)) L163 G H := hM
                          refine lv_iadd hx hb dX10_goes_422 ?_
                          refine lv_topi (fun v195 ev195 => ?_)
                          have tv195 := a_add ev195 (by omega) (by omega)
                          refine lv_istore (lv' := [(6, .int (v195)), (5, .int (v193)), (7, .int (v191)), (8, .int (v186)), (14, .int (v185)), (10, .int (v175)), (13, .int (v170)), (12, .int (Ia13 (1006) ((v18).toNatClampNeg))), (11, .int (r33)), (9, .int (v18)), (0, .ref (ad (1000))), (1, .int (a0)), (2, .int (a1)), (3, .int (a2)), (4, .int (a3))]) hx hb dX10_goes_423 hl (by decide) rfl (fun ls hl => ?_)
                          refine lv_goto (tgt := 13) hx hb dX10_goes_425 (by decide) ?_
                          have tr100055 : ((u2 I162 (1000) 53 (v177)) (1000) 55).toInt = (v4 : Int32).toInt := congrArg Int32.toInt ((((show (u2 I162 (1000) 53 (v177)) (1000) 55 = I162 (1000) 55 from by simp [u2_v])).trans (hkI162.get (1000) 55 rfl)).trans (show (u2 (u2 (u2 (u2 Ia13 (1000) 55 (v4)) (1000) 53 (v26)) (1049) ((v18).toNatClampNeg) (Ia13 (1049) ((v18).toNatClampNeg))) (1050) ((r33).toNatClampNeg) (v145)) (1000) 55 = v4 from by simp [u2_v]))
                          have tr100052 : ((u2 I162 (1000) 53 (v177)) (1000) 52).toInt = (Ia13 (1000) 52 : Int32).toInt := congrArg Int32.toInt ((((show (u2 I162 (1000) 53 (v177)) (1000) 52 = I162 (1000) 52 from by simp [u2_v])).trans (hkI162.get (1000) 52 rfl)).trans (show (u2 (u2 (u2 (u2 Ia13 (1000) 55 (v4)) (1000) 53 (v26)) (1049) ((v18).toNatClampNeg) (Ia13 (1049) ((v18).toNatClampNeg))) (1050) ((r33).toNatClampNeg) (v145)) (1000) 52 = Ia13 (1000) 52 from by simp [u2_v]))
                          exact ih13 (v186) (v191) (v195) (v193) (u2 I162 (1000) 53 (v177)) L163 _ _ ls hI hK (by omega) (by omega) hM hS (lv_sub hl [3, 2, 0, 1, 10, 11, 12, 13, 14] rfl)
                        · have hc187 := c187
                          have q187 := q_nle hc187
                          refine lv_aload_n hx hb dX10_goes_363 rfl (lv_at hl 10 rfl) ?_
                          refine lv_iload hx hb dX10_goes_364 (lv_at hl 9 rfl) ?_
                          refine lv_iload hx hb dX10_goes_366 (lv_at hl 7 rfl) ?_
                          refine m_calli (m_runS (As := [.int (x7_13)]) (rest := [.int (x5_13), .ref (ad (1000))]) hx hb hml hown hts hE hM hS hA ce_X10_stepX tb_1660 (V_X10_stepX l D A ad ns (u2 I162 (1000) 53 (v177)) L163 G (x7_13) hI) rfl rfl ⟨Nat.le_of_ble_eq_true rfl, Nat.le_of_ble_eq_true rfl⟩  rfl hl.1 rfl (Nat.le_of_ble_eq_true rfl) dX10_goes_368 ⟨Nat.le_of_ble_eq_true rfl, Nat.le_of_ble_eq_true rfl⟩) hS (fun r196 u H locs hw hM hS => ?_)
                          obtain ⟨rfl, xr196⟩ := hw
                          have hM : Mem D A ad ns (u2 I162 (1000) 53 (v177)) L163 G H := hM
                          refine lv_iadd hx hb dX10_goes_371 ?_
                          refine lv_topi (fun v197 ev197 => ?_)
                          have tv197 := a_add ev197 (by omega) (by omega)
                          refine lv_iload hx hb dX10_goes_372 (lv_at hl 8 rfl) ?_
                          refine lv_iload hx hb dX10_goes_374 (lv_at hl 7 rfl) ?_
                          refine m_calli (m_runS (As := [.int (x7_13)]) (rest := [.int (x6_13), .int (v197), .ref (ad (1000))]) hx hb hml hown hts hE hM hS hA ce_X10_stepY tb_1663 (V_X10_stepY l D A ad ns (u2 I162 (1000) 53 (v177)) L163 G (x7_13) hI) rfl rfl ⟨Nat.le_of_ble_eq_true rfl, Nat.le_of_ble_eq_true rfl⟩  rfl hl.1 rfl (Nat.le_of_ble_eq_true rfl) dX10_goes_376 ⟨Nat.le_of_ble_eq_true rfl, Nat.le_of_ble_eq_true rfl⟩) hS (fun r198 u H locs hw hM hS => ?_)
                          obtain ⟨rfl, xr198⟩ := hw
                          have hM : Mem D A ad ns (u2 I162 (1000) 53 (v177)) L163 G H := hM
                          refine lv_iadd hx hb dX10_goes_379 ?_
                          refine lv_topi (fun v199 ev199 => ?_)
                          have tv199 := a_add ev199 (by omega) (by omega)
                          refine lv_iload hx hb dX10_goes_380 (lv_at hl 7 rfl) ?_
                          refine lv_iload hx hb dX10_goes_382 (lv_at hl 1 rfl) ?_
                          refine m_callv (m_runV (1000) (As := [.int (v197), .int (v199), .int (x7_13), .int (v185)]) (rest := []) hx hb hml hown hts hE hM hS hA ce_X10_waitsFor tb_1666 (V_X10_waitsFor l D A ad ns (u2 I162 (1000) 53 (v177)) L163 G (v197) (v199) (x7_13) (v185) hJ hI) rfl rfl ⟨Nat.le_of_ble_eq_true rfl, Nat.le_of_ble_eq_true rfl⟩ hJ.1 rfl rfl (by decide) rfl hl.1 rfl (Nat.le_of_ble_eq_true rfl) dX10_goes_384 ⟨Nat.le_of_ble_eq_true rfl, Nat.le_of_ble_eq_true rfl⟩) hS (fun u H locs hw hM hS => ?_)
                          obtain ⟨I200, L201, rfl, hI, hkI200, xI200⟩ := hw
                          have hM : Mem D A ad ns I200 L201 G H := hM
                          have hK := hK.trans hkI200 rfl
                          have pw202 : ((u2 I162 (1000) 53 (v177)) (1000) 52).toInt = (Ia13 (1000) 52 : Int32).toInt := congrArg Int32.toInt ((((show (u2 I162 (1000) 53 (v177)) (1000) 52 = I162 (1000) 52 from by simp [u2_v])).trans (hkI162.get (1000) 52 rfl)).trans (show (u2 (u2 (u2 (u2 Ia13 (1000) 55 (v4)) (1000) 53 (v26)) (1049) ((v18).toNatClampNeg) (Ia13 (1049) ((v18).toNatClampNeg))) (1050) ((r33).toNatClampNeg) (v145)) (1000) 52 = Ia13 (1000) 52 from by simp [u2_v]))
                          refine lv_aload_n hx hb dX10_goes_387 rfl (lv_at hl 10 rfl) ?_
                          refine m_getr (1000) 9 (1009) hx hb hts hown hE oc10 hM hJ.1 rfl (by decide) rfl (hJ.2 9 (by decide)).2 (by decide) tb_1186 dX10_goes_388 ?_
                          refine lv_iload hx hb dX10_goes_391 (lv_at hl 4 rfl) ?_
                          refine m_iald (1009) hx hb hE hM (hJ.2 9 (by decide)).1 rfl (vp_in_iff.mpr (by omega)) dX10_goes_393 ?_
                          have z203 : I200 (1009) (Ia13 (1006) ((v18).toNatClampNeg)).toNatClampNeg = Ia13 (1009) ((Ia13 (1006) ((v18).toNatClampNeg)).toNatClampNeg) := ((((congrFun (hkI200.getA (1009) rfl) ((Ia13 (1006) ((v18).toNatClampNeg)).toNatClampNeg))).trans (show (u2 I162 (1000) 53 (v177)) (1009) ((Ia13 (1006) ((v18).toNatClampNeg)).toNatClampNeg) = I162 (1009) ((Ia13 (1006) ((v18).toNatClampNeg)).toNatClampNeg) from by simp [u2_v])).trans (congrFun (hkI162.getA (1009) rfl) ((Ia13 (1006) ((v18).toNatClampNeg)).toNatClampNeg))).trans (show (u2 (u2 (u2 (u2 Ia13 (1000) 55 (v4)) (1000) 53 (v26)) (1049) ((v18).toNatClampNeg) (Ia13 (1049) ((v18).toNatClampNeg))) (1050) ((r33).toNatClampNeg) (v145)) (1009) ((Ia13 (1006) ((v18).toNatClampNeg)).toNatClampNeg) = Ia13 (1009) ((Ia13 (1006) ((v18).toNatClampNeg)).toNatClampNeg) from by simp [u2_v])
                          rw [z203]
                          refine lv_iload hx hb dX10_goes_394 (lv_at hl 7 rfl) ?_
                          refine lv_isub hx hb dX10_goes_396 ?_
                          refine lv_topi (fun v204 ev204 => ?_)
                          refine lv_bipush (v := (8)) hx hb dX10_goes_397 (by decide) ?_
                          refine lv_iadd hx hb dX10_goes_399 ?_
                          refine lv_topi (fun v205 ev205 => ?_)
                          refine lv_bipush (v := (8)) hx hb dX10_goes_400 (by decide) ?_
                          refine lv_irem hx hb dX10_goes_402 (by decide) ?_
                          refine lv_topi (fun v206 ev206 => ?_)
                          refine lv_istore (lv' := [(7, .int (v206)), (8, .int (v186)), (14, .int (v185)), (10, .int (v175)), (13, .int (v170)), (12, .int (Ia13 (1006) ((v18).toNatClampNeg))), (11, .int (r33)), (9, .int (v18)), (6, .int (x6_13)), (5, .int (x5_13)), (0, .ref (ad (1000))), (1, .int (a0)), (2, .int (a1)), (3, .int (a2)), (4, .int (a3))]) hx hb dX10_goes_403 hl (by decide) rfl (fun ls hl => ?_)
                          refine lv_iload hx hb dX10_goes_405 (lv_at hl 9 rfl) ?_
                          refine lv_iload hx hb dX10_goes_407 (lv_at hl 0 rfl) ?_
                          refine m_calli (m_runS (As := [.int (v206)]) (rest := [.int (x5_13)]) hx hb hml hown hts hE hM hS hA ce_X10_stepX tb_1660 (V_X10_stepX l D A ad ns I200 L201 G (v206) hI) rfl rfl ⟨Nat.le_of_ble_eq_true rfl, Nat.le_of_ble_eq_true rfl⟩  rfl hl.1 rfl (Nat.le_of_ble_eq_true rfl) dX10_goes_409 ⟨Nat.le_of_ble_eq_true rfl, Nat.le_of_ble_eq_true rfl⟩) hS (fun r207 u H locs hw hM hS => ?_)
                          obtain ⟨rfl, xr207⟩ := hw
                          have hM : Mem D A ad ns I200 L201 G H := hM
                          refine lv_iadd hx hb dX10_goes_412 ?_
                          refine lv_topi (fun v208 ev208 => ?_)
                          have tv208 := a_add ev208 (by omega) (by omega)
                          refine lv_istore (lv' := [(5, .int (v208)), (7, .int (v206)), (8, .int (v186)), (14, .int (v185)), (10, .int (v175)), (13, .int (v170)), (12, .int (Ia13 (1006) ((v18).toNatClampNeg))), (11, .int (r33)), (9, .int (v18)), (6, .int (x6_13)), (0, .ref (ad (1000))), (1, .int (a0)), (2, .int (a1)), (3, .int (a2)), (4, .int (a3))]) hx hb dX10_goes_413 hl (by decide) rfl (fun ls hl => ?_)
                          refine lv_iload hx hb dX10_goes_415 (lv_at hl 9 rfl) ?_
                          refine lv_iload hx hb dX10_goes_417 (lv_at hl 1 rfl) ?_
                          refine m_calli (m_runS (As := [.int (v206)]) (rest := [.int (x6_13)]) hx hb hml hown hts hE hM hS hA ce_X10_stepY tb_1663 (V_X10_stepY l D A ad ns I200 L201 G (v206) hI) rfl rfl ⟨Nat.le_of_ble_eq_true rfl, Nat.le_of_ble_eq_true rfl⟩  rfl hl.1 rfl (Nat.le_of_ble_eq_true rfl) dX10_goes_419 ⟨Nat.le_of_ble_eq_true rfl, Nat.le_of_ble_eq_true rfl⟩) hS (fun r209 u H locs hw hM hS => ?_)
                          obtain ⟨rfl, xr209⟩ := hw
                          have hM : Mem D A ad ns I200 L201 G H := hM
                          refine lv_iadd hx hb dX10_goes_422 ?_
                          refine lv_topi (fun v210 ev210 => ?_)
                          have tv210 := a_add ev210 (by omega) (by omega)
                          refine lv_istore (lv' := [(6, .int (v210)), (5, .int (v208)), (7, .int (v206)), (8, .int (v186)), (14, .int (v185)), (10, .int (v175)), (13, .int (v170)), (12, .int (Ia13 (1006) ((v18).toNatClampNeg))), (11, .int (r33)), (9, .int (v18)), (0, .ref (ad (1000))), (1, .int (a0)), (2, .int (a1)), (3, .int (a2)), (4, .int (a3))]) hx hb dX10_goes_423 hl (by decide) rfl (fun ls hl => ?_)
                          refine lv_goto (tgt := 13) hx hb dX10_goes_425 (by decide) ?_
                          have tr100055 : (I200 (1000) 55).toInt = (v4 : Int32).toInt := congrArg Int32.toInt (((((hkI200.get (1000) 55 rfl)).trans (show (u2 I162 (1000) 53 (v177)) (1000) 55 = I162 (1000) 55 from by simp [u2_v])).trans (hkI162.get (1000) 55 rfl)).trans (show (u2 (u2 (u2 (u2 Ia13 (1000) 55 (v4)) (1000) 53 (v26)) (1049) ((v18).toNatClampNeg) (Ia13 (1049) ((v18).toNatClampNeg))) (1050) ((r33).toNatClampNeg) (v145)) (1000) 55 = v4 from by simp [u2_v]))
                          exact ih13 (v186) (v206) (v210) (v208) I200 L201 _ _ ls hI hK (by omega) (by omega) hM hS (lv_sub hl [3, 2, 0, 1, 10, 11, 12, 13, 14] rfl)
                      · have hc167 := c167
                        have q167 := q_nle hc167
                        refine lv_sipush (v := (1000)) hx hb dX10_goes_277 (by decide) ?_
                        refine lv_goto (tgt := 298) hx hb dX10_goes_280 (by decide) ?_
                        refine lv_istore (lv' := [(13, .int (1000)), (8, .int (r161)), (12, .int (Ia13 (1006) ((v18).toNatClampNeg))), (10, .int (v143)), (11, .int (r33)), (9, .int (v18)), (7, .int (x7_13)), (6, .int (x6_13)), (5, .int (x5_13)), (0, .ref (ad (1000))), (1, .int (a0)), (2, .int (a1)), (3, .int (a2)), (4, .int (a3))]) hx hb dX10_goes_298 hl (by decide) rfl (fun ls hl => ?_)
                        refine lv_iload hx hb dX10_goes_300 (lv_at hl 1 rfl) ?_
                        refine lv_i2l hx hb dX10_goes_302 rfl ?_
                        refine lv_topl (fun v211 ev211 => ?_)
                        have tv211 := q_i2l ev211
                        refine lv_iload hx hb dX10_goes_303 (lv_at hl 0 rfl) ?_
                        refine lv_i2l hx hb dX10_goes_305 rfl ?_
                        refine lv_topl (fun v212 ev212 => ?_)
                        have tv212 := q_i2l ev212
                        refine lv_lmul hx hb dX10_goes_306 ?_
                        refine lv_topl (fun v213 ev213 => ?_)
                        refine lv_ldc2 (v := (1000)) hx hb hown (hts _ tb_1428) dX10_goes_307 ?_
                        refine lv_ldiv hx hb dX10_goes_310 (by decide) ?_
                        refine lv_topl (fun v214 ev214 => ?_)
                        refine lv_l2i hx hb dX10_goes_311 rfl ?_
                        refine lv_topi (fun v215 ev215 => ?_)
                        refine lv_istore (lv' := [(10, .int (v215)), (13, .int (1000)), (8, .int (r161)), (12, .int (Ia13 (1006) ((v18).toNatClampNeg))), (11, .int (r33)), (9, .int (v18)), (7, .int (x7_13)), (6, .int (x6_13)), (5, .int (x5_13)), (0, .ref (ad (1000))), (1, .int (a0)), (2, .int (a1)), (3, .int (a2)), (4, .int (a3))]) hx hb dX10_goes_312 hl (by decide) rfl (fun ls hl => ?_)
                        refine lv_aload_n hx hb dX10_goes_314 rfl (lv_at hl 9 rfl) ?_
                        refine lv_dup hx hb dX10_goes_315 rfl ?_
                        refine m_geti (1000) 53 hx hb hts hown hE oc10 hM hJ.1 rfl (by decide) rfl tb_1230 dX10_goes_316 ?_
                        have z216 : I162 (1000) 53 = v26 := ((hkI162.get (1000) 53 rfl)).trans (show (u2 (u2 (u2 (u2 Ia13 (1000) 55 (v4)) (1000) 53 (v26)) (1049) ((v18).toNatClampNeg) (Ia13 (1049) ((v18).toNatClampNeg))) (1050) ((r33).toNatClampNeg) (v145)) (1000) 53 = v26 from by simp [u2_v])
                        rw [z216]
                        refine lv_iload hx hb dX10_goes_319 (lv_at hl 0 rfl) ?_
                        refine lv_iadd hx hb dX10_goes_321 ?_
                        refine lv_topi (fun v217 ev217 => ?_)
                        refine m_puti (1000) 53 hx hb hts hown hE oc10 hM hS hJ.1 rfl (by decide) rfl rfl rfl rfl tb_1230 dX10_goes_322 (fun H locs I218 eI218 hM hS => ?_)
                        subst eI218
                        have hI := hI.putF (n := 1000) (k := 53) (v := v217) rfl
                        have hK := hK.put (n := 1000) (k := 53) (v := v217) (by first | rfl | simp [inR])
                        refine lv_iload hx hb dX10_goes_325 (lv_at hl 2 rfl) ?_
                        refine lv_iload hx hb dX10_goes_327 (lv_at hl 0 rfl) ?_
                        refine lv_isub hx hb dX10_goes_329 ?_
                        refine lv_topi (fun v219 ev219 => ?_)
                        refine lv_istore (lv' := [(8, .int (v219)), (10, .int (v215)), (13, .int (1000)), (12, .int (Ia13 (1006) ((v18).toNatClampNeg))), (11, .int (r33)), (9, .int (v18)), (7, .int (x7_13)), (6, .int (x6_13)), (5, .int (x5_13)), (0, .ref (ad (1000))), (1, .int (a0)), (2, .int (a1)), (3, .int (a2)), (4, .int (a3))]) hx hb dX10_goes_330 hl (by decide) rfl (fun ls hl => ?_)
                        refine lv_iload hx hb dX10_goes_332 (lv_at hl 0 rfl) ?_
                        refine lv_i2l hx hb dX10_goes_334 rfl ?_
                        refine lv_topl (fun v220 ev220 => ?_)
                        have tv220 := q_i2l ev220
                        refine lv_aload_n hx hb dX10_goes_335 rfl (lv_at hl 9 rfl) ?_
                        refine m_getr (1000) 11 (1011) hx hb hts hown hE oc10 hM hJ.1 rfl (by decide) rfl (hJ.2 11 (by decide)).2 (by decide) tb_1188 dX10_goes_336 ?_
                        refine lv_iload hx hb dX10_goes_339 (lv_at hl 3 rfl) ?_
                        refine m_iald (1011) hx hb hE hM (hJ.2 11 (by decide)).1 rfl (vp_in_iff.mpr (by omega)) dX10_goes_341 ?_
                        have z221 : (u2 I162 (1000) 53 (v217)) (1011) (Ia13 (1006) ((v18).toNatClampNeg)).toNatClampNeg = Ia13 (1011) ((Ia13 (1006) ((v18).toNatClampNeg)).toNatClampNeg) := (((show (u2 I162 (1000) 53 (v217)) (1011) ((Ia13 (1006) ((v18).toNatClampNeg)).toNatClampNeg) = I162 (1011) ((Ia13 (1006) ((v18).toNatClampNeg)).toNatClampNeg) from by simp [u2_v])).trans (congrFun (hkI162.getA (1011) rfl) ((Ia13 (1006) ((v18).toNatClampNeg)).toNatClampNeg))).trans (show (u2 (u2 (u2 (u2 Ia13 (1000) 55 (v4)) (1000) 53 (v26)) (1049) ((v18).toNatClampNeg) (Ia13 (1049) ((v18).toNatClampNeg))) (1050) ((r33).toNatClampNeg) (v145)) (1011) ((Ia13 (1006) ((v18).toNatClampNeg)).toNatClampNeg) = Ia13 (1011) ((Ia13 (1006) ((v18).toNatClampNeg)).toNatClampNeg) from by simp [u2_v])
                        rw [z221]
                        refine lv_i2l hx hb dX10_goes_342 rfl ?_
                        refine lv_topl (fun v222 ev222 => ?_)
                        have tv222 := q_i2l ev222
                        refine lv_lmul hx hb dX10_goes_343 ?_
                        refine lv_topl (fun v223 ev223 => ?_)
                        refine lv_ldc2 (v := (1000)) hx hb hown (hts _ tb_1428) dX10_goes_344 ?_
                        refine lv_ldiv hx hb dX10_goes_347 (by decide) ?_
                        refine lv_topl (fun v224 ev224 => ?_)
                        refine lv_l2i hx hb dX10_goes_348 rfl ?_
                        refine lv_topi (fun v225 ev225 => ?_)
                        refine lv_istore (lv' := [(14, .int (v225)), (8, .int (v219)), (10, .int (v215)), (13, .int (1000)), (12, .int (Ia13 (1006) ((v18).toNatClampNeg))), (11, .int (r33)), (9, .int (v18)), (7, .int (x7_13)), (6, .int (x6_13)), (5, .int (x5_13)), (0, .ref (ad (1000))), (1, .int (a0)), (2, .int (a1)), (3, .int (a2)), (4, .int (a3))]) hx hb dX10_goes_349 hl (by decide) rfl (fun ls hl => ?_)
                        refine lv_iload hx hb dX10_goes_351 (lv_at hl 1 rfl) ?_
                        refine lv_iload hx hb dX10_goes_353 (lv_at hl 0 rfl) ?_
                        refine lv_isub hx hb dX10_goes_355 ?_
                        refine lv_topi (fun v226 ev226 => ?_)
                        refine lv_istore (lv' := [(8, .int (v226)), (14, .int (v225)), (10, .int (v215)), (13, .int (1000)), (12, .int (Ia13 (1006) ((v18).toNatClampNeg))), (11, .int (r33)), (9, .int (v18)), (7, .int (x7_13)), (6, .int (x6_13)), (5, .int (x5_13)), (0, .ref (ad (1000))), (1, .int (a0)), (2, .int (a1)), (3, .int (a2)), (4, .int (a3))]) hx hb dX10_goes_356 hl (by decide) rfl (fun ls hl => ?_)
                        refine lv_iload hx hb dX10_goes_358 (lv_at hl 1 rfl) ?_
                        refine lv_if_le (tgt := 387) hx hb dX10_goes_360 (by decide) (fun c227 => ?_) (fun c227 => ?_)
                        · have hc227 := c227
                          have q227 := q_le hc227
                          refine lv_aload_n hx hb dX10_goes_387 rfl (lv_at hl 10 rfl) ?_
                          refine m_getr (1000) 9 (1009) hx hb hts hown hE oc10 hM hJ.1 rfl (by decide) rfl (hJ.2 9 (by decide)).2 (by decide) tb_1186 dX10_goes_388 ?_
                          refine lv_iload hx hb dX10_goes_391 (lv_at hl 4 rfl) ?_
                          refine m_iald (1009) hx hb hE hM (hJ.2 9 (by decide)).1 rfl (vp_in_iff.mpr (by omega)) dX10_goes_393 ?_
                          have z228 : (u2 I162 (1000) 53 (v217)) (1009) (Ia13 (1006) ((v18).toNatClampNeg)).toNatClampNeg = Ia13 (1009) ((Ia13 (1006) ((v18).toNatClampNeg)).toNatClampNeg) := (((show (u2 I162 (1000) 53 (v217)) (1009) ((Ia13 (1006) ((v18).toNatClampNeg)).toNatClampNeg) = I162 (1009) ((Ia13 (1006) ((v18).toNatClampNeg)).toNatClampNeg) from by simp [u2_v])).trans (congrFun (hkI162.getA (1009) rfl) ((Ia13 (1006) ((v18).toNatClampNeg)).toNatClampNeg))).trans (show (u2 (u2 (u2 (u2 Ia13 (1000) 55 (v4)) (1000) 53 (v26)) (1049) ((v18).toNatClampNeg) (Ia13 (1049) ((v18).toNatClampNeg))) (1050) ((r33).toNatClampNeg) (v145)) (1009) ((Ia13 (1006) ((v18).toNatClampNeg)).toNatClampNeg) = Ia13 (1009) ((Ia13 (1006) ((v18).toNatClampNeg)).toNatClampNeg) from by simp [u2_v])
                          rw [z228]
                          refine lv_iload hx hb dX10_goes_394 (lv_at hl 7 rfl) ?_
                          refine lv_isub hx hb dX10_goes_396 ?_
                          refine lv_topi (fun v229 ev229 => ?_)
                          refine lv_bipush (v := (8)) hx hb dX10_goes_397 (by decide) ?_
                          refine lv_iadd hx hb dX10_goes_399 ?_
                          refine lv_topi (fun v230 ev230 => ?_)
                          refine lv_bipush (v := (8)) hx hb dX10_goes_400 (by decide) ?_
                          refine lv_irem hx hb dX10_goes_402 (by decide) ?_
                          refine lv_topi (fun v231 ev231 => ?_)
                          refine lv_istore (lv' := [(7, .int (v231)), (8, .int (v226)), (14, .int (v225)), (10, .int (v215)), (13, .int (1000)), (12, .int (Ia13 (1006) ((v18).toNatClampNeg))), (11, .int (r33)), (9, .int (v18)), (6, .int (x6_13)), (5, .int (x5_13)), (0, .ref (ad (1000))), (1, .int (a0)), (2, .int (a1)), (3, .int (a2)), (4, .int (a3))]) hx hb dX10_goes_403 hl (by decide) rfl (fun ls hl => ?_)
                          refine lv_iload hx hb dX10_goes_405 (lv_at hl 9 rfl) ?_
                          refine lv_iload hx hb dX10_goes_407 (lv_at hl 0 rfl) ?_
                          refine m_calli (m_runS (As := [.int (v231)]) (rest := [.int (x5_13)]) hx hb hml hown hts hE hM hS hA ce_X10_stepX tb_1660 (V_X10_stepX l D A ad ns (u2 I162 (1000) 53 (v217)) L163 G (v231) hI) rfl rfl ⟨Nat.le_of_ble_eq_true rfl, Nat.le_of_ble_eq_true rfl⟩  rfl hl.1 rfl (Nat.le_of_ble_eq_true rfl) dX10_goes_409 ⟨Nat.le_of_ble_eq_true rfl, Nat.le_of_ble_eq_true rfl⟩) hS (fun r232 u H locs hw hM hS => ?_)
                          obtain ⟨rfl, xr232⟩ := hw
                          have hM : Mem D A ad ns (u2 I162 (1000) 53 (v217)) L163 G H := hM
                          refine lv_iadd hx hb dX10_goes_412 ?_
                          refine lv_topi (fun v233 ev233 => ?_)
                          have tv233 := a_add ev233 (by omega) (by omega)
                          refine lv_istore (lv' := [(5, .int (v233)), (7, .int (v231)), (8, .int (v226)), (14, .int (v225)), (10, .int (v215)), (13, .int (1000)), (12, .int (Ia13 (1006) ((v18).toNatClampNeg))), (11, .int (r33)), (9, .int (v18)), (6, .int (x6_13)), (0, .ref (ad (1000))), (1, .int (a0)), (2, .int (a1)), (3, .int (a2)), (4, .int (a3))]) hx hb dX10_goes_413 hl (by decide) rfl (fun ls hl => ?_)
                          refine lv_iload hx hb dX10_goes_415 (lv_at hl 9 rfl) ?_
                          refine lv_iload hx hb dX10_goes_417 (lv_at hl 1 rfl) ?_
                          refine m_calli (m_runS (As := [.int (v231)]) (rest := [.int (x6_13)]) hx hb hml hown hts hE hM hS hA ce_X10_stepY tb_1663 (V_X10_stepY l D A ad ns (u2 I162 (1000) 53 (v217)) L163 G (v231) hI) rfl rfl ⟨Nat.le_of_ble_eq_true rfl, Nat.le_of_ble_eq_true rfl⟩  rfl hl.1 rfl (Nat.le_of_ble_eq_true rfl) dX10_goes_419 ⟨Nat.le_of_ble_eq_true rfl, Nat.le_of_ble_eq_true rfl⟩) hS (fun r234 u H locs hw hM hS => ?_)
                          obtain ⟨rfl, xr234⟩ := hw
                          have hM : Mem D A ad ns (u2 I162 (1000) 53 (v217)) L163 G H := hM
                          refine lv_iadd hx hb dX10_goes_422 ?_
                          refine lv_topi (fun v235 ev235 => ?_)
                          have tv235 := a_add ev235 (by omega) (by omega)
                          refine lv_istore (lv' := [(6, .int (v235)), (5, .int (v233)), (7, .int (v231)), (8, .int (v226)), (14, .int (v225)), (10, .int (v215)), (13, .int (1000)), (12, .int (Ia13 (1006) ((v18).toNatClampNeg))), (11, .int (r33)), (9, .int (v18)), (0, .ref (ad (1000))), (1, .int (a0)), (2, .int (a1)), (3, .int (a2)), (4, .int (a3))]) hx hb dX10_goes_423 hl (by decide) rfl (fun ls hl => ?_)
                          refine lv_goto (tgt := 13) hx hb dX10_goes_425 (by decide) ?_
                          have tr100055 : ((u2 I162 (1000) 53 (v217)) (1000) 55).toInt = (v4 : Int32).toInt := congrArg Int32.toInt ((((show (u2 I162 (1000) 53 (v217)) (1000) 55 = I162 (1000) 55 from by simp [u2_v])).trans (hkI162.get (1000) 55 rfl)).trans (show (u2 (u2 (u2 (u2 Ia13 (1000) 55 (v4)) (1000) 53 (v26)) (1049) ((v18).toNatClampNeg) (Ia13 (1049) ((v18).toNatClampNeg))) (1050) ((r33).toNatClampNeg) (v145)) (1000) 55 = v4 from by simp [u2_v]))
                          have tr100052 : ((u2 I162 (1000) 53 (v217)) (1000) 52).toInt = (Ia13 (1000) 52 : Int32).toInt := congrArg Int32.toInt ((((show (u2 I162 (1000) 53 (v217)) (1000) 52 = I162 (1000) 52 from by simp [u2_v])).trans (hkI162.get (1000) 52 rfl)).trans (show (u2 (u2 (u2 (u2 Ia13 (1000) 55 (v4)) (1000) 53 (v26)) (1049) ((v18).toNatClampNeg) (Ia13 (1049) ((v18).toNatClampNeg))) (1050) ((r33).toNatClampNeg) (v145)) (1000) 52 = Ia13 (1000) 52 from by simp [u2_v]))
                          exact ih13 (v226) (v231) (v235) (v233) (u2 I162 (1000) 53 (v217)) L163 _ _ ls hI hK (by omega) (by omega) hM hS (lv_sub hl [3, 2, 0, 1, 10, 11, 12, 13, 14] rfl)
                        · have hc227 := c227
                          have q227 := q_nle hc227
                          refine lv_aload_n hx hb dX10_goes_363 rfl (lv_at hl 10 rfl) ?_
                          refine lv_iload hx hb dX10_goes_364 (lv_at hl 9 rfl) ?_
                          refine lv_iload hx hb dX10_goes_366 (lv_at hl 7 rfl) ?_
                          refine m_calli (m_runS (As := [.int (x7_13)]) (rest := [.int (x5_13), .ref (ad (1000))]) hx hb hml hown hts hE hM hS hA ce_X10_stepX tb_1660 (V_X10_stepX l D A ad ns (u2 I162 (1000) 53 (v217)) L163 G (x7_13) hI) rfl rfl ⟨Nat.le_of_ble_eq_true rfl, Nat.le_of_ble_eq_true rfl⟩  rfl hl.1 rfl (Nat.le_of_ble_eq_true rfl) dX10_goes_368 ⟨Nat.le_of_ble_eq_true rfl, Nat.le_of_ble_eq_true rfl⟩) hS (fun r236 u H locs hw hM hS => ?_)
                          obtain ⟨rfl, xr236⟩ := hw
                          have hM : Mem D A ad ns (u2 I162 (1000) 53 (v217)) L163 G H := hM
                          refine lv_iadd hx hb dX10_goes_371 ?_
                          refine lv_topi (fun v237 ev237 => ?_)
                          have tv237 := a_add ev237 (by omega) (by omega)
                          refine lv_iload hx hb dX10_goes_372 (lv_at hl 8 rfl) ?_
                          refine lv_iload hx hb dX10_goes_374 (lv_at hl 7 rfl) ?_
                          refine m_calli (m_runS (As := [.int (x7_13)]) (rest := [.int (x6_13), .int (v237), .ref (ad (1000))]) hx hb hml hown hts hE hM hS hA ce_X10_stepY tb_1663 (V_X10_stepY l D A ad ns (u2 I162 (1000) 53 (v217)) L163 G (x7_13) hI) rfl rfl ⟨Nat.le_of_ble_eq_true rfl, Nat.le_of_ble_eq_true rfl⟩  rfl hl.1 rfl (Nat.le_of_ble_eq_true rfl) dX10_goes_376 ⟨Nat.le_of_ble_eq_true rfl, Nat.le_of_ble_eq_true rfl⟩) hS (fun r238 u H locs hw hM hS => ?_)
                          obtain ⟨rfl, xr238⟩ := hw
                          have hM : Mem D A ad ns (u2 I162 (1000) 53 (v217)) L163 G H := hM
                          refine lv_iadd hx hb dX10_goes_379 ?_
                          refine lv_topi (fun v239 ev239 => ?_)
                          have tv239 := a_add ev239 (by omega) (by omega)
                          refine lv_iload hx hb dX10_goes_380 (lv_at hl 7 rfl) ?_
                          refine lv_iload hx hb dX10_goes_382 (lv_at hl 1 rfl) ?_
                          refine m_callv (m_runV (1000) (As := [.int (v237), .int (v239), .int (x7_13), .int (v225)]) (rest := []) hx hb hml hown hts hE hM hS hA ce_X10_waitsFor tb_1666 (V_X10_waitsFor l D A ad ns (u2 I162 (1000) 53 (v217)) L163 G (v237) (v239) (x7_13) (v225) hJ hI) rfl rfl ⟨Nat.le_of_ble_eq_true rfl, Nat.le_of_ble_eq_true rfl⟩ hJ.1 rfl rfl (by decide) rfl hl.1 rfl (Nat.le_of_ble_eq_true rfl) dX10_goes_384 ⟨Nat.le_of_ble_eq_true rfl, Nat.le_of_ble_eq_true rfl⟩) hS (fun u H locs hw hM hS => ?_)
                          obtain ⟨I240, L241, rfl, hI, hkI240, xI240⟩ := hw
                          have hM : Mem D A ad ns I240 L241 G H := hM
                          have hK := hK.trans hkI240 rfl
                          have pw242 : ((u2 I162 (1000) 53 (v217)) (1000) 52).toInt = (Ia13 (1000) 52 : Int32).toInt := congrArg Int32.toInt ((((show (u2 I162 (1000) 53 (v217)) (1000) 52 = I162 (1000) 52 from by simp [u2_v])).trans (hkI162.get (1000) 52 rfl)).trans (show (u2 (u2 (u2 (u2 Ia13 (1000) 55 (v4)) (1000) 53 (v26)) (1049) ((v18).toNatClampNeg) (Ia13 (1049) ((v18).toNatClampNeg))) (1050) ((r33).toNatClampNeg) (v145)) (1000) 52 = Ia13 (1000) 52 from by simp [u2_v]))
                          refine lv_aload_n hx hb dX10_goes_387 rfl (lv_at hl 10 rfl) ?_
                          refine m_getr (1000) 9 (1009) hx hb hts hown hE oc10 hM hJ.1 rfl (by decide) rfl (hJ.2 9 (by decide)).2 (by decide) tb_1186 dX10_goes_388 ?_
                          refine lv_iload hx hb dX10_goes_391 (lv_at hl 4 rfl) ?_
                          refine m_iald (1009) hx hb hE hM (hJ.2 9 (by decide)).1 rfl (vp_in_iff.mpr (by omega)) dX10_goes_393 ?_
                          have z243 : I240 (1009) (Ia13 (1006) ((v18).toNatClampNeg)).toNatClampNeg = Ia13 (1009) ((Ia13 (1006) ((v18).toNatClampNeg)).toNatClampNeg) := ((((congrFun (hkI240.getA (1009) rfl) ((Ia13 (1006) ((v18).toNatClampNeg)).toNatClampNeg))).trans (show (u2 I162 (1000) 53 (v217)) (1009) ((Ia13 (1006) ((v18).toNatClampNeg)).toNatClampNeg) = I162 (1009) ((Ia13 (1006) ((v18).toNatClampNeg)).toNatClampNeg) from by simp [u2_v])).trans (congrFun (hkI162.getA (1009) rfl) ((Ia13 (1006) ((v18).toNatClampNeg)).toNatClampNeg))).trans (show (u2 (u2 (u2 (u2 Ia13 (1000) 55 (v4)) (1000) 53 (v26)) (1049) ((v18).toNatClampNeg) (Ia13 (1049) ((v18).toNatClampNeg))) (1050) ((r33).toNatClampNeg) (v145)) (1009) ((Ia13 (1006) ((v18).toNatClampNeg)).toNatClampNeg) = Ia13 (1009) ((Ia13 (1006) ((v18).toNatClampNeg)).toNatClampNeg) from by simp [u2_v])
                          rw [z243]
                          refine lv_iload hx hb dX10_goes_394 (lv_at hl 7 rfl) ?_
                          refine lv_isub hx hb dX10_goes_396 ?_
                          refine lv_topi (fun v244 ev244 => ?_)
                          refine lv_bipush (v := (8)) hx hb dX10_goes_397 (by decide) ?_
                          refine lv_iadd hx hb dX10_goes_399 ?_
                          refine lv_topi (fun v245 ev245 => ?_)
                          refine lv_bipush (v := (8)) hx hb dX10_goes_400 (by decide) ?_
                          refine lv_irem hx hb dX10_goes_402 (by decide) ?_
                          refine lv_topi (fun v246 ev246 => ?_)
                          refine lv_istore (lv' := [(7, .int (v246)), (8, .int (v226)), (14, .int (v225)), (10, .int (v215)), (13, .int (1000)), (12, .int (Ia13 (1006) ((v18).toNatClampNeg))), (11, .int (r33)), (9, .int (v18)), (6, .int (x6_13)), (5, .int (x5_13)), (0, .ref (ad (1000))), (1, .int (a0)), (2, .int (a1)), (3, .int (a2)), (4, .int (a3))]) hx hb dX10_goes_403 hl (by decide) rfl (fun ls hl => ?_)
                          refine lv_iload hx hb dX10_goes_405 (lv_at hl 9 rfl) ?_
                          refine lv_iload hx hb dX10_goes_407 (lv_at hl 0 rfl) ?_
                          refine m_calli (m_runS (As := [.int (v246)]) (rest := [.int (x5_13)]) hx hb hml hown hts hE hM hS hA ce_X10_stepX tb_1660 (V_X10_stepX l D A ad ns I240 L241 G (v246) hI) rfl rfl ⟨Nat.le_of_ble_eq_true rfl, Nat.le_of_ble_eq_true rfl⟩  rfl hl.1 rfl (Nat.le_of_ble_eq_true rfl) dX10_goes_409 ⟨Nat.le_of_ble_eq_true rfl, Nat.le_of_ble_eq_true rfl⟩) hS (fun r247 u H locs hw hM hS => ?_)
                          obtain ⟨rfl, xr247⟩ := hw
                          have hM : Mem D A ad ns I240 L241 G H := hM
                          refine lv_iadd hx hb dX10_goes_412 ?_
                          refine lv_topi (fun v248 ev248 => ?_)
                          have tv248 := a_add ev248 (by omega) (by omega)
                          refine lv_istore (lv' := [(5, .int (v248)), (7, .int (v246)), (8, .int (v226)), (14, .int (v225)), (10, .int (v215)), (13, .int (1000)), (12, .int (Ia13 (1006) ((v18).toNatClampNeg))), (11, .int (r33)), (9, .int (v18)), (6, .int (x6_13)), (0, .ref (ad (1000))), (1, .int (a0)), (2, .int (a1)), (3, .int (a2)), (4, .int (a3))]) hx hb dX10_goes_413 hl (by decide) rfl (fun ls hl => ?_)
                          refine lv_iload hx hb dX10_goes_415 (lv_at hl 9 rfl) ?_
                          refine lv_iload hx hb dX10_goes_417 (lv_at hl 1 rfl) ?_
                          refine m_calli (m_runS (As := [.int (v246)]) (rest := [.int (x6_13)]) hx hb hml hown hts hE hM hS hA ce_X10_stepY tb_1663 (V_X10_stepY l D A ad ns I240 L241 G (v246) hI) rfl rfl ⟨Nat.le_of_ble_eq_true rfl, Nat.le_of_ble_eq_true rfl⟩  rfl hl.1 rfl (Nat.le_of_ble_eq_true rfl) dX10_goes_419 ⟨Nat.le_of_ble_eq_true rfl, Nat.le_of_ble_eq_true rfl⟩) hS (fun r249 u H locs hw hM hS => ?_)
                          obtain ⟨rfl, xr249⟩ := hw
                          have hM : Mem D A ad ns I240 L241 G H := hM
                          refine lv_iadd hx hb dX10_goes_422 ?_
                          refine lv_topi (fun v250 ev250 => ?_)
                          have tv250 := a_add ev250 (by omega) (by omega)
                          refine lv_istore (lv' := [(6, .int (v250)), (5, .int (v248)), (7, .int (v246)), (8, .int (v226)), (14, .int (v225)), (10, .int (v215)), (13, .int (1000)), (12, .int (Ia13 (1006) ((v18).toNatClampNeg))), (11, .int (r33)), (9, .int (v18)), (0, .ref (ad (1000))), (1, .int (a0)), (2, .int (a1)), (3, .int (a2)), (4, .int (a3))]) hx hb dX10_goes_423 hl (by decide) rfl (fun ls hl => ?_)
                          refine lv_goto (tgt := 13) hx hb dX10_goes_425 (by decide) ?_
                          have tr100055 : (I240 (1000) 55).toInt = (v4 : Int32).toInt := congrArg Int32.toInt (((((hkI240.get (1000) 55 rfl)).trans (show (u2 I162 (1000) 53 (v217)) (1000) 55 = I162 (1000) 55 from by simp [u2_v])).trans (hkI162.get (1000) 55 rfl)).trans (show (u2 (u2 (u2 (u2 Ia13 (1000) 55 (v4)) (1000) 53 (v26)) (1049) ((v18).toNatClampNeg) (Ia13 (1049) ((v18).toNatClampNeg))) (1050) ((r33).toNatClampNeg) (v145)) (1000) 55 = v4 from by simp [u2_v]))
                          exact ih13 (v226) (v246) (v250) (v248) I240 L241 _ _ ls hI hK (by omega) (by omega) hM hS (lv_sub hl [3, 2, 0, 1, 10, 11, 12, 13, 14] rfl)
              · have hc30 := c30
                have q30 := q_nle hc30
                refine lv_iload hx hb dX10_goes_154 (lv_at hl 0 rfl) ?_
                refine lv_goto (tgt := 166) hx hb dX10_goes_156 (by decide) ?_
                refine m_iast (1049) hx hb hE hM hS (hJ.2 49 (by decide)).1 rfl (vp_in_iff.mpr (by omega)) dX10_goes_166 (fun H locs I251 eI251 hM hS => ?_)
                subst eI251
                have hI := hI.putF (n := 1049) (k := ((v18).toNatClampNeg)) (v := v28) rfl
                have hK := hK.put (n := 1049) (k := ((v18).toNatClampNeg)) (v := v28) (by first | rfl | simp [inR])
                refine lv_aload_n hx hb dX10_goes_167 rfl (lv_at hl 6 rfl) ?_
                refine lv_iload hx hb dX10_goes_168 (lv_at hl 5 rfl) ?_
                refine lv_iload hx hb dX10_goes_170 (lv_at hl 4 rfl) ?_
                refine m_calli (m_runV (1000) (As := [.int (x5_13), .int (x6_13)]) (rest := []) hx hb hml hown hts hE hM hS hA ce_X10_yardOf tb_1652 (V_X10_yardOf l D A ad ns (u2 (u2 (u2 Ia13 (1000) 55 (v4)) (1000) 53 (v26)) (1049) ((v18).toNatClampNeg) (v28)) La13 G (x5_13) (x6_13) hJ hI) rfl rfl ⟨Nat.le_of_ble_eq_true rfl, Nat.le_of_ble_eq_true rfl⟩ hJ.1 rfl rfl (by decide) rfl hl.1 rfl (Nat.le_of_ble_eq_true rfl) dX10_goes_172 ⟨Nat.le_of_ble_eq_true rfl, Nat.le_of_ble_eq_true rfl⟩) hS (fun r252 u H locs hw hM hS => ?_)
                obtain ⟨rfl, xr252⟩ := hw
                have hM : Mem D A ad ns (u2 (u2 (u2 Ia13 (1000) 55 (v4)) (1000) 53 (v26)) (1049) ((v18).toNatClampNeg) (v28)) La13 G H := hM
                refine lv_istore (lv' := [(11, .int (r252)), (8, .int (v28)), (10, .int (v24)), (9, .int (v18)), (7, .int (x7_13)), (6, .int (x6_13)), (5, .int (x5_13)), (0, .ref (ad (1000))), (1, .int (a0)), (2, .int (a1)), (3, .int (a2)), (4, .int (a3))]) hx hb dX10_goes_175 hl (by decide) rfl (fun ls hl => ?_)
                refine lv_iload hx hb dX10_goes_177 (lv_at hl 0 rfl) ?_
                refine lv_iconst (v := (-1)) hx hb dX10_goes_179 (by decide) ?_
                refine lv_icmp_eq (tgt := 221) hx hb dX10_goes_180 (by decide) (fun c253 => ?_) (fun c253 => ?_)
                · have hc253 := c253
                  have q253 := q_eq hc253
                  refine lv_aload_n hx hb dX10_goes_221 rfl (lv_at hl 7 rfl) ?_
                  refine m_getr (1000) 6 (1006) hx hb hts hown hE oc10 hM hJ.1 rfl (by decide) rfl (hJ.2 6 (by decide)).2 (by decide) tb_1183 dX10_goes_222 ?_
                  refine lv_iload hx hb dX10_goes_225 (lv_at hl 3 rfl) ?_
                  refine m_iald (1006) hx hb hE hM (hJ.2 6 (by decide)).1 rfl (vp_in_iff.mpr (by omega)) dX10_goes_227 ?_
                  have g254 := hI.get (1006) ((v18).toNatClampNeg) (lo := -1) (hi := 23) rfl
                  have z255 : (u2 (u2 (u2 Ia13 (1000) 55 (v4)) (1000) 53 (v26)) (1049) ((v18).toNatClampNeg) (v28)) (1006) (v18).toNatClampNeg = Ia13 (1006) ((v18).toNatClampNeg) := (show (u2 (u2 (u2 Ia13 (1000) 55 (v4)) (1000) 53 (v26)) (1049) ((v18).toNatClampNeg) (v28)) (1006) ((v18).toNatClampNeg) = Ia13 (1006) ((v18).toNatClampNeg) from by simp [u2_v])
                  rw [z255] at g254 ⊢
                  refine lv_istore (lv' := [(12, .int (Ia13 (1006) ((v18).toNatClampNeg))), (11, .int (r252)), (8, .int (v28)), (10, .int (v24)), (9, .int (v18)), (7, .int (x7_13)), (6, .int (x6_13)), (5, .int (x5_13)), (0, .ref (ad (1000))), (1, .int (a0)), (2, .int (a1)), (3, .int (a2)), (4, .int (a3))]) hx hb dX10_goes_228 hl (by decide) rfl (fun ls hl => ?_)
                  refine lv_iload hx hb dX10_goes_230 (lv_at hl 0 rfl) ?_
                  refine lv_iconst (v := (-1)) hx hb dX10_goes_232 (by decide) ?_
                  refine lv_icmp_eq (tgt := 405) hx hb dX10_goes_233 (by decide) (fun c256 => ?_) (fun c256 => ?_)
                  · have hc256 := c256
                    have q256 := q_eq hc256
                    refine lv_iload hx hb dX10_goes_405 (lv_at hl 7 rfl) ?_
                    refine lv_iload hx hb dX10_goes_407 (lv_at hl 5 rfl) ?_
                    refine m_calli (m_runS (As := [.int (x7_13)]) (rest := [.int (x5_13)]) hx hb hml hown hts hE hM hS hA ce_X10_stepX tb_1660 (V_X10_stepX l D A ad ns (u2 (u2 (u2 Ia13 (1000) 55 (v4)) (1000) 53 (v26)) (1049) ((v18).toNatClampNeg) (v28)) La13 G (x7_13) hI) rfl rfl ⟨Nat.le_of_ble_eq_true rfl, Nat.le_of_ble_eq_true rfl⟩  rfl hl.1 rfl (Nat.le_of_ble_eq_true rfl) dX10_goes_409 ⟨Nat.le_of_ble_eq_true rfl, Nat.le_of_ble_eq_true rfl⟩) hS (fun r257 u H locs hw hM hS => ?_)
                    obtain ⟨rfl, xr257⟩ := hw
                    have hM : Mem D A ad ns (u2 (u2 (u2 Ia13 (1000) 55 (v4)) (1000) 53 (v26)) (1049) ((v18).toNatClampNeg) (v28)) La13 G H := hM
                    refine lv_iadd hx hb dX10_goes_412 ?_
                    refine lv_topi (fun v258 ev258 => ?_)
                    have tv258 := a_add ev258 (by omega) (by omega)
                    refine lv_istore (lv' := [(5, .int (v258)), (12, .int (Ia13 (1006) ((v18).toNatClampNeg))), (11, .int (r252)), (8, .int (v28)), (10, .int (v24)), (9, .int (v18)), (7, .int (x7_13)), (6, .int (x6_13)), (0, .ref (ad (1000))), (1, .int (a0)), (2, .int (a1)), (3, .int (a2)), (4, .int (a3))]) hx hb dX10_goes_413 hl (by decide) rfl (fun ls hl => ?_)
                    refine lv_iload hx hb dX10_goes_415 (lv_at hl 7 rfl) ?_
                    refine lv_iload hx hb dX10_goes_417 (lv_at hl 6 rfl) ?_
                    refine m_calli (m_runS (As := [.int (x7_13)]) (rest := [.int (x6_13)]) hx hb hml hown hts hE hM hS hA ce_X10_stepY tb_1663 (V_X10_stepY l D A ad ns (u2 (u2 (u2 Ia13 (1000) 55 (v4)) (1000) 53 (v26)) (1049) ((v18).toNatClampNeg) (v28)) La13 G (x7_13) hI) rfl rfl ⟨Nat.le_of_ble_eq_true rfl, Nat.le_of_ble_eq_true rfl⟩  rfl hl.1 rfl (Nat.le_of_ble_eq_true rfl) dX10_goes_419 ⟨Nat.le_of_ble_eq_true rfl, Nat.le_of_ble_eq_true rfl⟩) hS (fun r259 u H locs hw hM hS => ?_)
                    obtain ⟨rfl, xr259⟩ := hw
                    have hM : Mem D A ad ns (u2 (u2 (u2 Ia13 (1000) 55 (v4)) (1000) 53 (v26)) (1049) ((v18).toNatClampNeg) (v28)) La13 G H := hM
                    refine lv_iadd hx hb dX10_goes_422 ?_
                    refine lv_topi (fun v260 ev260 => ?_)
                    have tv260 := a_add ev260 (by omega) (by omega)
                    refine lv_istore (lv' := [(6, .int (v260)), (5, .int (v258)), (12, .int (Ia13 (1006) ((v18).toNatClampNeg))), (11, .int (r252)), (8, .int (v28)), (10, .int (v24)), (9, .int (v18)), (7, .int (x7_13)), (0, .ref (ad (1000))), (1, .int (a0)), (2, .int (a1)), (3, .int (a2)), (4, .int (a3))]) hx hb dX10_goes_423 hl (by decide) rfl (fun ls hl => ?_)
                    refine lv_goto (tgt := 13) hx hb dX10_goes_425 (by decide) ?_
                    have tr100055 : ((u2 (u2 (u2 Ia13 (1000) 55 (v4)) (1000) 53 (v26)) (1049) ((v18).toNatClampNeg) (v28)) (1000) 55).toInt = (v4 : Int32).toInt := congrArg Int32.toInt ((show (u2 (u2 (u2 Ia13 (1000) 55 (v4)) (1000) 53 (v26)) (1049) ((v18).toNatClampNeg) (v28)) (1000) 55 = v4 from by simp [u2_v]))
                    have tr100052 : ((u2 (u2 (u2 Ia13 (1000) 55 (v4)) (1000) 53 (v26)) (1049) ((v18).toNatClampNeg) (v28)) (1000) 52).toInt = (Ia13 (1000) 52 : Int32).toInt := congrArg Int32.toInt ((show (u2 (u2 (u2 Ia13 (1000) 55 (v4)) (1000) 53 (v26)) (1049) ((v18).toNatClampNeg) (v28)) (1000) 52 = Ia13 (1000) 52 from by simp [u2_v]))
                    exact ih13 (v28) (x7_13) (v260) (v258) (u2 (u2 (u2 Ia13 (1000) 55 (v4)) (1000) 53 (v26)) (1049) ((v18).toNatClampNeg) (v28)) La13 _ _ ls hI hK (by omega) (by omega) hM hS (lv_sub hl [4, 7, 0, 1, 8, 9, 10, 11, 12] rfl)
                  · have hc256 := c256
                    have q256 := q_ne hc256
                    refine lv_aload_n hx hb dX10_goes_236 rfl (lv_at hl 8 rfl) ?_
                    refine m_getr (1000) 15 (1015) hx hb hts hown hE oc10 hM hJ.1 rfl (by decide) rfl (hJ.2 15 (by decide)).2 (by decide) tb_1192 dX10_goes_237 ?_
                    refine lv_iload hx hb dX10_goes_240 (lv_at hl 0 rfl) ?_
                    refine m_iald (1015) hx hb hE hM (hJ.2 15 (by decide)).1 rfl (vp_in_iff.mpr (by omega)) dX10_goes_242 ?_
                    have z261 : (u2 (u2 (u2 Ia13 (1000) 55 (v4)) (1000) 53 (v26)) (1049) ((v18).toNatClampNeg) (v28)) (1015) (Ia13 (1006) ((v18).toNatClampNeg)).toNatClampNeg = Ia13 (1015) ((Ia13 (1006) ((v18).toNatClampNeg)).toNatClampNeg) := (show (u2 (u2 (u2 Ia13 (1000) 55 (v4)) (1000) 53 (v26)) (1049) ((v18).toNatClampNeg) (v28)) (1015) ((Ia13 (1006) ((v18).toNatClampNeg)).toNatClampNeg) = Ia13 (1015) ((Ia13 (1006) ((v18).toNatClampNeg)).toNatClampNeg) from by simp [u2_v])
                    rw [z261]
                    refine lv_if_ne (tgt := 405) hx hb dX10_goes_243 (by decide) (fun c262 => ?_) (fun c262 => ?_)
                    · have hc262 := c262
                      have q262 := q_ne hc262
                      refine lv_iload hx hb dX10_goes_405 (lv_at hl 7 rfl) ?_
                      refine lv_iload hx hb dX10_goes_407 (lv_at hl 5 rfl) ?_
                      refine m_calli (m_runS (As := [.int (x7_13)]) (rest := [.int (x5_13)]) hx hb hml hown hts hE hM hS hA ce_X10_stepX tb_1660 (V_X10_stepX l D A ad ns (u2 (u2 (u2 Ia13 (1000) 55 (v4)) (1000) 53 (v26)) (1049) ((v18).toNatClampNeg) (v28)) La13 G (x7_13) hI) rfl rfl ⟨Nat.le_of_ble_eq_true rfl, Nat.le_of_ble_eq_true rfl⟩  rfl hl.1 rfl (Nat.le_of_ble_eq_true rfl) dX10_goes_409 ⟨Nat.le_of_ble_eq_true rfl, Nat.le_of_ble_eq_true rfl⟩) hS (fun r263 u H locs hw hM hS => ?_)
                      obtain ⟨rfl, xr263⟩ := hw
                      have hM : Mem D A ad ns (u2 (u2 (u2 Ia13 (1000) 55 (v4)) (1000) 53 (v26)) (1049) ((v18).toNatClampNeg) (v28)) La13 G H := hM
                      refine lv_iadd hx hb dX10_goes_412 ?_
                      refine lv_topi (fun v264 ev264 => ?_)
                      have tv264 := a_add ev264 (by omega) (by omega)
                      refine lv_istore (lv' := [(5, .int (v264)), (12, .int (Ia13 (1006) ((v18).toNatClampNeg))), (11, .int (r252)), (8, .int (v28)), (10, .int (v24)), (9, .int (v18)), (7, .int (x7_13)), (6, .int (x6_13)), (0, .ref (ad (1000))), (1, .int (a0)), (2, .int (a1)), (3, .int (a2)), (4, .int (a3))]) hx hb dX10_goes_413 hl (by decide) rfl (fun ls hl => ?_)
                      refine lv_iload hx hb dX10_goes_415 (lv_at hl 7 rfl) ?_
                      refine lv_iload hx hb dX10_goes_417 (lv_at hl 6 rfl) ?_
                      refine m_calli (m_runS (As := [.int (x7_13)]) (rest := [.int (x6_13)]) hx hb hml hown hts hE hM hS hA ce_X10_stepY tb_1663 (V_X10_stepY l D A ad ns (u2 (u2 (u2 Ia13 (1000) 55 (v4)) (1000) 53 (v26)) (1049) ((v18).toNatClampNeg) (v28)) La13 G (x7_13) hI) rfl rfl ⟨Nat.le_of_ble_eq_true rfl, Nat.le_of_ble_eq_true rfl⟩  rfl hl.1 rfl (Nat.le_of_ble_eq_true rfl) dX10_goes_419 ⟨Nat.le_of_ble_eq_true rfl, Nat.le_of_ble_eq_true rfl⟩) hS (fun r265 u H locs hw hM hS => ?_)
                      obtain ⟨rfl, xr265⟩ := hw
                      have hM : Mem D A ad ns (u2 (u2 (u2 Ia13 (1000) 55 (v4)) (1000) 53 (v26)) (1049) ((v18).toNatClampNeg) (v28)) La13 G H := hM
                      refine lv_iadd hx hb dX10_goes_422 ?_
                      refine lv_topi (fun v266 ev266 => ?_)
                      have tv266 := a_add ev266 (by omega) (by omega)
                      refine lv_istore (lv' := [(6, .int (v266)), (5, .int (v264)), (12, .int (Ia13 (1006) ((v18).toNatClampNeg))), (11, .int (r252)), (8, .int (v28)), (10, .int (v24)), (9, .int (v18)), (7, .int (x7_13)), (0, .ref (ad (1000))), (1, .int (a0)), (2, .int (a1)), (3, .int (a2)), (4, .int (a3))]) hx hb dX10_goes_423 hl (by decide) rfl (fun ls hl => ?_)
                      refine lv_goto (tgt := 13) hx hb dX10_goes_425 (by decide) ?_
                      have tr100055 : ((u2 (u2 (u2 Ia13 (1000) 55 (v4)) (1000) 53 (v26)) (1049) ((v18).toNatClampNeg) (v28)) (1000) 55).toInt = (v4 : Int32).toInt := congrArg Int32.toInt ((show (u2 (u2 (u2 Ia13 (1000) 55 (v4)) (1000) 53 (v26)) (1049) ((v18).toNatClampNeg) (v28)) (1000) 55 = v4 from by simp [u2_v]))
                      have tr100052 : ((u2 (u2 (u2 Ia13 (1000) 55 (v4)) (1000) 53 (v26)) (1049) ((v18).toNatClampNeg) (v28)) (1000) 52).toInt = (Ia13 (1000) 52 : Int32).toInt := congrArg Int32.toInt ((show (u2 (u2 (u2 Ia13 (1000) 55 (v4)) (1000) 53 (v26)) (1049) ((v18).toNatClampNeg) (v28)) (1000) 52 = Ia13 (1000) 52 from by simp [u2_v]))
                      exact ih13 (v28) (x7_13) (v266) (v264) (u2 (u2 (u2 Ia13 (1000) 55 (v4)) (1000) 53 (v26)) (1049) ((v18).toNatClampNeg) (v28)) La13 _ _ ls hI hK (by omega) (by omega) hM hS (lv_sub hl [4, 7, 0, 1, 8, 9, 10, 11, 12] rfl)
                    · have hc262 := c262
                      have q262 := q_eq hc262
                      refine lv_aload_n hx hb dX10_goes_246 rfl (lv_at hl 8 rfl) ?_
                      refine lv_iload hx hb dX10_goes_247 (lv_at hl 0 rfl) ?_
                      refine lv_iload hx hb dX10_goes_249 (lv_at hl 2 rfl) ?_
                      refine m_calli (m_runV (1000) (As := [.int (Ia13 (1006) ((v18).toNatClampNeg)), .int (v28)]) (rest := []) hx hb hml hown hts hE hM hS hA ce_X10_told tb_1656 (V_X10_told l D A ad ns (u2 (u2 (u2 Ia13 (1000) 55 (v4)) (1000) 53 (v26)) (1049) ((v18).toNatClampNeg) (v28)) La13 G (Ia13 (1006) ((v18).toNatClampNeg)) (v28) hJ hI (by first | omega | decide)) rfl rfl ⟨Nat.le_of_ble_eq_true rfl, Nat.le_of_ble_eq_true rfl⟩ hJ.1 rfl rfl (by decide) rfl hl.1 rfl (Nat.le_of_ble_eq_true rfl) dX10_goes_251 ⟨Nat.le_of_ble_eq_true rfl, Nat.le_of_ble_eq_true rfl⟩) hS (fun r267 u H locs hw hM hS => ?_)
                      obtain ⟨I268, L269, rfl, hI, hkI268⟩ := hw
                      have hM : Mem D A ad ns I268 L269 G H := hM
                      have hK := hK.trans hkI268 rfl
                      refine lv_istore (lv' := [(8, .int (r267)), (12, .int (Ia13 (1006) ((v18).toNatClampNeg))), (11, .int (r252)), (10, .int (v24)), (9, .int (v18)), (7, .int (x7_13)), (6, .int (x6_13)), (5, .int (x5_13)), (0, .ref (ad (1000))), (1, .int (a0)), (2, .int (a1)), (3, .int (a2)), (4, .int (a3))]) hx hb dX10_goes_254 hl (by decide) rfl (fun ls hl => ?_)
                      refine lv_aload_n hx hb dX10_goes_256 rfl (lv_at hl 8 rfl) ?_
                      refine m_getr (1000) 10 (1010) hx hb hts hown hE oc10 hM hJ.1 rfl (by decide) rfl (hJ.2 10 (by decide)).2 (by decide) tb_1187 dX10_goes_257 ?_
                      refine lv_iload hx hb dX10_goes_260 (lv_at hl 1 rfl) ?_
                      refine m_iald (1010) hx hb hE hM (hJ.2 10 (by decide)).1 rfl (vp_in_iff.mpr (by omega)) dX10_goes_262 ?_
                      have z270 : I268 (1010) (Ia13 (1006) ((v18).toNatClampNeg)).toNatClampNeg = Ia13 (1010) ((Ia13 (1006) ((v18).toNatClampNeg)).toNatClampNeg) := ((congrFun (hkI268.getA (1010) rfl) ((Ia13 (1006) ((v18).toNatClampNeg)).toNatClampNeg))).trans (show (u2 (u2 (u2 Ia13 (1000) 55 (v4)) (1000) 53 (v26)) (1049) ((v18).toNatClampNeg) (v28)) (1010) ((Ia13 (1006) ((v18).toNatClampNeg)).toNatClampNeg) = Ia13 (1010) ((Ia13 (1006) ((v18).toNatClampNeg)).toNatClampNeg) from by simp [u2_v])
                      rw [z270]
                      refine lv_aload_n hx hb dX10_goes_263 rfl (lv_at hl 8 rfl) ?_
                      refine m_getr (1000) 14 (1014) hx hb hts hown hE oc10 hM hJ.1 rfl (by decide) rfl (hJ.2 14 (by decide)).2 (by decide) tb_1191 dX10_goes_264 ?_
                      refine lv_iload hx hb dX10_goes_267 (lv_at hl 1 rfl) ?_
                      refine m_iald (1014) hx hb hE hM (hJ.2 14 (by decide)).1 rfl (vp_in_iff.mpr (by omega)) dX10_goes_269 ?_
                      have z271 : I268 (1014) (Ia13 (1006) ((v18).toNatClampNeg)).toNatClampNeg = Ia13 (1014) ((Ia13 (1006) ((v18).toNatClampNeg)).toNatClampNeg) := ((congrFun (hkI268.getA (1014) rfl) ((Ia13 (1006) ((v18).toNatClampNeg)).toNatClampNeg))).trans (show (u2 (u2 (u2 Ia13 (1000) 55 (v4)) (1000) 53 (v26)) (1049) ((v18).toNatClampNeg) (v28)) (1014) ((Ia13 (1006) ((v18).toNatClampNeg)).toNatClampNeg) = Ia13 (1014) ((Ia13 (1006) ((v18).toNatClampNeg)).toNatClampNeg) from by simp [u2_v])
                      rw [z271]
                      refine lv_iadd hx hb dX10_goes_270 ?_
                      refine lv_topi (fun v272 ev272 => ?_)
                      refine lv_sipush (v := (1000)) hx hb dX10_goes_271 (by decide) ?_
                      refine lv_icmp_le (tgt := 283) hx hb dX10_goes_274 (by decide) (fun c273 => ?_) (fun c273 => ?_)
                      · have hc273 := c273
                        have q273 := q_le hc273
                        refine lv_aload_n hx hb dX10_goes_283 rfl (lv_at hl 8 rfl) ?_
                        refine m_getr (1000) 10 (1010) hx hb hts hown hE oc10 hM hJ.1 rfl (by decide) rfl (hJ.2 10 (by decide)).2 (by decide) tb_1187 dX10_goes_284 ?_
                        refine lv_iload hx hb dX10_goes_287 (lv_at hl 1 rfl) ?_
                        refine m_iald (1010) hx hb hE hM (hJ.2 10 (by decide)).1 rfl (vp_in_iff.mpr (by omega)) dX10_goes_289 ?_
                        have z274 : I268 (1010) (Ia13 (1006) ((v18).toNatClampNeg)).toNatClampNeg = Ia13 (1010) ((Ia13 (1006) ((v18).toNatClampNeg)).toNatClampNeg) := ((congrFun (hkI268.getA (1010) rfl) ((Ia13 (1006) ((v18).toNatClampNeg)).toNatClampNeg))).trans (show (u2 (u2 (u2 Ia13 (1000) 55 (v4)) (1000) 53 (v26)) (1049) ((v18).toNatClampNeg) (v28)) (1010) ((Ia13 (1006) ((v18).toNatClampNeg)).toNatClampNeg) = Ia13 (1010) ((Ia13 (1006) ((v18).toNatClampNeg)).toNatClampNeg) from by simp [u2_v])
                        rw [z274]
                        refine lv_aload_n hx hb dX10_goes_290 rfl (lv_at hl 8 rfl) ?_
                        refine m_getr (1000) 14 (1014) hx hb hts hown hE oc10 hM hJ.1 rfl (by decide) rfl (hJ.2 14 (by decide)).2 (by decide) tb_1191 dX10_goes_291 ?_
                        refine lv_iload hx hb dX10_goes_294 (lv_at hl 1 rfl) ?_
                        refine m_iald (1014) hx hb hE hM (hJ.2 14 (by decide)).1 rfl (vp_in_iff.mpr (by omega)) dX10_goes_296 ?_
                        have z275 : I268 (1014) (Ia13 (1006) ((v18).toNatClampNeg)).toNatClampNeg = Ia13 (1014) ((Ia13 (1006) ((v18).toNatClampNeg)).toNatClampNeg) := ((congrFun (hkI268.getA (1014) rfl) ((Ia13 (1006) ((v18).toNatClampNeg)).toNatClampNeg))).trans (show (u2 (u2 (u2 Ia13 (1000) 55 (v4)) (1000) 53 (v26)) (1049) ((v18).toNatClampNeg) (v28)) (1014) ((Ia13 (1006) ((v18).toNatClampNeg)).toNatClampNeg) = Ia13 (1014) ((Ia13 (1006) ((v18).toNatClampNeg)).toNatClampNeg) from by simp [u2_v])
                        rw [z275]
                        refine lv_iadd hx hb dX10_goes_297 ?_
                        refine lv_topi (fun v276 ev276 => ?_)
                        refine lv_istore (lv' := [(13, .int (v276)), (8, .int (r267)), (12, .int (Ia13 (1006) ((v18).toNatClampNeg))), (11, .int (r252)), (10, .int (v24)), (9, .int (v18)), (7, .int (x7_13)), (6, .int (x6_13)), (5, .int (x5_13)), (0, .ref (ad (1000))), (1, .int (a0)), (2, .int (a1)), (3, .int (a2)), (4, .int (a3))]) hx hb dX10_goes_298 hl (by decide) rfl (fun ls hl => ?_)
                        refine lv_iload hx hb dX10_goes_300 (lv_at hl 1 rfl) ?_
                        refine lv_i2l hx hb dX10_goes_302 rfl ?_
                        refine lv_topl (fun v277 ev277 => ?_)
                        have tv277 := q_i2l ev277
                        refine lv_iload hx hb dX10_goes_303 (lv_at hl 0 rfl) ?_
                        refine lv_i2l hx hb dX10_goes_305 rfl ?_
                        refine lv_topl (fun v278 ev278 => ?_)
                        have tv278 := q_i2l ev278
                        refine lv_lmul hx hb dX10_goes_306 ?_
                        refine lv_topl (fun v279 ev279 => ?_)
                        refine lv_ldc2 (v := (1000)) hx hb hown (hts _ tb_1428) dX10_goes_307 ?_
                        refine lv_ldiv hx hb dX10_goes_310 (by decide) ?_
                        refine lv_topl (fun v280 ev280 => ?_)
                        refine lv_l2i hx hb dX10_goes_311 rfl ?_
                        refine lv_topi (fun v281 ev281 => ?_)
                        refine lv_istore (lv' := [(10, .int (v281)), (13, .int (v276)), (8, .int (r267)), (12, .int (Ia13 (1006) ((v18).toNatClampNeg))), (11, .int (r252)), (9, .int (v18)), (7, .int (x7_13)), (6, .int (x6_13)), (5, .int (x5_13)), (0, .ref (ad (1000))), (1, .int (a0)), (2, .int (a1)), (3, .int (a2)), (4, .int (a3))]) hx hb dX10_goes_312 hl (by decide) rfl (fun ls hl => ?_)
                        refine lv_aload_n hx hb dX10_goes_314 rfl (lv_at hl 9 rfl) ?_
                        refine lv_dup hx hb dX10_goes_315 rfl ?_
                        refine m_geti (1000) 53 hx hb hts hown hE oc10 hM hJ.1 rfl (by decide) rfl tb_1230 dX10_goes_316 ?_
                        have z282 : I268 (1000) 53 = v26 := ((hkI268.get (1000) 53 rfl)).trans (show (u2 (u2 (u2 Ia13 (1000) 55 (v4)) (1000) 53 (v26)) (1049) ((v18).toNatClampNeg) (v28)) (1000) 53 = v26 from by simp [u2_v])
                        rw [z282]
                        refine lv_iload hx hb dX10_goes_319 (lv_at hl 0 rfl) ?_
                        refine lv_iadd hx hb dX10_goes_321 ?_
                        refine lv_topi (fun v283 ev283 => ?_)
                        refine m_puti (1000) 53 hx hb hts hown hE oc10 hM hS hJ.1 rfl (by decide) rfl rfl rfl rfl tb_1230 dX10_goes_322 (fun H locs I284 eI284 hM hS => ?_)
                        subst eI284
                        have hI := hI.putF (n := 1000) (k := 53) (v := v283) rfl
                        have hK := hK.put (n := 1000) (k := 53) (v := v283) (by first | rfl | simp [inR])
                        refine lv_iload hx hb dX10_goes_325 (lv_at hl 2 rfl) ?_
                        refine lv_iload hx hb dX10_goes_327 (lv_at hl 0 rfl) ?_
                        refine lv_isub hx hb dX10_goes_329 ?_
                        refine lv_topi (fun v285 ev285 => ?_)
                        refine lv_istore (lv' := [(8, .int (v285)), (10, .int (v281)), (13, .int (v276)), (12, .int (Ia13 (1006) ((v18).toNatClampNeg))), (11, .int (r252)), (9, .int (v18)), (7, .int (x7_13)), (6, .int (x6_13)), (5, .int (x5_13)), (0, .ref (ad (1000))), (1, .int (a0)), (2, .int (a1)), (3, .int (a2)), (4, .int (a3))]) hx hb dX10_goes_330 hl (by decide) rfl (fun ls hl => ?_)
                        refine lv_iload hx hb dX10_goes_332 (lv_at hl 0 rfl) ?_
                        refine lv_i2l hx hb dX10_goes_334 rfl ?_
                        refine lv_topl (fun v286 ev286 => ?_)
                        have tv286 := q_i2l ev286
                        refine lv_aload_n hx hb dX10_goes_335 rfl (lv_at hl 9 rfl) ?_
                        refine m_getr (1000) 11 (1011) hx hb hts hown hE oc10 hM hJ.1 rfl (by decide) rfl (hJ.2 11 (by decide)).2 (by decide) tb_1188 dX10_goes_336 ?_
                        refine lv_iload hx hb dX10_goes_339 (lv_at hl 3 rfl) ?_
                        refine m_iald (1011) hx hb hE hM (hJ.2 11 (by decide)).1 rfl (vp_in_iff.mpr (by omega)) dX10_goes_341 ?_
                        have z287 : (u2 I268 (1000) 53 (v283)) (1011) (Ia13 (1006) ((v18).toNatClampNeg)).toNatClampNeg = Ia13 (1011) ((Ia13 (1006) ((v18).toNatClampNeg)).toNatClampNeg) := (((show (u2 I268 (1000) 53 (v283)) (1011) ((Ia13 (1006) ((v18).toNatClampNeg)).toNatClampNeg) = I268 (1011) ((Ia13 (1006) ((v18).toNatClampNeg)).toNatClampNeg) from by simp [u2_v])).trans (congrFun (hkI268.getA (1011) rfl) ((Ia13 (1006) ((v18).toNatClampNeg)).toNatClampNeg))).trans (show (u2 (u2 (u2 Ia13 (1000) 55 (v4)) (1000) 53 (v26)) (1049) ((v18).toNatClampNeg) (v28)) (1011) ((Ia13 (1006) ((v18).toNatClampNeg)).toNatClampNeg) = Ia13 (1011) ((Ia13 (1006) ((v18).toNatClampNeg)).toNatClampNeg) from by simp [u2_v])
                        rw [z287]
                        refine lv_i2l hx hb dX10_goes_342 rfl ?_
                        refine lv_topl (fun v288 ev288 => ?_)
                        have tv288 := q_i2l ev288
                        refine lv_lmul hx hb dX10_goes_343 ?_
                        refine lv_topl (fun v289 ev289 => ?_)
                        refine lv_ldc2 (v := (1000)) hx hb hown (hts _ tb_1428) dX10_goes_344 ?_
                        refine lv_ldiv hx hb dX10_goes_347 (by decide) ?_
                        refine lv_topl (fun v290 ev290 => ?_)
                        refine lv_l2i hx hb dX10_goes_348 rfl ?_
                        refine lv_topi (fun v291 ev291 => ?_)
                        refine lv_istore (lv' := [(14, .int (v291)), (8, .int (v285)), (10, .int (v281)), (13, .int (v276)), (12, .int (Ia13 (1006) ((v18).toNatClampNeg))), (11, .int (r252)), (9, .int (v18)), (7, .int (x7_13)), (6, .int (x6_13)), (5, .int (x5_13)), (0, .ref (ad (1000))), (1, .int (a0)), (2, .int (a1)), (3, .int (a2)), (4, .int (a3))]) hx hb dX10_goes_349 hl (by decide) rfl (fun ls hl => ?_)
                        refine lv_iload hx hb dX10_goes_351 (lv_at hl 1 rfl) ?_
                        refine lv_iload hx hb dX10_goes_353 (lv_at hl 0 rfl) ?_
                        refine lv_isub hx hb dX10_goes_355 ?_
                        refine lv_topi (fun v292 ev292 => ?_)
                        refine lv_istore (lv' := [(8, .int (v292)), (14, .int (v291)), (10, .int (v281)), (13, .int (v276)), (12, .int (Ia13 (1006) ((v18).toNatClampNeg))), (11, .int (r252)), (9, .int (v18)), (7, .int (x7_13)), (6, .int (x6_13)), (5, .int (x5_13)), (0, .ref (ad (1000))), (1, .int (a0)), (2, .int (a1)), (3, .int (a2)), (4, .int (a3))]) hx hb dX10_goes_356 hl (by decide) rfl (fun ls hl => ?_)
                        refine lv_iload hx hb dX10_goes_358 (lv_at hl 1 rfl) ?_
                        refine lv_if_le (tgt := 387) hx hb dX10_goes_360 (by decide) (fun c293 => ?_) (fun c293 => ?_)
                        · have hc293 := c293
                          have q293 := q_le hc293
                          refine lv_aload_n hx hb dX10_goes_387 rfl (lv_at hl 10 rfl) ?_
                          refine m_getr (1000) 9 (1009) hx hb hts hown hE oc10 hM hJ.1 rfl (by decide) rfl (hJ.2 9 (by decide)).2 (by decide) tb_1186 dX10_goes_388 ?_
                          refine lv_iload hx hb dX10_goes_391 (lv_at hl 4 rfl) ?_
                          refine m_iald (1009) hx hb hE hM (hJ.2 9 (by decide)).1 rfl (vp_in_iff.mpr (by omega)) dX10_goes_393 ?_
                          have z294 : (u2 I268 (1000) 53 (v283)) (1009) (Ia13 (1006) ((v18).toNatClampNeg)).toNatClampNeg = Ia13 (1009) ((Ia13 (1006) ((v18).toNatClampNeg)).toNatClampNeg) := (((show (u2 I268 (1000) 53 (v283)) (1009) ((Ia13 (1006) ((v18).toNatClampNeg)).toNatClampNeg) = I268 (1009) ((Ia13 (1006) ((v18).toNatClampNeg)).toNatClampNeg) from by simp [u2_v])).trans (congrFun (hkI268.getA (1009) rfl) ((Ia13 (1006) ((v18).toNatClampNeg)).toNatClampNeg))).trans (show (u2 (u2 (u2 Ia13 (1000) 55 (v4)) (1000) 53 (v26)) (1049) ((v18).toNatClampNeg) (v28)) (1009) ((Ia13 (1006) ((v18).toNatClampNeg)).toNatClampNeg) = Ia13 (1009) ((Ia13 (1006) ((v18).toNatClampNeg)).toNatClampNeg) from by simp [u2_v])
                          rw [z294]
                          refine lv_iload hx hb dX10_goes_394 (lv_at hl 7 rfl) ?_
                          refine lv_isub hx hb dX10_goes_396 ?_
                          refine lv_topi (fun v295 ev295 => ?_)
                          refine lv_bipush (v := (8)) hx hb dX10_goes_397 (by decide) ?_
                          refine lv_iadd hx hb dX10_goes_399 ?_
                          refine lv_topi (fun v296 ev296 => ?_)
                          refine lv_bipush (v := (8)) hx hb dX10_goes_400 (by decide) ?_
                          refine lv_irem hx hb dX10_goes_402 (by decide) ?_
                          refine lv_topi (fun v297 ev297 => ?_)
                          refine lv_istore (lv' := [(7, .int (v297)), (8, .int (v292)), (14, .int (v291)), (10, .int (v281)), (13, .int (v276)), (12, .int (Ia13 (1006) ((v18).toNatClampNeg))), (11, .int (r252)), (9, .int (v18)), (6, .int (x6_13)), (5, .int (x5_13)), (0, .ref (ad (1000))), (1, .int (a0)), (2, .int (a1)), (3, .int (a2)), (4, .int (a3))]) hx hb dX10_goes_403 hl (by decide) rfl (fun ls hl => ?_)
                          refine lv_iload hx hb dX10_goes_405 (lv_at hl 9 rfl) ?_
                          refine lv_iload hx hb dX10_goes_407 (lv_at hl 0 rfl) ?_
                          refine m_calli (m_runS (As := [.int (v297)]) (rest := [.int (x5_13)]) hx hb hml hown hts hE hM hS hA ce_X10_stepX tb_1660 (V_X10_stepX l D A ad ns (u2 I268 (1000) 53 (v283)) L269 G (v297) hI) rfl rfl ⟨Nat.le_of_ble_eq_true rfl, Nat.le_of_ble_eq_true rfl⟩  rfl hl.1 rfl (Nat.le_of_ble_eq_true rfl) dX10_goes_409 ⟨Nat.le_of_ble_eq_true rfl, Nat.le_of_ble_eq_true rfl⟩) hS (fun r298 u H locs hw hM hS => ?_)
                          obtain ⟨rfl, xr298⟩ := hw
                          have hM : Mem D A ad ns (u2 I268 (1000) 53 (v283)) L269 G H := hM
                          refine lv_iadd hx hb dX10_goes_412 ?_
                          refine lv_topi (fun v299 ev299 => ?_)
                          have tv299 := a_add ev299 (by omega) (by omega)
                          refine lv_istore (lv' := [(5, .int (v299)), (7, .int (v297)), (8, .int (v292)), (14, .int (v291)), (10, .int (v281)), (13, .int (v276)), (12, .int (Ia13 (1006) ((v18).toNatClampNeg))), (11, .int (r252)), (9, .int (v18)), (6, .int (x6_13)), (0, .ref (ad (1000))), (1, .int (a0)), (2, .int (a1)), (3, .int (a2)), (4, .int (a3))]) hx hb dX10_goes_413 hl (by decide) rfl (fun ls hl => ?_)
                          refine lv_iload hx hb dX10_goes_415 (lv_at hl 9 rfl) ?_
                          refine lv_iload hx hb dX10_goes_417 (lv_at hl 1 rfl) ?_
                          refine m_calli (m_runS (As := [.int (v297)]) (rest := [.int (x6_13)]) hx hb hml hown hts hE hM hS hA ce_X10_stepY tb_1663 (V_X10_stepY l D A ad ns (u2 I268 (1000) 53 (v283)) L269 G (v297) hI) rfl rfl ⟨Nat.le_of_ble_eq_true rfl, Nat.le_of_ble_eq_true rfl⟩  rfl hl.1 rfl (Nat.le_of_ble_eq_true rfl) dX10_goes_419 ⟨Nat.le_of_ble_eq_true rfl, Nat.le_of_ble_eq_true rfl⟩) hS (fun r300 u H locs hw hM hS => ?_)
                          obtain ⟨rfl, xr300⟩ := hw
                          have hM : Mem D A ad ns (u2 I268 (1000) 53 (v283)) L269 G H := hM
                          refine lv_iadd hx hb dX10_goes_422 ?_
                          refine lv_topi (fun v301 ev301 => ?_)
                          have tv301 := a_add ev301 (by omega) (by omega)
                          refine lv_istore (lv' := [(6, .int (v301)), (5, .int (v299)), (7, .int (v297)), (8, .int (v292)), (14, .int (v291)), (10, .int (v281)), (13, .int (v276)), (12, .int (Ia13 (1006) ((v18).toNatClampNeg))), (11, .int (r252)), (9, .int (v18)), (0, .ref (ad (1000))), (1, .int (a0)), (2, .int (a1)), (3, .int (a2)), (4, .int (a3))]) hx hb dX10_goes_423 hl (by decide) rfl (fun ls hl => ?_)
                          refine lv_goto (tgt := 13) hx hb dX10_goes_425 (by decide) ?_
                          have tr100055 : ((u2 I268 (1000) 53 (v283)) (1000) 55).toInt = (v4 : Int32).toInt := congrArg Int32.toInt ((((show (u2 I268 (1000) 53 (v283)) (1000) 55 = I268 (1000) 55 from by simp [u2_v])).trans (hkI268.get (1000) 55 rfl)).trans (show (u2 (u2 (u2 Ia13 (1000) 55 (v4)) (1000) 53 (v26)) (1049) ((v18).toNatClampNeg) (v28)) (1000) 55 = v4 from by simp [u2_v]))
                          have tr100052 : ((u2 I268 (1000) 53 (v283)) (1000) 52).toInt = (Ia13 (1000) 52 : Int32).toInt := congrArg Int32.toInt ((((show (u2 I268 (1000) 53 (v283)) (1000) 52 = I268 (1000) 52 from by simp [u2_v])).trans (hkI268.get (1000) 52 rfl)).trans (show (u2 (u2 (u2 Ia13 (1000) 55 (v4)) (1000) 53 (v26)) (1049) ((v18).toNatClampNeg) (v28)) (1000) 52 = Ia13 (1000) 52 from by simp [u2_v]))
                          exact ih13 (v292) (v297) (v301) (v299) (u2 I268 (1000) 53 (v283)) L269 _ _ ls hI hK (by omega) (by omega) hM hS (lv_sub hl [3, 2, 0, 1, 10, 11, 12, 13, 14] rfl)
                        · have hc293 := c293
                          have q293 := q_nle hc293
                          refine lv_aload_n hx hb dX10_goes_363 rfl (lv_at hl 10 rfl) ?_
                          refine lv_iload hx hb dX10_goes_364 (lv_at hl 9 rfl) ?_
                          refine lv_iload hx hb dX10_goes_366 (lv_at hl 7 rfl) ?_
                          refine m_calli (m_runS (As := [.int (x7_13)]) (rest := [.int (x5_13), .ref (ad (1000))]) hx hb hml hown hts hE hM hS hA ce_X10_stepX tb_1660 (V_X10_stepX l D A ad ns (u2 I268 (1000) 53 (v283)) L269 G (x7_13) hI) rfl rfl ⟨Nat.le_of_ble_eq_true rfl, Nat.le_of_ble_eq_true rfl⟩  rfl hl.1 rfl (Nat.le_of_ble_eq_true rfl) dX10_goes_368 ⟨Nat.le_of_ble_eq_true rfl, Nat.le_of_ble_eq_true rfl⟩) hS (fun r302 u H locs hw hM hS => ?_)
                          obtain ⟨rfl, xr302⟩ := hw
                          have hM : Mem D A ad ns (u2 I268 (1000) 53 (v283)) L269 G H := hM
                          refine lv_iadd hx hb dX10_goes_371 ?_
                          refine lv_topi (fun v303 ev303 => ?_)
                          have tv303 := a_add ev303 (by omega) (by omega)
                          refine lv_iload hx hb dX10_goes_372 (lv_at hl 8 rfl) ?_
                          refine lv_iload hx hb dX10_goes_374 (lv_at hl 7 rfl) ?_
                          refine m_calli (m_runS (As := [.int (x7_13)]) (rest := [.int (x6_13), .int (v303), .ref (ad (1000))]) hx hb hml hown hts hE hM hS hA ce_X10_stepY tb_1663 (V_X10_stepY l D A ad ns (u2 I268 (1000) 53 (v283)) L269 G (x7_13) hI) rfl rfl ⟨Nat.le_of_ble_eq_true rfl, Nat.le_of_ble_eq_true rfl⟩  rfl hl.1 rfl (Nat.le_of_ble_eq_true rfl) dX10_goes_376 ⟨Nat.le_of_ble_eq_true rfl, Nat.le_of_ble_eq_true rfl⟩) hS (fun r304 u H locs hw hM hS => ?_)
                          obtain ⟨rfl, xr304⟩ := hw
                          have hM : Mem D A ad ns (u2 I268 (1000) 53 (v283)) L269 G H := hM
                          refine lv_iadd hx hb dX10_goes_379 ?_
                          refine lv_topi (fun v305 ev305 => ?_)
                          have tv305 := a_add ev305 (by omega) (by omega)
                          refine lv_iload hx hb dX10_goes_380 (lv_at hl 7 rfl) ?_
                          refine lv_iload hx hb dX10_goes_382 (lv_at hl 1 rfl) ?_
                          refine m_callv (m_runV (1000) (As := [.int (v303), .int (v305), .int (x7_13), .int (v291)]) (rest := []) hx hb hml hown hts hE hM hS hA ce_X10_waitsFor tb_1666 (V_X10_waitsFor l D A ad ns (u2 I268 (1000) 53 (v283)) L269 G (v303) (v305) (x7_13) (v291) hJ hI) rfl rfl ⟨Nat.le_of_ble_eq_true rfl, Nat.le_of_ble_eq_true rfl⟩ hJ.1 rfl rfl (by decide) rfl hl.1 rfl (Nat.le_of_ble_eq_true rfl) dX10_goes_384 ⟨Nat.le_of_ble_eq_true rfl, Nat.le_of_ble_eq_true rfl⟩) hS (fun u H locs hw hM hS => ?_)
                          obtain ⟨I306, L307, rfl, hI, hkI306, xI306⟩ := hw
                          have hM : Mem D A ad ns I306 L307 G H := hM
                          have hK := hK.trans hkI306 rfl
                          have pw308 : ((u2 I268 (1000) 53 (v283)) (1000) 52).toInt = (Ia13 (1000) 52 : Int32).toInt := congrArg Int32.toInt ((((show (u2 I268 (1000) 53 (v283)) (1000) 52 = I268 (1000) 52 from by simp [u2_v])).trans (hkI268.get (1000) 52 rfl)).trans (show (u2 (u2 (u2 Ia13 (1000) 55 (v4)) (1000) 53 (v26)) (1049) ((v18).toNatClampNeg) (v28)) (1000) 52 = Ia13 (1000) 52 from by simp [u2_v]))
                          refine lv_aload_n hx hb dX10_goes_387 rfl (lv_at hl 10 rfl) ?_
                          refine m_getr (1000) 9 (1009) hx hb hts hown hE oc10 hM hJ.1 rfl (by decide) rfl (hJ.2 9 (by decide)).2 (by decide) tb_1186 dX10_goes_388 ?_
                          refine lv_iload hx hb dX10_goes_391 (lv_at hl 4 rfl) ?_
                          refine m_iald (1009) hx hb hE hM (hJ.2 9 (by decide)).1 rfl (vp_in_iff.mpr (by omega)) dX10_goes_393 ?_
                          have z309 : I306 (1009) (Ia13 (1006) ((v18).toNatClampNeg)).toNatClampNeg = Ia13 (1009) ((Ia13 (1006) ((v18).toNatClampNeg)).toNatClampNeg) := ((((congrFun (hkI306.getA (1009) rfl) ((Ia13 (1006) ((v18).toNatClampNeg)).toNatClampNeg))).trans (show (u2 I268 (1000) 53 (v283)) (1009) ((Ia13 (1006) ((v18).toNatClampNeg)).toNatClampNeg) = I268 (1009) ((Ia13 (1006) ((v18).toNatClampNeg)).toNatClampNeg) from by simp [u2_v])).trans (congrFun (hkI268.getA (1009) rfl) ((Ia13 (1006) ((v18).toNatClampNeg)).toNatClampNeg))).trans (show (u2 (u2 (u2 Ia13 (1000) 55 (v4)) (1000) 53 (v26)) (1049) ((v18).toNatClampNeg) (v28)) (1009) ((Ia13 (1006) ((v18).toNatClampNeg)).toNatClampNeg) = Ia13 (1009) ((Ia13 (1006) ((v18).toNatClampNeg)).toNatClampNeg) from by simp [u2_v])
                          rw [z309]
                          refine lv_iload hx hb dX10_goes_394 (lv_at hl 7 rfl) ?_
                          refine lv_isub hx hb dX10_goes_396 ?_
                          refine lv_topi (fun v310 ev310 => ?_)
                          refine lv_bipush (v := (8)) hx hb dX10_goes_397 (by decide) ?_
                          refine lv_iadd hx hb dX10_goes_399 ?_
                          refine lv_topi (fun v311 ev311 => ?_)
                          refine lv_bipush (v := (8)) hx hb dX10_goes_400 (by decide) ?_
                          refine lv_irem hx hb dX10_goes_402 (by decide) ?_
                          refine lv_topi (fun v312 ev312 => ?_)
                          refine lv_istore (lv' := [(7, .int (v312)), (8, .int (v292)), (14, .int (v291)), (10, .int (v281)), (13, .int (v276)), (12, .int (Ia13 (1006) ((v18).toNatClampNeg))), (11, .int (r252)), (9, .int (v18)), (6, .int (x6_13)), (5, .int (x5_13)), (0, .ref (ad (1000))), (1, .int (a0)), (2, .int (a1)), (3, .int (a2)), (4, .int (a3))]) hx hb dX10_goes_403 hl (by decide) rfl (fun ls hl => ?_)
                          refine lv_iload hx hb dX10_goes_405 (lv_at hl 9 rfl) ?_
                          refine lv_iload hx hb dX10_goes_407 (lv_at hl 0 rfl) ?_
                          refine m_calli (m_runS (As := [.int (v312)]) (rest := [.int (x5_13)]) hx hb hml hown hts hE hM hS hA ce_X10_stepX tb_1660 (V_X10_stepX l D A ad ns I306 L307 G (v312) hI) rfl rfl ⟨Nat.le_of_ble_eq_true rfl, Nat.le_of_ble_eq_true rfl⟩  rfl hl.1 rfl (Nat.le_of_ble_eq_true rfl) dX10_goes_409 ⟨Nat.le_of_ble_eq_true rfl, Nat.le_of_ble_eq_true rfl⟩) hS (fun r313 u H locs hw hM hS => ?_)
                          obtain ⟨rfl, xr313⟩ := hw
                          have hM : Mem D A ad ns I306 L307 G H := hM
                          refine lv_iadd hx hb dX10_goes_412 ?_
                          refine lv_topi (fun v314 ev314 => ?_)
                          have tv314 := a_add ev314 (by omega) (by omega)
                          refine lv_istore (lv' := [(5, .int (v314)), (7, .int (v312)), (8, .int (v292)), (14, .int (v291)), (10, .int (v281)), (13, .int (v276)), (12, .int (Ia13 (1006) ((v18).toNatClampNeg))), (11, .int (r252)), (9, .int (v18)), (6, .int (x6_13)), (0, .ref (ad (1000))), (1, .int (a0)), (2, .int (a1)), (3, .int (a2)), (4, .int (a3))]) hx hb dX10_goes_413 hl (by decide) rfl (fun ls hl => ?_)
                          refine lv_iload hx hb dX10_goes_415 (lv_at hl 9 rfl) ?_
                          refine lv_iload hx hb dX10_goes_417 (lv_at hl 1 rfl) ?_
                          refine m_calli (m_runS (As := [.int (v312)]) (rest := [.int (x6_13)]) hx hb hml hown hts hE hM hS hA ce_X10_stepY tb_1663 (V_X10_stepY l D A ad ns I306 L307 G (v312) hI) rfl rfl ⟨Nat.le_of_ble_eq_true rfl, Nat.le_of_ble_eq_true rfl⟩  rfl hl.1 rfl (Nat.le_of_ble_eq_true rfl) dX10_goes_419 ⟨Nat.le_of_ble_eq_true rfl, Nat.le_of_ble_eq_true rfl⟩) hS (fun r315 u H locs hw hM hS => ?_)
                          obtain ⟨rfl, xr315⟩ := hw
                          have hM : Mem D A ad ns I306 L307 G H := hM
                          refine lv_iadd hx hb dX10_goes_422 ?_
                          refine lv_topi (fun v316 ev316 => ?_)
                          have tv316 := a_add ev316 (by omega) (by omega)
                          refine lv_istore (lv' := [(6, .int (v316)), (5, .int (v314)), (7, .int (v312)), (8, .int (v292)), (14, .int (v291)), (10, .int (v281)), (13, .int (v276)), (12, .int (Ia13 (1006) ((v18).toNatClampNeg))), (11, .int (r252)), (9, .int (v18)), (0, .ref (ad (1000))), (1, .int (a0)), (2, .int (a1)), (3, .int (a2)), (4, .int (a3))]) hx hb dX10_goes_423 hl (by decide) rfl (fun ls hl => ?_)
                          refine lv_goto (tgt := 13) hx hb dX10_goes_425 (by decide) ?_
                          have tr100055 : (I306 (1000) 55).toInt = (v4 : Int32).toInt := congrArg Int32.toInt (((((hkI306.get (1000) 55 rfl)).trans (show (u2 I268 (1000) 53 (v283)) (1000) 55 = I268 (1000) 55 from by simp [u2_v])).trans (hkI268.get (1000) 55 rfl)).trans (show (u2 (u2 (u2 Ia13 (1000) 55 (v4)) (1000) 53 (v26)) (1049) ((v18).toNatClampNeg) (v28)) (1000) 55 = v4 from by simp [u2_v]))
                          exact ih13 (v292) (v312) (v316) (v314) I306 L307 _ _ ls hI hK (by omega) (by omega) hM hS (lv_sub hl [3, 2, 0, 1, 10, 11, 12, 13, 14] rfl)
                      · have hc273 := c273
                        have q273 := q_nle hc273
                        refine lv_sipush (v := (1000)) hx hb dX10_goes_277 (by decide) ?_
                        refine lv_goto (tgt := 298) hx hb dX10_goes_280 (by decide) ?_
                        refine lv_istore (lv' := [(13, .int (1000)), (8, .int (r267)), (12, .int (Ia13 (1006) ((v18).toNatClampNeg))), (11, .int (r252)), (10, .int (v24)), (9, .int (v18)), (7, .int (x7_13)), (6, .int (x6_13)), (5, .int (x5_13)), (0, .ref (ad (1000))), (1, .int (a0)), (2, .int (a1)), (3, .int (a2)), (4, .int (a3))]) hx hb dX10_goes_298 hl (by decide) rfl (fun ls hl => ?_)
                        refine lv_iload hx hb dX10_goes_300 (lv_at hl 1 rfl) ?_
                        refine lv_i2l hx hb dX10_goes_302 rfl ?_
                        refine lv_topl (fun v317 ev317 => ?_)
                        have tv317 := q_i2l ev317
                        refine lv_iload hx hb dX10_goes_303 (lv_at hl 0 rfl) ?_
                        refine lv_i2l hx hb dX10_goes_305 rfl ?_
                        refine lv_topl (fun v318 ev318 => ?_)
                        have tv318 := q_i2l ev318
                        refine lv_lmul hx hb dX10_goes_306 ?_
                        refine lv_topl (fun v319 ev319 => ?_)
                        refine lv_ldc2 (v := (1000)) hx hb hown (hts _ tb_1428) dX10_goes_307 ?_
                        refine lv_ldiv hx hb dX10_goes_310 (by decide) ?_
                        refine lv_topl (fun v320 ev320 => ?_)
                        refine lv_l2i hx hb dX10_goes_311 rfl ?_
                        refine lv_topi (fun v321 ev321 => ?_)
                        refine lv_istore (lv' := [(10, .int (v321)), (13, .int (1000)), (8, .int (r267)), (12, .int (Ia13 (1006) ((v18).toNatClampNeg))), (11, .int (r252)), (9, .int (v18)), (7, .int (x7_13)), (6, .int (x6_13)), (5, .int (x5_13)), (0, .ref (ad (1000))), (1, .int (a0)), (2, .int (a1)), (3, .int (a2)), (4, .int (a3))]) hx hb dX10_goes_312 hl (by decide) rfl (fun ls hl => ?_)
                        refine lv_aload_n hx hb dX10_goes_314 rfl (lv_at hl 9 rfl) ?_
                        refine lv_dup hx hb dX10_goes_315 rfl ?_
                        refine m_geti (1000) 53 hx hb hts hown hE oc10 hM hJ.1 rfl (by decide) rfl tb_1230 dX10_goes_316 ?_
                        have z322 : I268 (1000) 53 = v26 := ((hkI268.get (1000) 53 rfl)).trans (show (u2 (u2 (u2 Ia13 (1000) 55 (v4)) (1000) 53 (v26)) (1049) ((v18).toNatClampNeg) (v28)) (1000) 53 = v26 from by simp [u2_v])
                        rw [z322]
                        refine lv_iload hx hb dX10_goes_319 (lv_at hl 0 rfl) ?_
                        refine lv_iadd hx hb dX10_goes_321 ?_
                        refine lv_topi (fun v323 ev323 => ?_)
                        refine m_puti (1000) 53 hx hb hts hown hE oc10 hM hS hJ.1 rfl (by decide) rfl rfl rfl rfl tb_1230 dX10_goes_322 (fun H locs I324 eI324 hM hS => ?_)
                        subst eI324
                        have hI := hI.putF (n := 1000) (k := 53) (v := v323) rfl
                        have hK := hK.put (n := 1000) (k := 53) (v := v323) (by first | rfl | simp [inR])
                        refine lv_iload hx hb dX10_goes_325 (lv_at hl 2 rfl) ?_
                        refine lv_iload hx hb dX10_goes_327 (lv_at hl 0 rfl) ?_
                        refine lv_isub hx hb dX10_goes_329 ?_
                        refine lv_topi (fun v325 ev325 => ?_)
                        refine lv_istore (lv' := [(8, .int (v325)), (10, .int (v321)), (13, .int (1000)), (12, .int (Ia13 (1006) ((v18).toNatClampNeg))), (11, .int (r252)), (9, .int (v18)), (7, .int (x7_13)), (6, .int (x6_13)), (5, .int (x5_13)), (0, .ref (ad (1000))), (1, .int (a0)), (2, .int (a1)), (3, .int (a2)), (4, .int (a3))]) hx hb dX10_goes_330 hl (by decide) rfl (fun ls hl => ?_)
                        refine lv_iload hx hb dX10_goes_332 (lv_at hl 0 rfl) ?_
                        refine lv_i2l hx hb dX10_goes_334 rfl ?_
                        refine lv_topl (fun v326 ev326 => ?_)
                        have tv326 := q_i2l ev326
                        refine lv_aload_n hx hb dX10_goes_335 rfl (lv_at hl 9 rfl) ?_
                        refine m_getr (1000) 11 (1011) hx hb hts hown hE oc10 hM hJ.1 rfl (by decide) rfl (hJ.2 11 (by decide)).2 (by decide) tb_1188 dX10_goes_336 ?_
                        refine lv_iload hx hb dX10_goes_339 (lv_at hl 3 rfl) ?_
                        refine m_iald (1011) hx hb hE hM (hJ.2 11 (by decide)).1 rfl (vp_in_iff.mpr (by omega)) dX10_goes_341 ?_
                        have z327 : (u2 I268 (1000) 53 (v323)) (1011) (Ia13 (1006) ((v18).toNatClampNeg)).toNatClampNeg = Ia13 (1011) ((Ia13 (1006) ((v18).toNatClampNeg)).toNatClampNeg) := (((show (u2 I268 (1000) 53 (v323)) (1011) ((Ia13 (1006) ((v18).toNatClampNeg)).toNatClampNeg) = I268 (1011) ((Ia13 (1006) ((v18).toNatClampNeg)).toNatClampNeg) from by simp [u2_v])).trans (congrFun (hkI268.getA (1011) rfl) ((Ia13 (1006) ((v18).toNatClampNeg)).toNatClampNeg))).trans (show (u2 (u2 (u2 Ia13 (1000) 55 (v4)) (1000) 53 (v26)) (1049) ((v18).toNatClampNeg) (v28)) (1011) ((Ia13 (1006) ((v18).toNatClampNeg)).toNatClampNeg) = Ia13 (1011) ((Ia13 (1006) ((v18).toNatClampNeg)).toNatClampNeg) from by simp [u2_v])
                        rw [z327]
                        refine lv_i2l hx hb dX10_goes_342 rfl ?_
                        refine lv_topl (fun v328 ev328 => ?_)
                        have tv328 := q_i2l ev328
                        refine lv_lmul hx hb dX10_goes_343 ?_
                        refine lv_topl (fun v329 ev329 => ?_)
                        refine lv_ldc2 (v := (1000)) hx hb hown (hts _ tb_1428) dX10_goes_344 ?_
                        refine lv_ldiv hx hb dX10_goes_347 (by decide) ?_
                        refine lv_topl (fun v330 ev330 => ?_)
                        refine lv_l2i hx hb dX10_goes_348 rfl ?_
                        refine lv_topi (fun v331 ev331 => ?_)
                        refine lv_istore (lv' := [(14, .int (v331)), (8, .int (v325)), (10, .int (v321)), (13, .int (1000)), (12, .int (Ia13 (1006) ((v18).toNatClampNeg))), (11, .int (r252)), (9, .int (v18)), (7, .int (x7_13)), (6, .int (x6_13)), (5, .int (x5_13)), (0, .ref (ad (1000))), (1, .int (a0)), (2, .int (a1)), (3, .int (a2)), (4, .int (a3))]) hx hb dX10_goes_349 hl (by decide) rfl (fun ls hl => ?_)
                        refine lv_iload hx hb dX10_goes_351 (lv_at hl 1 rfl) ?_
                        refine lv_iload hx hb dX10_goes_353 (lv_at hl 0 rfl) ?_
                        refine lv_isub hx hb dX10_goes_355 ?_
                        refine lv_topi (fun v332 ev332 => ?_)
                        refine lv_istore (lv' := [(8, .int (v332)), (14, .int (v331)), (10, .int (v321)), (13, .int (1000)), (12, .int (Ia13 (1006) ((v18).toNatClampNeg))), (11, .int (r252)), (9, .int (v18)), (7, .int (x7_13)), (6, .int (x6_13)), (5, .int (x5_13)), (0, .ref (ad (1000))), (1, .int (a0)), (2, .int (a1)), (3, .int (a2)), (4, .int (a3))]) hx hb dX10_goes_356 hl (by decide) rfl (fun ls hl => ?_)
                        refine lv_iload hx hb dX10_goes_358 (lv_at hl 1 rfl) ?_
                        refine lv_if_le (tgt := 387) hx hb dX10_goes_360 (by decide) (fun c333 => ?_) (fun c333 => ?_)
                        · have hc333 := c333
                          have q333 := q_le hc333
                          refine lv_aload_n hx hb dX10_goes_387 rfl (lv_at hl 10 rfl) ?_
                          refine m_getr (1000) 9 (1009) hx hb hts hown hE oc10 hM hJ.1 rfl (by decide) rfl (hJ.2 9 (by decide)).2 (by decide) tb_1186 dX10_goes_388 ?_
                          refine lv_iload hx hb dX10_goes_391 (lv_at hl 4 rfl) ?_
                          refine m_iald (1009) hx hb hE hM (hJ.2 9 (by decide)).1 rfl (vp_in_iff.mpr (by omega)) dX10_goes_393 ?_
                          have z334 : (u2 I268 (1000) 53 (v323)) (1009) (Ia13 (1006) ((v18).toNatClampNeg)).toNatClampNeg = Ia13 (1009) ((Ia13 (1006) ((v18).toNatClampNeg)).toNatClampNeg) := (((show (u2 I268 (1000) 53 (v323)) (1009) ((Ia13 (1006) ((v18).toNatClampNeg)).toNatClampNeg) = I268 (1009) ((Ia13 (1006) ((v18).toNatClampNeg)).toNatClampNeg) from by simp [u2_v])).trans (congrFun (hkI268.getA (1009) rfl) ((Ia13 (1006) ((v18).toNatClampNeg)).toNatClampNeg))).trans (show (u2 (u2 (u2 Ia13 (1000) 55 (v4)) (1000) 53 (v26)) (1049) ((v18).toNatClampNeg) (v28)) (1009) ((Ia13 (1006) ((v18).toNatClampNeg)).toNatClampNeg) = Ia13 (1009) ((Ia13 (1006) ((v18).toNatClampNeg)).toNatClampNeg) from by simp [u2_v])
                          rw [z334]
                          refine lv_iload hx hb dX10_goes_394 (lv_at hl 7 rfl) ?_
                          refine lv_isub hx hb dX10_goes_396 ?_
                          refine lv_topi (fun v335 ev335 => ?_)
                          refine lv_bipush (v := (8)) hx hb dX10_goes_397 (by decide) ?_
                          refine lv_iadd hx hb dX10_goes_399 ?_
                          refine lv_topi (fun v336 ev336 => ?_)
                          refine lv_bipush (v := (8)) hx hb dX10_goes_400 (by decide) ?_
                          refine lv_irem hx hb dX10_goes_402 (by decide) ?_
                          refine lv_topi (fun v337 ev337 => ?_)
                          refine lv_istore (lv' := [(7, .int (v337)), (8, .int (v332)), (14, .int (v331)), (10, .int (v321)), (13, .int (1000)), (12, .int (Ia13 (1006) ((v18).toNatClampNeg))), (11, .int (r252)), (9, .int (v18)), (6, .int (x6_13)), (5, .int (x5_13)), (0, .ref (ad (1000))), (1, .int (a0)), (2, .int (a1)), (3, .int (a2)), (4, .int (a3))]) hx hb dX10_goes_403 hl (by decide) rfl (fun ls hl => ?_)
                          refine lv_iload hx hb dX10_goes_405 (lv_at hl 9 rfl) ?_
                          refine lv_iload hx hb dX10_goes_407 (lv_at hl 0 rfl) ?_
                          refine m_calli (m_runS (As := [.int (v337)]) (rest := [.int (x5_13)]) hx hb hml hown hts hE hM hS hA ce_X10_stepX tb_1660 (V_X10_stepX l D A ad ns (u2 I268 (1000) 53 (v323)) L269 G (v337) hI) rfl rfl ⟨Nat.le_of_ble_eq_true rfl, Nat.le_of_ble_eq_true rfl⟩  rfl hl.1 rfl (Nat.le_of_ble_eq_true rfl) dX10_goes_409 ⟨Nat.le_of_ble_eq_true rfl, Nat.le_of_ble_eq_true rfl⟩) hS (fun r338 u H locs hw hM hS => ?_)
                          obtain ⟨rfl, xr338⟩ := hw
                          have hM : Mem D A ad ns (u2 I268 (1000) 53 (v323)) L269 G H := hM
                          refine lv_iadd hx hb dX10_goes_412 ?_
                          refine lv_topi (fun v339 ev339 => ?_)
                          have tv339 := a_add ev339 (by omega) (by omega)
                          refine lv_istore (lv' := [(5, .int (v339)), (7, .int (v337)), (8, .int (v332)), (14, .int (v331)), (10, .int (v321)), (13, .int (1000)), (12, .int (Ia13 (1006) ((v18).toNatClampNeg))), (11, .int (r252)), (9, .int (v18)), (6, .int (x6_13)), (0, .ref (ad (1000))), (1, .int (a0)), (2, .int (a1)), (3, .int (a2)), (4, .int (a3))]) hx hb dX10_goes_413 hl (by decide) rfl (fun ls hl => ?_)
                          refine lv_iload hx hb dX10_goes_415 (lv_at hl 9 rfl) ?_
                          refine lv_iload hx hb dX10_goes_417 (lv_at hl 1 rfl) ?_
                          refine m_calli (m_runS (As := [.int (v337)]) (rest := [.int (x6_13)]) hx hb hml hown hts hE hM hS hA ce_X10_stepY tb_1663 (V_X10_stepY l D A ad ns (u2 I268 (1000) 53 (v323)) L269 G (v337) hI) rfl rfl ⟨Nat.le_of_ble_eq_true rfl, Nat.le_of_ble_eq_true rfl⟩  rfl hl.1 rfl (Nat.le_of_ble_eq_true rfl) dX10_goes_419 ⟨Nat.le_of_ble_eq_true rfl, Nat.le_of_ble_eq_true rfl⟩) hS (fun r340 u H locs hw hM hS => ?_)
                          obtain ⟨rfl, xr340⟩ := hw
                          have hM : Mem D A ad ns (u2 I268 (1000) 53 (v323)) L269 G H := hM
                          refine lv_iadd hx hb dX10_goes_422 ?_
                          refine lv_topi (fun v341 ev341 => ?_)
                          have tv341 := a_add ev341 (by omega) (by omega)
                          refine lv_istore (lv' := [(6, .int (v341)), (5, .int (v339)), (7, .int (v337)), (8, .int (v332)), (14, .int (v331)), (10, .int (v321)), (13, .int (1000)), (12, .int (Ia13 (1006) ((v18).toNatClampNeg))), (11, .int (r252)), (9, .int (v18)), (0, .ref (ad (1000))), (1, .int (a0)), (2, .int (a1)), (3, .int (a2)), (4, .int (a3))]) hx hb dX10_goes_423 hl (by decide) rfl (fun ls hl => ?_)
                          refine lv_goto (tgt := 13) hx hb dX10_goes_425 (by decide) ?_
                          have tr100055 : ((u2 I268 (1000) 53 (v323)) (1000) 55).toInt = (v4 : Int32).toInt := congrArg Int32.toInt ((((show (u2 I268 (1000) 53 (v323)) (1000) 55 = I268 (1000) 55 from by simp [u2_v])).trans (hkI268.get (1000) 55 rfl)).trans (show (u2 (u2 (u2 Ia13 (1000) 55 (v4)) (1000) 53 (v26)) (1049) ((v18).toNatClampNeg) (v28)) (1000) 55 = v4 from by simp [u2_v]))
                          have tr100052 : ((u2 I268 (1000) 53 (v323)) (1000) 52).toInt = (Ia13 (1000) 52 : Int32).toInt := congrArg Int32.toInt ((((show (u2 I268 (1000) 53 (v323)) (1000) 52 = I268 (1000) 52 from by simp [u2_v])).trans (hkI268.get (1000) 52 rfl)).trans (show (u2 (u2 (u2 Ia13 (1000) 55 (v4)) (1000) 53 (v26)) (1049) ((v18).toNatClampNeg) (v28)) (1000) 52 = Ia13 (1000) 52 from by simp [u2_v]))
                          exact ih13 (v332) (v337) (v341) (v339) (u2 I268 (1000) 53 (v323)) L269 _ _ ls hI hK (by omega) (by omega) hM hS (lv_sub hl [3, 2, 0, 1, 10, 11, 12, 13, 14] rfl)
                        · have hc333 := c333
                          have q333 := q_nle hc333
                          refine lv_aload_n hx hb dX10_goes_363 rfl (lv_at hl 10 rfl) ?_
                          refine lv_iload hx hb dX10_goes_364 (lv_at hl 9 rfl) ?_
                          refine lv_iload hx hb dX10_goes_366 (lv_at hl 7 rfl) ?_
                          refine m_calli (m_runS (As := [.int (x7_13)]) (rest := [.int (x5_13), .ref (ad (1000))]) hx hb hml hown hts hE hM hS hA ce_X10_stepX tb_1660 (V_X10_stepX l D A ad ns (u2 I268 (1000) 53 (v323)) L269 G (x7_13) hI) rfl rfl ⟨Nat.le_of_ble_eq_true rfl, Nat.le_of_ble_eq_true rfl⟩  rfl hl.1 rfl (Nat.le_of_ble_eq_true rfl) dX10_goes_368 ⟨Nat.le_of_ble_eq_true rfl, Nat.le_of_ble_eq_true rfl⟩) hS (fun r342 u H locs hw hM hS => ?_)
                          obtain ⟨rfl, xr342⟩ := hw
                          have hM : Mem D A ad ns (u2 I268 (1000) 53 (v323)) L269 G H := hM
                          refine lv_iadd hx hb dX10_goes_371 ?_
                          refine lv_topi (fun v343 ev343 => ?_)
                          have tv343 := a_add ev343 (by omega) (by omega)
                          refine lv_iload hx hb dX10_goes_372 (lv_at hl 8 rfl) ?_
                          refine lv_iload hx hb dX10_goes_374 (lv_at hl 7 rfl) ?_
                          refine m_calli (m_runS (As := [.int (x7_13)]) (rest := [.int (x6_13), .int (v343), .ref (ad (1000))]) hx hb hml hown hts hE hM hS hA ce_X10_stepY tb_1663 (V_X10_stepY l D A ad ns (u2 I268 (1000) 53 (v323)) L269 G (x7_13) hI) rfl rfl ⟨Nat.le_of_ble_eq_true rfl, Nat.le_of_ble_eq_true rfl⟩  rfl hl.1 rfl (Nat.le_of_ble_eq_true rfl) dX10_goes_376 ⟨Nat.le_of_ble_eq_true rfl, Nat.le_of_ble_eq_true rfl⟩) hS (fun r344 u H locs hw hM hS => ?_)
                          obtain ⟨rfl, xr344⟩ := hw
                          have hM : Mem D A ad ns (u2 I268 (1000) 53 (v323)) L269 G H := hM
                          refine lv_iadd hx hb dX10_goes_379 ?_
                          refine lv_topi (fun v345 ev345 => ?_)
                          have tv345 := a_add ev345 (by omega) (by omega)
                          refine lv_iload hx hb dX10_goes_380 (lv_at hl 7 rfl) ?_
                          refine lv_iload hx hb dX10_goes_382 (lv_at hl 1 rfl) ?_
                          refine m_callv (m_runV (1000) (As := [.int (v343), .int (v345), .int (x7_13), .int (v331)]) (rest := []) hx hb hml hown hts hE hM hS hA ce_X10_waitsFor tb_1666 (V_X10_waitsFor l D A ad ns (u2 I268 (1000) 53 (v323)) L269 G (v343) (v345) (x7_13) (v331) hJ hI) rfl rfl ⟨Nat.le_of_ble_eq_true rfl, Nat.le_of_ble_eq_true rfl⟩ hJ.1 rfl rfl (by decide) rfl hl.1 rfl (Nat.le_of_ble_eq_true rfl) dX10_goes_384 ⟨Nat.le_of_ble_eq_true rfl, Nat.le_of_ble_eq_true rfl⟩) hS (fun u H locs hw hM hS => ?_)
                          obtain ⟨I346, L347, rfl, hI, hkI346, xI346⟩ := hw
                          have hM : Mem D A ad ns I346 L347 G H := hM
                          have hK := hK.trans hkI346 rfl
                          have pw348 : ((u2 I268 (1000) 53 (v323)) (1000) 52).toInt = (Ia13 (1000) 52 : Int32).toInt := congrArg Int32.toInt ((((show (u2 I268 (1000) 53 (v323)) (1000) 52 = I268 (1000) 52 from by simp [u2_v])).trans (hkI268.get (1000) 52 rfl)).trans (show (u2 (u2 (u2 Ia13 (1000) 55 (v4)) (1000) 53 (v26)) (1049) ((v18).toNatClampNeg) (v28)) (1000) 52 = Ia13 (1000) 52 from by simp [u2_v]))
                          refine lv_aload_n hx hb dX10_goes_387 rfl (lv_at hl 10 rfl) ?_
                          refine m_getr (1000) 9 (1009) hx hb hts hown hE oc10 hM hJ.1 rfl (by decide) rfl (hJ.2 9 (by decide)).2 (by decide) tb_1186 dX10_goes_388 ?_
                          refine lv_iload hx hb dX10_goes_391 (lv_at hl 4 rfl) ?_
                          refine m_iald (1009) hx hb hE hM (hJ.2 9 (by decide)).1 rfl (vp_in_iff.mpr (by omega)) dX10_goes_393 ?_
                          have z349 : I346 (1009) (Ia13 (1006) ((v18).toNatClampNeg)).toNatClampNeg = Ia13 (1009) ((Ia13 (1006) ((v18).toNatClampNeg)).toNatClampNeg) := ((((congrFun (hkI346.getA (1009) rfl) ((Ia13 (1006) ((v18).toNatClampNeg)).toNatClampNeg))).trans (show (u2 I268 (1000) 53 (v323)) (1009) ((Ia13 (1006) ((v18).toNatClampNeg)).toNatClampNeg) = I268 (1009) ((Ia13 (1006) ((v18).toNatClampNeg)).toNatClampNeg) from by simp [u2_v])).trans (congrFun (hkI268.getA (1009) rfl) ((Ia13 (1006) ((v18).toNatClampNeg)).toNatClampNeg))).trans (show (u2 (u2 (u2 Ia13 (1000) 55 (v4)) (1000) 53 (v26)) (1049) ((v18).toNatClampNeg) (v28)) (1009) ((Ia13 (1006) ((v18).toNatClampNeg)).toNatClampNeg) = Ia13 (1009) ((Ia13 (1006) ((v18).toNatClampNeg)).toNatClampNeg) from by simp [u2_v])
                          rw [z349]
                          refine lv_iload hx hb dX10_goes_394 (lv_at hl 7 rfl) ?_
                          refine lv_isub hx hb dX10_goes_396 ?_
                          refine lv_topi (fun v350 ev350 => ?_)
                          refine lv_bipush (v := (8)) hx hb dX10_goes_397 (by decide) ?_
                          refine lv_iadd hx hb dX10_goes_399 ?_
                          refine lv_topi (fun v351 ev351 => ?_)
                          refine lv_bipush (v := (8)) hx hb dX10_goes_400 (by decide) ?_
                          refine lv_irem hx hb dX10_goes_402 (by decide) ?_
                          refine lv_topi (fun v352 ev352 => ?_)
                          refine lv_istore (lv' := [(7, .int (v352)), (8, .int (v332)), (14, .int (v331)), (10, .int (v321)), (13, .int (1000)), (12, .int (Ia13 (1006) ((v18).toNatClampNeg))), (11, .int (r252)), (9, .int (v18)), (6, .int (x6_13)), (5, .int (x5_13)), (0, .ref (ad (1000))), (1, .int (a0)), (2, .int (a1)), (3, .int (a2)), (4, .int (a3))]) hx hb dX10_goes_403 hl (by decide) rfl (fun ls hl => ?_)
                          refine lv_iload hx hb dX10_goes_405 (lv_at hl 9 rfl) ?_
                          refine lv_iload hx hb dX10_goes_407 (lv_at hl 0 rfl) ?_
                          refine m_calli (m_runS (As := [.int (v352)]) (rest := [.int (x5_13)]) hx hb hml hown hts hE hM hS hA ce_X10_stepX tb_1660 (V_X10_stepX l D A ad ns I346 L347 G (v352) hI) rfl rfl ⟨Nat.le_of_ble_eq_true rfl, Nat.le_of_ble_eq_true rfl⟩  rfl hl.1 rfl (Nat.le_of_ble_eq_true rfl) dX10_goes_409 ⟨Nat.le_of_ble_eq_true rfl, Nat.le_of_ble_eq_true rfl⟩) hS (fun r353 u H locs hw hM hS => ?_)
                          obtain ⟨rfl, xr353⟩ := hw
                          have hM : Mem D A ad ns I346 L347 G H := hM
                          refine lv_iadd hx hb dX10_goes_412 ?_
                          refine lv_topi (fun v354 ev354 => ?_)
                          have tv354 := a_add ev354 (by omega) (by omega)
                          refine lv_istore (lv' := [(5, .int (v354)), (7, .int (v352)), (8, .int (v332)), (14, .int (v331)), (10, .int (v321)), (13, .int (1000)), (12, .int (Ia13 (1006) ((v18).toNatClampNeg))), (11, .int (r252)), (9, .int (v18)), (6, .int (x6_13)), (0, .ref (ad (1000))), (1, .int (a0)), (2, .int (a1)), (3, .int (a2)), (4, .int (a3))]) hx hb dX10_goes_413 hl (by decide) rfl (fun ls hl => ?_)
                          refine lv_iload hx hb dX10_goes_415 (lv_at hl 9 rfl) ?_
                          refine lv_iload hx hb dX10_goes_417 (lv_at hl 1 rfl) ?_
                          refine m_calli (m_runS (As := [.int (v352)]) (rest := [.int (x6_13)]) hx hb hml hown hts hE hM hS hA ce_X10_stepY tb_1663 (V_X10_stepY l D A ad ns I346 L347 G (v352) hI) rfl rfl ⟨Nat.le_of_ble_eq_true rfl, Nat.le_of_ble_eq_true rfl⟩  rfl hl.1 rfl (Nat.le_of_ble_eq_true rfl) dX10_goes_419 ⟨Nat.le_of_ble_eq_true rfl, Nat.le_of_ble_eq_true rfl⟩) hS (fun r355 u H locs hw hM hS => ?_)
                          obtain ⟨rfl, xr355⟩ := hw
                          have hM : Mem D A ad ns I346 L347 G H := hM
                          refine lv_iadd hx hb dX10_goes_422 ?_
                          refine lv_topi (fun v356 ev356 => ?_)
                          have tv356 := a_add ev356 (by omega) (by omega)
                          refine lv_istore (lv' := [(6, .int (v356)), (5, .int (v354)), (7, .int (v352)), (8, .int (v332)), (14, .int (v331)), (10, .int (v321)), (13, .int (1000)), (12, .int (Ia13 (1006) ((v18).toNatClampNeg))), (11, .int (r252)), (9, .int (v18)), (0, .ref (ad (1000))), (1, .int (a0)), (2, .int (a1)), (3, .int (a2)), (4, .int (a3))]) hx hb dX10_goes_423 hl (by decide) rfl (fun ls hl => ?_)
                          refine lv_goto (tgt := 13) hx hb dX10_goes_425 (by decide) ?_
                          have tr100055 : (I346 (1000) 55).toInt = (v4 : Int32).toInt := congrArg Int32.toInt (((((hkI346.get (1000) 55 rfl)).trans (show (u2 I268 (1000) 53 (v323)) (1000) 55 = I268 (1000) 55 from by simp [u2_v])).trans (hkI268.get (1000) 55 rfl)).trans (show (u2 (u2 (u2 Ia13 (1000) 55 (v4)) (1000) 53 (v26)) (1049) ((v18).toNatClampNeg) (v28)) (1000) 55 = v4 from by simp [u2_v]))
                          exact ih13 (v332) (v352) (v356) (v354) I346 L347 _ _ ls hI hK (by omega) (by omega) hM hS (lv_sub hl [3, 2, 0, 1, 10, 11, 12, 13, 14] rfl)
                · have hc253 := c253
                  have q253 := q_ne hc253
                  refine lv_iload hx hb dX10_goes_183 (lv_at hl 1 rfl) ?_
                  refine lv_i2l hx hb dX10_goes_185 rfl ?_
                  refine lv_topl (fun v357 ev357 => ?_)
                  have tv357 := q_i2l ev357
                  refine lv_aload_n hx hb dX10_goes_186 rfl (lv_at hl 7 rfl) ?_
                  refine m_getr (1000) 21 (1021) hx hb hts hown hE oc10 hM hJ.1 rfl (by decide) rfl (hJ.2 21 (by decide)).2 (by decide) tb_1198 dX10_goes_187 ?_
                  refine lv_iload hx hb dX10_goes_190 (lv_at hl 0 rfl) ?_
                  refine m_iald (1021) hx hb hE hM (hJ.2 21 (by decide)).1 rfl (vp_in_iff.mpr (by omega)) dX10_goes_192 ?_
                  have z358 : (u2 (u2 (u2 Ia13 (1000) 55 (v4)) (1000) 53 (v26)) (1049) ((v18).toNatClampNeg) (v28)) (1021) (r252).toNatClampNeg = Ia13 (1021) ((r252).toNatClampNeg) := (show (u2 (u2 (u2 Ia13 (1000) 55 (v4)) (1000) 53 (v26)) (1049) ((v18).toNatClampNeg) (v28)) (1021) ((r252).toNatClampNeg) = Ia13 (1021) ((r252).toNatClampNeg) from by simp [u2_v])
                  rw [z358]
                  refine lv_i2l hx hb dX10_goes_193 rfl ?_
                  refine lv_topl (fun v359 ev359 => ?_)
                  have tv359 := q_i2l ev359
                  refine lv_lmul hx hb dX10_goes_194 ?_
                  refine lv_topl (fun v360 ev360 => ?_)
                  refine lv_ldc2 (v := (1000)) hx hb hown (hts _ tb_1428) dX10_goes_195 ?_
                  refine lv_ldiv hx hb dX10_goes_198 (by decide) ?_
                  refine lv_topl (fun v361 ev361 => ?_)
                  refine lv_l2i hx hb dX10_goes_199 rfl ?_
                  refine lv_topi (fun v362 ev362 => ?_)
                  refine lv_istore (lv' := [(10, .int (v362)), (11, .int (r252)), (8, .int (v28)), (9, .int (v18)), (7, .int (x7_13)), (6, .int (x6_13)), (5, .int (x5_13)), (0, .ref (ad (1000))), (1, .int (a0)), (2, .int (a1)), (3, .int (a2)), (4, .int (a3))]) hx hb dX10_goes_200 hl (by decide) rfl (fun ls hl => ?_)
                  refine lv_aload_n hx hb dX10_goes_202 rfl (lv_at hl 7 rfl) ?_
                  refine m_getr (1000) 50 (1050) hx hb hts hown hE oc10 hM hJ.1 rfl (by decide) rfl (hJ.2 50 (by decide)).2 (by decide) tb_1227 dX10_goes_203 ?_
                  refine lv_iload hx hb dX10_goes_206 (lv_at hl 1 rfl) ?_
                  refine lv_dup2_11 hx hb dX10_goes_208 rfl rfl ?_
                  refine m_iald (1050) hx hb hE hM (hJ.2 50 (by decide)).1 rfl (vp_in_iff.mpr (by omega)) dX10_goes_209 ?_
                  have z363 : (u2 (u2 (u2 Ia13 (1000) 55 (v4)) (1000) 53 (v26)) (1049) ((v18).toNatClampNeg) (v28)) (1050) (r252).toNatClampNeg = Ia13 (1050) ((r252).toNatClampNeg) := (show (u2 (u2 (u2 Ia13 (1000) 55 (v4)) (1000) 53 (v26)) (1049) ((v18).toNatClampNeg) (v28)) (1050) ((r252).toNatClampNeg) = Ia13 (1050) ((r252).toNatClampNeg) from by simp [u2_v])
                  rw [z363]
                  refine lv_iload hx hb dX10_goes_210 (lv_at hl 0 rfl) ?_
                  refine lv_iadd hx hb dX10_goes_212 ?_
                  refine lv_topi (fun v364 ev364 => ?_)
                  refine m_iast (1050) hx hb hE hM hS (hJ.2 50 (by decide)).1 rfl (vp_in_iff.mpr (by omega)) dX10_goes_213 (fun H locs I365 eI365 hM hS => ?_)
                  subst eI365
                  have hI := hI.putF (n := 1050) (k := ((r252).toNatClampNeg)) (v := v364) rfl
                  have hK := hK.put (n := 1050) (k := ((r252).toNatClampNeg)) (v := v364) (by first | rfl | simp [inR])
                  refine lv_iload hx hb dX10_goes_214 (lv_at hl 2 rfl) ?_
                  refine lv_iload hx hb dX10_goes_216 (lv_at hl 0 rfl) ?_
                  refine lv_isub hx hb dX10_goes_218 ?_
                  refine lv_topi (fun v366 ev366 => ?_)
                  refine lv_istore (lv' := [(8, .int (v366)), (10, .int (v362)), (11, .int (r252)), (9, .int (v18)), (7, .int (x7_13)), (6, .int (x6_13)), (5, .int (x5_13)), (0, .ref (ad (1000))), (1, .int (a0)), (2, .int (a1)), (3, .int (a2)), (4, .int (a3))]) hx hb dX10_goes_219 hl (by decide) rfl (fun ls hl => ?_)
                  refine lv_aload_n hx hb dX10_goes_221 rfl (lv_at hl 7 rfl) ?_
                  refine m_getr (1000) 6 (1006) hx hb hts hown hE oc10 hM hJ.1 rfl (by decide) rfl (hJ.2 6 (by decide)).2 (by decide) tb_1183 dX10_goes_222 ?_
                  refine lv_iload hx hb dX10_goes_225 (lv_at hl 3 rfl) ?_
                  refine m_iald (1006) hx hb hE hM (hJ.2 6 (by decide)).1 rfl (vp_in_iff.mpr (by omega)) dX10_goes_227 ?_
                  have g367 := hI.get (1006) ((v18).toNatClampNeg) (lo := -1) (hi := 23) rfl
                  have z368 : (u2 (u2 (u2 (u2 Ia13 (1000) 55 (v4)) (1000) 53 (v26)) (1049) ((v18).toNatClampNeg) (v28)) (1050) ((r252).toNatClampNeg) (v364)) (1006) (v18).toNatClampNeg = Ia13 (1006) ((v18).toNatClampNeg) := (show (u2 (u2 (u2 (u2 Ia13 (1000) 55 (v4)) (1000) 53 (v26)) (1049) ((v18).toNatClampNeg) (v28)) (1050) ((r252).toNatClampNeg) (v364)) (1006) ((v18).toNatClampNeg) = Ia13 (1006) ((v18).toNatClampNeg) from by simp [u2_v])
                  rw [z368] at g367 ⊢
                  refine lv_istore (lv' := [(12, .int (Ia13 (1006) ((v18).toNatClampNeg))), (8, .int (v366)), (10, .int (v362)), (11, .int (r252)), (9, .int (v18)), (7, .int (x7_13)), (6, .int (x6_13)), (5, .int (x5_13)), (0, .ref (ad (1000))), (1, .int (a0)), (2, .int (a1)), (3, .int (a2)), (4, .int (a3))]) hx hb dX10_goes_228 hl (by decide) rfl (fun ls hl => ?_)
                  refine lv_iload hx hb dX10_goes_230 (lv_at hl 0 rfl) ?_
                  refine lv_iconst (v := (-1)) hx hb dX10_goes_232 (by decide) ?_
                  refine lv_icmp_eq (tgt := 405) hx hb dX10_goes_233 (by decide) (fun c369 => ?_) (fun c369 => ?_)
                  · have hc369 := c369
                    have q369 := q_eq hc369
                    refine lv_iload hx hb dX10_goes_405 (lv_at hl 7 rfl) ?_
                    refine lv_iload hx hb dX10_goes_407 (lv_at hl 5 rfl) ?_
                    refine m_calli (m_runS (As := [.int (x7_13)]) (rest := [.int (x5_13)]) hx hb hml hown hts hE hM hS hA ce_X10_stepX tb_1660 (V_X10_stepX l D A ad ns (u2 (u2 (u2 (u2 Ia13 (1000) 55 (v4)) (1000) 53 (v26)) (1049) ((v18).toNatClampNeg) (v28)) (1050) ((r252).toNatClampNeg) (v364)) La13 G (x7_13) hI) rfl rfl ⟨Nat.le_of_ble_eq_true rfl, Nat.le_of_ble_eq_true rfl⟩  rfl hl.1 rfl (Nat.le_of_ble_eq_true rfl) dX10_goes_409 ⟨Nat.le_of_ble_eq_true rfl, Nat.le_of_ble_eq_true rfl⟩) hS (fun r370 u H locs hw hM hS => ?_)
                    obtain ⟨rfl, xr370⟩ := hw
                    have hM : Mem D A ad ns (u2 (u2 (u2 (u2 Ia13 (1000) 55 (v4)) (1000) 53 (v26)) (1049) ((v18).toNatClampNeg) (v28)) (1050) ((r252).toNatClampNeg) (v364)) La13 G H := hM
                    refine lv_iadd hx hb dX10_goes_412 ?_
                    refine lv_topi (fun v371 ev371 => ?_)
                    have tv371 := a_add ev371 (by omega) (by omega)
                    refine lv_istore (lv' := [(5, .int (v371)), (12, .int (Ia13 (1006) ((v18).toNatClampNeg))), (8, .int (v366)), (10, .int (v362)), (11, .int (r252)), (9, .int (v18)), (7, .int (x7_13)), (6, .int (x6_13)), (0, .ref (ad (1000))), (1, .int (a0)), (2, .int (a1)), (3, .int (a2)), (4, .int (a3))]) hx hb dX10_goes_413 hl (by decide) rfl (fun ls hl => ?_)
                    refine lv_iload hx hb dX10_goes_415 (lv_at hl 7 rfl) ?_
                    refine lv_iload hx hb dX10_goes_417 (lv_at hl 6 rfl) ?_
                    refine m_calli (m_runS (As := [.int (x7_13)]) (rest := [.int (x6_13)]) hx hb hml hown hts hE hM hS hA ce_X10_stepY tb_1663 (V_X10_stepY l D A ad ns (u2 (u2 (u2 (u2 Ia13 (1000) 55 (v4)) (1000) 53 (v26)) (1049) ((v18).toNatClampNeg) (v28)) (1050) ((r252).toNatClampNeg) (v364)) La13 G (x7_13) hI) rfl rfl ⟨Nat.le_of_ble_eq_true rfl, Nat.le_of_ble_eq_true rfl⟩  rfl hl.1 rfl (Nat.le_of_ble_eq_true rfl) dX10_goes_419 ⟨Nat.le_of_ble_eq_true rfl, Nat.le_of_ble_eq_true rfl⟩) hS (fun r372 u H locs hw hM hS => ?_)
                    obtain ⟨rfl, xr372⟩ := hw
                    have hM : Mem D A ad ns (u2 (u2 (u2 (u2 Ia13 (1000) 55 (v4)) (1000) 53 (v26)) (1049) ((v18).toNatClampNeg) (v28)) (1050) ((r252).toNatClampNeg) (v364)) La13 G H := hM
                    refine lv_iadd hx hb dX10_goes_422 ?_
                    refine lv_topi (fun v373 ev373 => ?_)
                    have tv373 := a_add ev373 (by omega) (by omega)
                    refine lv_istore (lv' := [(6, .int (v373)), (5, .int (v371)), (12, .int (Ia13 (1006) ((v18).toNatClampNeg))), (8, .int (v366)), (10, .int (v362)), (11, .int (r252)), (9, .int (v18)), (7, .int (x7_13)), (0, .ref (ad (1000))), (1, .int (a0)), (2, .int (a1)), (3, .int (a2)), (4, .int (a3))]) hx hb dX10_goes_423 hl (by decide) rfl (fun ls hl => ?_)
                    refine lv_goto (tgt := 13) hx hb dX10_goes_425 (by decide) ?_
                    have tr100055 : ((u2 (u2 (u2 (u2 Ia13 (1000) 55 (v4)) (1000) 53 (v26)) (1049) ((v18).toNatClampNeg) (v28)) (1050) ((r252).toNatClampNeg) (v364)) (1000) 55).toInt = (v4 : Int32).toInt := congrArg Int32.toInt ((show (u2 (u2 (u2 (u2 Ia13 (1000) 55 (v4)) (1000) 53 (v26)) (1049) ((v18).toNatClampNeg) (v28)) (1050) ((r252).toNatClampNeg) (v364)) (1000) 55 = v4 from by simp [u2_v]))
                    have tr100052 : ((u2 (u2 (u2 (u2 Ia13 (1000) 55 (v4)) (1000) 53 (v26)) (1049) ((v18).toNatClampNeg) (v28)) (1050) ((r252).toNatClampNeg) (v364)) (1000) 52).toInt = (Ia13 (1000) 52 : Int32).toInt := congrArg Int32.toInt ((show (u2 (u2 (u2 (u2 Ia13 (1000) 55 (v4)) (1000) 53 (v26)) (1049) ((v18).toNatClampNeg) (v28)) (1050) ((r252).toNatClampNeg) (v364)) (1000) 52 = Ia13 (1000) 52 from by simp [u2_v]))
                    exact ih13 (v366) (x7_13) (v373) (v371) (u2 (u2 (u2 (u2 Ia13 (1000) 55 (v4)) (1000) 53 (v26)) (1049) ((v18).toNatClampNeg) (v28)) (1050) ((r252).toNatClampNeg) (v364)) La13 _ _ ls hI hK (by omega) (by omega) hM hS (lv_sub hl [3, 7, 0, 1, 8, 9, 10, 11, 12] rfl)
                  · have hc369 := c369
                    have q369 := q_ne hc369
                    refine lv_aload_n hx hb dX10_goes_236 rfl (lv_at hl 8 rfl) ?_
                    refine m_getr (1000) 15 (1015) hx hb hts hown hE oc10 hM hJ.1 rfl (by decide) rfl (hJ.2 15 (by decide)).2 (by decide) tb_1192 dX10_goes_237 ?_
                    refine lv_iload hx hb dX10_goes_240 (lv_at hl 0 rfl) ?_
                    refine m_iald (1015) hx hb hE hM (hJ.2 15 (by decide)).1 rfl (vp_in_iff.mpr (by omega)) dX10_goes_242 ?_
                    have z374 : (u2 (u2 (u2 (u2 Ia13 (1000) 55 (v4)) (1000) 53 (v26)) (1049) ((v18).toNatClampNeg) (v28)) (1050) ((r252).toNatClampNeg) (v364)) (1015) (Ia13 (1006) ((v18).toNatClampNeg)).toNatClampNeg = Ia13 (1015) ((Ia13 (1006) ((v18).toNatClampNeg)).toNatClampNeg) := (show (u2 (u2 (u2 (u2 Ia13 (1000) 55 (v4)) (1000) 53 (v26)) (1049) ((v18).toNatClampNeg) (v28)) (1050) ((r252).toNatClampNeg) (v364)) (1015) ((Ia13 (1006) ((v18).toNatClampNeg)).toNatClampNeg) = Ia13 (1015) ((Ia13 (1006) ((v18).toNatClampNeg)).toNatClampNeg) from by simp [u2_v])
                    rw [z374]
                    refine lv_if_ne (tgt := 405) hx hb dX10_goes_243 (by decide) (fun c375 => ?_) (fun c375 => ?_)
                    · have hc375 := c375
                      have q375 := q_ne hc375
                      refine lv_iload hx hb dX10_goes_405 (lv_at hl 7 rfl) ?_
                      refine lv_iload hx hb dX10_goes_407 (lv_at hl 5 rfl) ?_
                      refine m_calli (m_runS (As := [.int (x7_13)]) (rest := [.int (x5_13)]) hx hb hml hown hts hE hM hS hA ce_X10_stepX tb_1660 (V_X10_stepX l D A ad ns (u2 (u2 (u2 (u2 Ia13 (1000) 55 (v4)) (1000) 53 (v26)) (1049) ((v18).toNatClampNeg) (v28)) (1050) ((r252).toNatClampNeg) (v364)) La13 G (x7_13) hI) rfl rfl ⟨Nat.le_of_ble_eq_true rfl, Nat.le_of_ble_eq_true rfl⟩  rfl hl.1 rfl (Nat.le_of_ble_eq_true rfl) dX10_goes_409 ⟨Nat.le_of_ble_eq_true rfl, Nat.le_of_ble_eq_true rfl⟩) hS (fun r376 u H locs hw hM hS => ?_)
                      obtain ⟨rfl, xr376⟩ := hw
                      have hM : Mem D A ad ns (u2 (u2 (u2 (u2 Ia13 (1000) 55 (v4)) (1000) 53 (v26)) (1049) ((v18).toNatClampNeg) (v28)) (1050) ((r252).toNatClampNeg) (v364)) La13 G H := hM
                      refine lv_iadd hx hb dX10_goes_412 ?_
                      refine lv_topi (fun v377 ev377 => ?_)
                      have tv377 := a_add ev377 (by omega) (by omega)
                      refine lv_istore (lv' := [(5, .int (v377)), (12, .int (Ia13 (1006) ((v18).toNatClampNeg))), (8, .int (v366)), (10, .int (v362)), (11, .int (r252)), (9, .int (v18)), (7, .int (x7_13)), (6, .int (x6_13)), (0, .ref (ad (1000))), (1, .int (a0)), (2, .int (a1)), (3, .int (a2)), (4, .int (a3))]) hx hb dX10_goes_413 hl (by decide) rfl (fun ls hl => ?_)
                      refine lv_iload hx hb dX10_goes_415 (lv_at hl 7 rfl) ?_
                      refine lv_iload hx hb dX10_goes_417 (lv_at hl 6 rfl) ?_
                      refine m_calli (m_runS (As := [.int (x7_13)]) (rest := [.int (x6_13)]) hx hb hml hown hts hE hM hS hA ce_X10_stepY tb_1663 (V_X10_stepY l D A ad ns (u2 (u2 (u2 (u2 Ia13 (1000) 55 (v4)) (1000) 53 (v26)) (1049) ((v18).toNatClampNeg) (v28)) (1050) ((r252).toNatClampNeg) (v364)) La13 G (x7_13) hI) rfl rfl ⟨Nat.le_of_ble_eq_true rfl, Nat.le_of_ble_eq_true rfl⟩  rfl hl.1 rfl (Nat.le_of_ble_eq_true rfl) dX10_goes_419 ⟨Nat.le_of_ble_eq_true rfl, Nat.le_of_ble_eq_true rfl⟩) hS (fun r378 u H locs hw hM hS => ?_)
                      obtain ⟨rfl, xr378⟩ := hw
                      have hM : Mem D A ad ns (u2 (u2 (u2 (u2 Ia13 (1000) 55 (v4)) (1000) 53 (v26)) (1049) ((v18).toNatClampNeg) (v28)) (1050) ((r252).toNatClampNeg) (v364)) La13 G H := hM
                      refine lv_iadd hx hb dX10_goes_422 ?_
                      refine lv_topi (fun v379 ev379 => ?_)
                      have tv379 := a_add ev379 (by omega) (by omega)
                      refine lv_istore (lv' := [(6, .int (v379)), (5, .int (v377)), (12, .int (Ia13 (1006) ((v18).toNatClampNeg))), (8, .int (v366)), (10, .int (v362)), (11, .int (r252)), (9, .int (v18)), (7, .int (x7_13)), (0, .ref (ad (1000))), (1, .int (a0)), (2, .int (a1)), (3, .int (a2)), (4, .int (a3))]) hx hb dX10_goes_423 hl (by decide) rfl (fun ls hl => ?_)
                      refine lv_goto (tgt := 13) hx hb dX10_goes_425 (by decide) ?_
                      have tr100055 : ((u2 (u2 (u2 (u2 Ia13 (1000) 55 (v4)) (1000) 53 (v26)) (1049) ((v18).toNatClampNeg) (v28)) (1050) ((r252).toNatClampNeg) (v364)) (1000) 55).toInt = (v4 : Int32).toInt := congrArg Int32.toInt ((show (u2 (u2 (u2 (u2 Ia13 (1000) 55 (v4)) (1000) 53 (v26)) (1049) ((v18).toNatClampNeg) (v28)) (1050) ((r252).toNatClampNeg) (v364)) (1000) 55 = v4 from by simp [u2_v]))
                      have tr100052 : ((u2 (u2 (u2 (u2 Ia13 (1000) 55 (v4)) (1000) 53 (v26)) (1049) ((v18).toNatClampNeg) (v28)) (1050) ((r252).toNatClampNeg) (v364)) (1000) 52).toInt = (Ia13 (1000) 52 : Int32).toInt := congrArg Int32.toInt ((show (u2 (u2 (u2 (u2 Ia13 (1000) 55 (v4)) (1000) 53 (v26)) (1049) ((v18).toNatClampNeg) (v28)) (1050) ((r252).toNatClampNeg) (v364)) (1000) 52 = Ia13 (1000) 52 from by simp [u2_v]))
                      exact ih13 (v366) (x7_13) (v379) (v377) (u2 (u2 (u2 (u2 Ia13 (1000) 55 (v4)) (1000) 53 (v26)) (1049) ((v18).toNatClampNeg) (v28)) (1050) ((r252).toNatClampNeg) (v364)) La13 _ _ ls hI hK (by omega) (by omega) hM hS (lv_sub hl [3, 7, 0, 1, 8, 9, 10, 11, 12] rfl)
                    · have hc375 := c375
                      have q375 := q_eq hc375
                      refine lv_aload_n hx hb dX10_goes_246 rfl (lv_at hl 8 rfl) ?_
                      refine lv_iload hx hb dX10_goes_247 (lv_at hl 0 rfl) ?_
                      refine lv_iload hx hb dX10_goes_249 (lv_at hl 1 rfl) ?_
                      refine m_calli (m_runV (1000) (As := [.int (Ia13 (1006) ((v18).toNatClampNeg)), .int (v366)]) (rest := []) hx hb hml hown hts hE hM hS hA ce_X10_told tb_1656 (V_X10_told l D A ad ns (u2 (u2 (u2 (u2 Ia13 (1000) 55 (v4)) (1000) 53 (v26)) (1049) ((v18).toNatClampNeg) (v28)) (1050) ((r252).toNatClampNeg) (v364)) La13 G (Ia13 (1006) ((v18).toNatClampNeg)) (v366) hJ hI (by first | omega | decide)) rfl rfl ⟨Nat.le_of_ble_eq_true rfl, Nat.le_of_ble_eq_true rfl⟩ hJ.1 rfl rfl (by decide) rfl hl.1 rfl (Nat.le_of_ble_eq_true rfl) dX10_goes_251 ⟨Nat.le_of_ble_eq_true rfl, Nat.le_of_ble_eq_true rfl⟩) hS (fun r380 u H locs hw hM hS => ?_)
                      obtain ⟨I381, L382, rfl, hI, hkI381⟩ := hw
                      have hM : Mem D A ad ns I381 L382 G H := hM
                      have hK := hK.trans hkI381 rfl
                      refine lv_istore (lv' := [(8, .int (r380)), (12, .int (Ia13 (1006) ((v18).toNatClampNeg))), (10, .int (v362)), (11, .int (r252)), (9, .int (v18)), (7, .int (x7_13)), (6, .int (x6_13)), (5, .int (x5_13)), (0, .ref (ad (1000))), (1, .int (a0)), (2, .int (a1)), (3, .int (a2)), (4, .int (a3))]) hx hb dX10_goes_254 hl (by decide) rfl (fun ls hl => ?_)
                      refine lv_aload_n hx hb dX10_goes_256 rfl (lv_at hl 8 rfl) ?_
                      refine m_getr (1000) 10 (1010) hx hb hts hown hE oc10 hM hJ.1 rfl (by decide) rfl (hJ.2 10 (by decide)).2 (by decide) tb_1187 dX10_goes_257 ?_
                      refine lv_iload hx hb dX10_goes_260 (lv_at hl 1 rfl) ?_
                      refine m_iald (1010) hx hb hE hM (hJ.2 10 (by decide)).1 rfl (vp_in_iff.mpr (by omega)) dX10_goes_262 ?_
                      have z383 : I381 (1010) (Ia13 (1006) ((v18).toNatClampNeg)).toNatClampNeg = Ia13 (1010) ((Ia13 (1006) ((v18).toNatClampNeg)).toNatClampNeg) := ((congrFun (hkI381.getA (1010) rfl) ((Ia13 (1006) ((v18).toNatClampNeg)).toNatClampNeg))).trans (show (u2 (u2 (u2 (u2 Ia13 (1000) 55 (v4)) (1000) 53 (v26)) (1049) ((v18).toNatClampNeg) (v28)) (1050) ((r252).toNatClampNeg) (v364)) (1010) ((Ia13 (1006) ((v18).toNatClampNeg)).toNatClampNeg) = Ia13 (1010) ((Ia13 (1006) ((v18).toNatClampNeg)).toNatClampNeg) from by simp [u2_v])
                      rw [z383]
                      refine lv_aload_n hx hb dX10_goes_263 rfl (lv_at hl 8 rfl) ?_
                      refine m_getr (1000) 14 (1014) hx hb hts hown hE oc10 hM hJ.1 rfl (by decide) rfl (hJ.2 14 (by decide)).2 (by decide) tb_1191 dX10_goes_264 ?_
                      refine lv_iload hx hb dX10_goes_267 (lv_at hl 1 rfl) ?_
                      refine m_iald (1014) hx hb hE hM (hJ.2 14 (by decide)).1 rfl (vp_in_iff.mpr (by omega)) dX10_goes_269 ?_
                      have z384 : I381 (1014) (Ia13 (1006) ((v18).toNatClampNeg)).toNatClampNeg = Ia13 (1014) ((Ia13 (1006) ((v18).toNatClampNeg)).toNatClampNeg) := ((congrFun (hkI381.getA (1014) rfl) ((Ia13 (1006) ((v18).toNatClampNeg)).toNatClampNeg))).trans (show (u2 (u2 (u2 (u2 Ia13 (1000) 55 (v4)) (1000) 53 (v26)) (1049) ((v18).toNatClampNeg) (v28)) (1050) ((r252).toNatClampNeg) (v364)) (1014) ((Ia13 (1006) ((v18).toNatClampNeg)).toNatClampNeg) = Ia13 (1014) ((Ia13 (1006) ((v18).toNatClampNeg)).toNatClampNeg) from by simp [u2_v])
                      rw [z384]
                      refine lv_iadd hx hb dX10_goes_270 ?_
                      refine lv_topi (fun v385 ev385 => ?_)
                      refine lv_sipush (v := (1000)) hx hb dX10_goes_271 (by decide) ?_
                      refine lv_icmp_le (tgt := 283) hx hb dX10_goes_274 (by decide) (fun c386 => ?_) (fun c386 => ?_)
                      · have hc386 := c386
                        have q386 := q_le hc386
                        refine lv_aload_n hx hb dX10_goes_283 rfl (lv_at hl 8 rfl) ?_
                        refine m_getr (1000) 10 (1010) hx hb hts hown hE oc10 hM hJ.1 rfl (by decide) rfl (hJ.2 10 (by decide)).2 (by decide) tb_1187 dX10_goes_284 ?_
                        refine lv_iload hx hb dX10_goes_287 (lv_at hl 1 rfl) ?_
                        refine m_iald (1010) hx hb hE hM (hJ.2 10 (by decide)).1 rfl (vp_in_iff.mpr (by omega)) dX10_goes_289 ?_
                        have z387 : I381 (1010) (Ia13 (1006) ((v18).toNatClampNeg)).toNatClampNeg = Ia13 (1010) ((Ia13 (1006) ((v18).toNatClampNeg)).toNatClampNeg) := ((congrFun (hkI381.getA (1010) rfl) ((Ia13 (1006) ((v18).toNatClampNeg)).toNatClampNeg))).trans (show (u2 (u2 (u2 (u2 Ia13 (1000) 55 (v4)) (1000) 53 (v26)) (1049) ((v18).toNatClampNeg) (v28)) (1050) ((r252).toNatClampNeg) (v364)) (1010) ((Ia13 (1006) ((v18).toNatClampNeg)).toNatClampNeg) = Ia13 (1010) ((Ia13 (1006) ((v18).toNatClampNeg)).toNatClampNeg) from by simp [u2_v])
                        rw [z387]
                        refine lv_aload_n hx hb dX10_goes_290 rfl (lv_at hl 8 rfl) ?_
                        refine m_getr (1000) 14 (1014) hx hb hts hown hE oc10 hM hJ.1 rfl (by decide) rfl (hJ.2 14 (by decide)).2 (by decide) tb_1191 dX10_goes_291 ?_
                        refine lv_iload hx hb dX10_goes_294 (lv_at hl 1 rfl) ?_
                        refine m_iald (1014) hx hb hE hM (hJ.2 14 (by decide)).1 rfl (vp_in_iff.mpr (by omega)) dX10_goes_296 ?_
                        have z388 : I381 (1014) (Ia13 (1006) ((v18).toNatClampNeg)).toNatClampNeg = Ia13 (1014) ((Ia13 (1006) ((v18).toNatClampNeg)).toNatClampNeg) := ((congrFun (hkI381.getA (1014) rfl) ((Ia13 (1006) ((v18).toNatClampNeg)).toNatClampNeg))).trans (show (u2 (u2 (u2 (u2 Ia13 (1000) 55 (v4)) (1000) 53 (v26)) (1049) ((v18).toNatClampNeg) (v28)) (1050) ((r252).toNatClampNeg) (v364)) (1014) ((Ia13 (1006) ((v18).toNatClampNeg)).toNatClampNeg) = Ia13 (1014) ((Ia13 (1006) ((v18).toNatClampNeg)).toNatClampNeg) from by simp [u2_v])
                        rw [z388]
                        refine lv_iadd hx hb dX10_goes_297 ?_
                        refine lv_topi (fun v389 ev389 => ?_)
                        refine lv_istore (lv' := [(13, .int (v389)), (8, .int (r380)), (12, .int (Ia13 (1006) ((v18).toNatClampNeg))), (10, .int (v362)), (11, .int (r252)), (9, .int (v18)), (7, .int (x7_13)), (6, .int (x6_13)), (5, .int (x5_13)), (0, .ref (ad (1000))), (1, .int (a0)), (2, .int (a1)), (3, .int (a2)), (4, .int (a3))]) hx hb dX10_goes_298 hl (by decide) rfl (fun ls hl => ?_)
                        refine lv_iload hx hb dX10_goes_300 (lv_at hl 1 rfl) ?_
                        refine lv_i2l hx hb dX10_goes_302 rfl ?_
                        refine lv_topl (fun v390 ev390 => ?_)
                        have tv390 := q_i2l ev390
                        refine lv_iload hx hb dX10_goes_303 (lv_at hl 0 rfl) ?_
                        refine lv_i2l hx hb dX10_goes_305 rfl ?_
                        refine lv_topl (fun v391 ev391 => ?_)
                        have tv391 := q_i2l ev391
                        refine lv_lmul hx hb dX10_goes_306 ?_
                        refine lv_topl (fun v392 ev392 => ?_)
                        refine lv_ldc2 (v := (1000)) hx hb hown (hts _ tb_1428) dX10_goes_307 ?_
                        refine lv_ldiv hx hb dX10_goes_310 (by decide) ?_
                        refine lv_topl (fun v393 ev393 => ?_)
                        refine lv_l2i hx hb dX10_goes_311 rfl ?_
                        refine lv_topi (fun v394 ev394 => ?_)
                        refine lv_istore (lv' := [(10, .int (v394)), (13, .int (v389)), (8, .int (r380)), (12, .int (Ia13 (1006) ((v18).toNatClampNeg))), (11, .int (r252)), (9, .int (v18)), (7, .int (x7_13)), (6, .int (x6_13)), (5, .int (x5_13)), (0, .ref (ad (1000))), (1, .int (a0)), (2, .int (a1)), (3, .int (a2)), (4, .int (a3))]) hx hb dX10_goes_312 hl (by decide) rfl (fun ls hl => ?_)
                        refine lv_aload_n hx hb dX10_goes_314 rfl (lv_at hl 9 rfl) ?_
                        refine lv_dup hx hb dX10_goes_315 rfl ?_
                        refine m_geti (1000) 53 hx hb hts hown hE oc10 hM hJ.1 rfl (by decide) rfl tb_1230 dX10_goes_316 ?_
                        have z395 : I381 (1000) 53 = v26 := ((hkI381.get (1000) 53 rfl)).trans (show (u2 (u2 (u2 (u2 Ia13 (1000) 55 (v4)) (1000) 53 (v26)) (1049) ((v18).toNatClampNeg) (v28)) (1050) ((r252).toNatClampNeg) (v364)) (1000) 53 = v26 from by simp [u2_v])
                        rw [z395]
                        refine lv_iload hx hb dX10_goes_319 (lv_at hl 0 rfl) ?_
                        refine lv_iadd hx hb dX10_goes_321 ?_
                        refine lv_topi (fun v396 ev396 => ?_)
                        refine m_puti (1000) 53 hx hb hts hown hE oc10 hM hS hJ.1 rfl (by decide) rfl rfl rfl rfl tb_1230 dX10_goes_322 (fun H locs I397 eI397 hM hS => ?_)
                        subst eI397
                        have hI := hI.putF (n := 1000) (k := 53) (v := v396) rfl
                        have hK := hK.put (n := 1000) (k := 53) (v := v396) (by first | rfl | simp [inR])
                        refine lv_iload hx hb dX10_goes_325 (lv_at hl 2 rfl) ?_
                        refine lv_iload hx hb dX10_goes_327 (lv_at hl 0 rfl) ?_
                        refine lv_isub hx hb dX10_goes_329 ?_
                        refine lv_topi (fun v398 ev398 => ?_)
                        refine lv_istore (lv' := [(8, .int (v398)), (10, .int (v394)), (13, .int (v389)), (12, .int (Ia13 (1006) ((v18).toNatClampNeg))), (11, .int (r252)), (9, .int (v18)), (7, .int (x7_13)), (6, .int (x6_13)), (5, .int (x5_13)), (0, .ref (ad (1000))), (1, .int (a0)), (2, .int (a1)), (3, .int (a2)), (4, .int (a3))]) hx hb dX10_goes_330 hl (by decide) rfl (fun ls hl => ?_)
                        refine lv_iload hx hb dX10_goes_332 (lv_at hl 0 rfl) ?_
                        refine lv_i2l hx hb dX10_goes_334 rfl ?_
                        refine lv_topl (fun v399 ev399 => ?_)
                        have tv399 := q_i2l ev399
                        refine lv_aload_n hx hb dX10_goes_335 rfl (lv_at hl 9 rfl) ?_
                        refine m_getr (1000) 11 (1011) hx hb hts hown hE oc10 hM hJ.1 rfl (by decide) rfl (hJ.2 11 (by decide)).2 (by decide) tb_1188 dX10_goes_336 ?_
                        refine lv_iload hx hb dX10_goes_339 (lv_at hl 3 rfl) ?_
                        refine m_iald (1011) hx hb hE hM (hJ.2 11 (by decide)).1 rfl (vp_in_iff.mpr (by omega)) dX10_goes_341 ?_
                        have z400 : (u2 I381 (1000) 53 (v396)) (1011) (Ia13 (1006) ((v18).toNatClampNeg)).toNatClampNeg = Ia13 (1011) ((Ia13 (1006) ((v18).toNatClampNeg)).toNatClampNeg) := (((show (u2 I381 (1000) 53 (v396)) (1011) ((Ia13 (1006) ((v18).toNatClampNeg)).toNatClampNeg) = I381 (1011) ((Ia13 (1006) ((v18).toNatClampNeg)).toNatClampNeg) from by simp [u2_v])).trans (congrFun (hkI381.getA (1011) rfl) ((Ia13 (1006) ((v18).toNatClampNeg)).toNatClampNeg))).trans (show (u2 (u2 (u2 (u2 Ia13 (1000) 55 (v4)) (1000) 53 (v26)) (1049) ((v18).toNatClampNeg) (v28)) (1050) ((r252).toNatClampNeg) (v364)) (1011) ((Ia13 (1006) ((v18).toNatClampNeg)).toNatClampNeg) = Ia13 (1011) ((Ia13 (1006) ((v18).toNatClampNeg)).toNatClampNeg) from by simp [u2_v])
                        rw [z400]
                        refine lv_i2l hx hb dX10_goes_342 rfl ?_
                        refine lv_topl (fun v401 ev401 => ?_)
                        have tv401 := q_i2l ev401
                        refine lv_lmul hx hb dX10_goes_343 ?_
                        refine lv_topl (fun v402 ev402 => ?_)
                        refine lv_ldc2 (v := (1000)) hx hb hown (hts _ tb_1428) dX10_goes_344 ?_
                        refine lv_ldiv hx hb dX10_goes_347 (by decide) ?_
                        refine lv_topl (fun v403 ev403 => ?_)
                        refine lv_l2i hx hb dX10_goes_348 rfl ?_
                        refine lv_topi (fun v404 ev404 => ?_)
                        refine lv_istore (lv' := [(14, .int (v404)), (8, .int (v398)), (10, .int (v394)), (13, .int (v389)), (12, .int (Ia13 (1006) ((v18).toNatClampNeg))), (11, .int (r252)), (9, .int (v18)), (7, .int (x7_13)), (6, .int (x6_13)), (5, .int (x5_13)), (0, .ref (ad (1000))), (1, .int (a0)), (2, .int (a1)), (3, .int (a2)), (4, .int (a3))]) hx hb dX10_goes_349 hl (by decide) rfl (fun ls hl => ?_)
                        refine lv_iload hx hb dX10_goes_351 (lv_at hl 1 rfl) ?_
                        refine lv_iload hx hb dX10_goes_353 (lv_at hl 0 rfl) ?_
                        refine lv_isub hx hb dX10_goes_355 ?_
                        refine lv_topi (fun v405 ev405 => ?_)
                        refine lv_istore (lv' := [(8, .int (v405)), (14, .int (v404)), (10, .int (v394)), (13, .int (v389)), (12, .int (Ia13 (1006) ((v18).toNatClampNeg))), (11, .int (r252)), (9, .int (v18)), (7, .int (x7_13)), (6, .int (x6_13)), (5, .int (x5_13)), (0, .ref (ad (1000))), (1, .int (a0)), (2, .int (a1)), (3, .int (a2)), (4, .int (a3))]) hx hb dX10_goes_356 hl (by decide) rfl (fun ls hl => ?_)
                        refine lv_iload hx hb dX10_goes_358 (lv_at hl 1 rfl) ?_
                        refine lv_if_le (tgt := 387) hx hb dX10_goes_360 (by decide) (fun c406 => ?_) (fun c406 => ?_)
                        · have hc406 := c406
                          have q406 := q_le hc406
                          refine lv_aload_n hx hb dX10_goes_387 rfl (lv_at hl 10 rfl) ?_
                          refine m_getr (1000) 9 (1009) hx hb hts hown hE oc10 hM hJ.1 rfl (by decide) rfl (hJ.2 9 (by decide)).2 (by decide) tb_1186 dX10_goes_388 ?_
                          refine lv_iload hx hb dX10_goes_391 (lv_at hl 4 rfl) ?_
                          refine m_iald (1009) hx hb hE hM (hJ.2 9 (by decide)).1 rfl (vp_in_iff.mpr (by omega)) dX10_goes_393 ?_
                          have z407 : (u2 I381 (1000) 53 (v396)) (1009) (Ia13 (1006) ((v18).toNatClampNeg)).toNatClampNeg = Ia13 (1009) ((Ia13 (1006) ((v18).toNatClampNeg)).toNatClampNeg) := (((show (u2 I381 (1000) 53 (v396)) (1009) ((Ia13 (1006) ((v18).toNatClampNeg)).toNatClampNeg) = I381 (1009) ((Ia13 (1006) ((v18).toNatClampNeg)).toNatClampNeg) from by simp [u2_v])).trans (congrFun (hkI381.getA (1009) rfl) ((Ia13 (1006) ((v18).toNatClampNeg)).toNatClampNeg))).trans (show (u2 (u2 (u2 (u2 Ia13 (1000) 55 (v4)) (1000) 53 (v26)) (1049) ((v18).toNatClampNeg) (v28)) (1050) ((r252).toNatClampNeg) (v364)) (1009) ((Ia13 (1006) ((v18).toNatClampNeg)).toNatClampNeg) = Ia13 (1009) ((Ia13 (1006) ((v18).toNatClampNeg)).toNatClampNeg) from by simp [u2_v])
                          rw [z407]
                          refine lv_iload hx hb dX10_goes_394 (lv_at hl 7 rfl) ?_
                          refine lv_isub hx hb dX10_goes_396 ?_
                          refine lv_topi (fun v408 ev408 => ?_)
                          refine lv_bipush (v := (8)) hx hb dX10_goes_397 (by decide) ?_
                          refine lv_iadd hx hb dX10_goes_399 ?_
                          refine lv_topi (fun v409 ev409 => ?_)
                          refine lv_bipush (v := (8)) hx hb dX10_goes_400 (by decide) ?_
                          refine lv_irem hx hb dX10_goes_402 (by decide) ?_
                          refine lv_topi (fun v410 ev410 => ?_)
                          refine lv_istore (lv' := [(7, .int (v410)), (8, .int (v405)), (14, .int (v404)), (10, .int (v394)), (13, .int (v389)), (12, .int (Ia13 (1006) ((v18).toNatClampNeg))), (11, .int (r252)), (9, .int (v18)), (6, .int (x6_13)), (5, .int (x5_13)), (0, .ref (ad (1000))), (1, .int (a0)), (2, .int (a1)), (3, .int (a2)), (4, .int (a3))]) hx hb dX10_goes_403 hl (by decide) rfl (fun ls hl => ?_)
                          refine lv_iload hx hb dX10_goes_405 (lv_at hl 9 rfl) ?_
                          refine lv_iload hx hb dX10_goes_407 (lv_at hl 0 rfl) ?_
                          refine m_calli (m_runS (As := [.int (v410)]) (rest := [.int (x5_13)]) hx hb hml hown hts hE hM hS hA ce_X10_stepX tb_1660 (V_X10_stepX l D A ad ns (u2 I381 (1000) 53 (v396)) L382 G (v410) hI) rfl rfl ⟨Nat.le_of_ble_eq_true rfl, Nat.le_of_ble_eq_true rfl⟩  rfl hl.1 rfl (Nat.le_of_ble_eq_true rfl) dX10_goes_409 ⟨Nat.le_of_ble_eq_true rfl, Nat.le_of_ble_eq_true rfl⟩) hS (fun r411 u H locs hw hM hS => ?_)
                          obtain ⟨rfl, xr411⟩ := hw
                          have hM : Mem D A ad ns (u2 I381 (1000) 53 (v396)) L382 G H := hM
                          refine lv_iadd hx hb dX10_goes_412 ?_
                          refine lv_topi (fun v412 ev412 => ?_)
                          have tv412 := a_add ev412 (by omega) (by omega)
                          refine lv_istore (lv' := [(5, .int (v412)), (7, .int (v410)), (8, .int (v405)), (14, .int (v404)), (10, .int (v394)), (13, .int (v389)), (12, .int (Ia13 (1006) ((v18).toNatClampNeg))), (11, .int (r252)), (9, .int (v18)), (6, .int (x6_13)), (0, .ref (ad (1000))), (1, .int (a0)), (2, .int (a1)), (3, .int (a2)), (4, .int (a3))]) hx hb dX10_goes_413 hl (by decide) rfl (fun ls hl => ?_)
                          refine lv_iload hx hb dX10_goes_415 (lv_at hl 9 rfl) ?_
                          refine lv_iload hx hb dX10_goes_417 (lv_at hl 1 rfl) ?_
                          refine m_calli (m_runS (As := [.int (v410)]) (rest := [.int (x6_13)]) hx hb hml hown hts hE hM hS hA ce_X10_stepY tb_1663 (V_X10_stepY l D A ad ns (u2 I381 (1000) 53 (v396)) L382 G (v410) hI) rfl rfl ⟨Nat.le_of_ble_eq_true rfl, Nat.le_of_ble_eq_true rfl⟩  rfl hl.1 rfl (Nat.le_of_ble_eq_true rfl) dX10_goes_419 ⟨Nat.le_of_ble_eq_true rfl, Nat.le_of_ble_eq_true rfl⟩) hS (fun r413 u H locs hw hM hS => ?_)
                          obtain ⟨rfl, xr413⟩ := hw
                          have hM : Mem D A ad ns (u2 I381 (1000) 53 (v396)) L382 G H := hM
                          refine lv_iadd hx hb dX10_goes_422 ?_
                          refine lv_topi (fun v414 ev414 => ?_)
                          have tv414 := a_add ev414 (by omega) (by omega)
                          refine lv_istore (lv' := [(6, .int (v414)), (5, .int (v412)), (7, .int (v410)), (8, .int (v405)), (14, .int (v404)), (10, .int (v394)), (13, .int (v389)), (12, .int (Ia13 (1006) ((v18).toNatClampNeg))), (11, .int (r252)), (9, .int (v18)), (0, .ref (ad (1000))), (1, .int (a0)), (2, .int (a1)), (3, .int (a2)), (4, .int (a3))]) hx hb dX10_goes_423 hl (by decide) rfl (fun ls hl => ?_)
                          refine lv_goto (tgt := 13) hx hb dX10_goes_425 (by decide) ?_
                          have tr100055 : ((u2 I381 (1000) 53 (v396)) (1000) 55).toInt = (v4 : Int32).toInt := congrArg Int32.toInt ((((show (u2 I381 (1000) 53 (v396)) (1000) 55 = I381 (1000) 55 from by simp [u2_v])).trans (hkI381.get (1000) 55 rfl)).trans (show (u2 (u2 (u2 (u2 Ia13 (1000) 55 (v4)) (1000) 53 (v26)) (1049) ((v18).toNatClampNeg) (v28)) (1050) ((r252).toNatClampNeg) (v364)) (1000) 55 = v4 from by simp [u2_v]))
                          have tr100052 : ((u2 I381 (1000) 53 (v396)) (1000) 52).toInt = (Ia13 (1000) 52 : Int32).toInt := congrArg Int32.toInt ((((show (u2 I381 (1000) 53 (v396)) (1000) 52 = I381 (1000) 52 from by simp [u2_v])).trans (hkI381.get (1000) 52 rfl)).trans (show (u2 (u2 (u2 (u2 Ia13 (1000) 55 (v4)) (1000) 53 (v26)) (1049) ((v18).toNatClampNeg) (v28)) (1050) ((r252).toNatClampNeg) (v364)) (1000) 52 = Ia13 (1000) 52 from by simp [u2_v]))
                          exact ih13 (v405) (v410) (v414) (v412) (u2 I381 (1000) 53 (v396)) L382 _ _ ls hI hK (by omega) (by omega) hM hS (lv_sub hl [3, 2, 0, 1, 10, 11, 12, 13, 14] rfl)
                        · have hc406 := c406
                          have q406 := q_nle hc406
                          refine lv_aload_n hx hb dX10_goes_363 rfl (lv_at hl 10 rfl) ?_
                          refine lv_iload hx hb dX10_goes_364 (lv_at hl 9 rfl) ?_
                          refine lv_iload hx hb dX10_goes_366 (lv_at hl 7 rfl) ?_
                          refine m_calli (m_runS (As := [.int (x7_13)]) (rest := [.int (x5_13), .ref (ad (1000))]) hx hb hml hown hts hE hM hS hA ce_X10_stepX tb_1660 (V_X10_stepX l D A ad ns (u2 I381 (1000) 53 (v396)) L382 G (x7_13) hI) rfl rfl ⟨Nat.le_of_ble_eq_true rfl, Nat.le_of_ble_eq_true rfl⟩  rfl hl.1 rfl (Nat.le_of_ble_eq_true rfl) dX10_goes_368 ⟨Nat.le_of_ble_eq_true rfl, Nat.le_of_ble_eq_true rfl⟩) hS (fun r415 u H locs hw hM hS => ?_)
                          obtain ⟨rfl, xr415⟩ := hw
                          have hM : Mem D A ad ns (u2 I381 (1000) 53 (v396)) L382 G H := hM
                          refine lv_iadd hx hb dX10_goes_371 ?_
                          refine lv_topi (fun v416 ev416 => ?_)
                          have tv416 := a_add ev416 (by omega) (by omega)
                          refine lv_iload hx hb dX10_goes_372 (lv_at hl 8 rfl) ?_
                          refine lv_iload hx hb dX10_goes_374 (lv_at hl 7 rfl) ?_
                          refine m_calli (m_runS (As := [.int (x7_13)]) (rest := [.int (x6_13), .int (v416), .ref (ad (1000))]) hx hb hml hown hts hE hM hS hA ce_X10_stepY tb_1663 (V_X10_stepY l D A ad ns (u2 I381 (1000) 53 (v396)) L382 G (x7_13) hI) rfl rfl ⟨Nat.le_of_ble_eq_true rfl, Nat.le_of_ble_eq_true rfl⟩  rfl hl.1 rfl (Nat.le_of_ble_eq_true rfl) dX10_goes_376 ⟨Nat.le_of_ble_eq_true rfl, Nat.le_of_ble_eq_true rfl⟩) hS (fun r417 u H locs hw hM hS => ?_)
                          obtain ⟨rfl, xr417⟩ := hw
                          have hM : Mem D A ad ns (u2 I381 (1000) 53 (v396)) L382 G H := hM
                          refine lv_iadd hx hb dX10_goes_379 ?_
                          refine lv_topi (fun v418 ev418 => ?_)
                          have tv418 := a_add ev418 (by omega) (by omega)
                          refine lv_iload hx hb dX10_goes_380 (lv_at hl 7 rfl) ?_
                          refine lv_iload hx hb dX10_goes_382 (lv_at hl 1 rfl) ?_
                          refine m_callv (m_runV (1000) (As := [.int (v416), .int (v418), .int (x7_13), .int (v404)]) (rest := []) hx hb hml hown hts hE hM hS hA ce_X10_waitsFor tb_1666 (V_X10_waitsFor l D A ad ns (u2 I381 (1000) 53 (v396)) L382 G (v416) (v418) (x7_13) (v404) hJ hI) rfl rfl ⟨Nat.le_of_ble_eq_true rfl, Nat.le_of_ble_eq_true rfl⟩ hJ.1 rfl rfl (by decide) rfl hl.1 rfl (Nat.le_of_ble_eq_true rfl) dX10_goes_384 ⟨Nat.le_of_ble_eq_true rfl, Nat.le_of_ble_eq_true rfl⟩) hS (fun u H locs hw hM hS => ?_)
                          obtain ⟨I419, L420, rfl, hI, hkI419, xI419⟩ := hw
                          have hM : Mem D A ad ns I419 L420 G H := hM
                          have hK := hK.trans hkI419 rfl
                          have pw421 : ((u2 I381 (1000) 53 (v396)) (1000) 52).toInt = (Ia13 (1000) 52 : Int32).toInt := congrArg Int32.toInt ((((show (u2 I381 (1000) 53 (v396)) (1000) 52 = I381 (1000) 52 from by simp [u2_v])).trans (hkI381.get (1000) 52 rfl)).trans (show (u2 (u2 (u2 (u2 Ia13 (1000) 55 (v4)) (1000) 53 (v26)) (1049) ((v18).toNatClampNeg) (v28)) (1050) ((r252).toNatClampNeg) (v364)) (1000) 52 = Ia13 (1000) 52 from by simp [u2_v]))
                          refine lv_aload_n hx hb dX10_goes_387 rfl (lv_at hl 10 rfl) ?_
                          refine m_getr (1000) 9 (1009) hx hb hts hown hE oc10 hM hJ.1 rfl (by decide) rfl (hJ.2 9 (by decide)).2 (by decide) tb_1186 dX10_goes_388 ?_
                          refine lv_iload hx hb dX10_goes_391 (lv_at hl 4 rfl) ?_
                          refine m_iald (1009) hx hb hE hM (hJ.2 9 (by decide)).1 rfl (vp_in_iff.mpr (by omega)) dX10_goes_393 ?_
                          have z422 : I419 (1009) (Ia13 (1006) ((v18).toNatClampNeg)).toNatClampNeg = Ia13 (1009) ((Ia13 (1006) ((v18).toNatClampNeg)).toNatClampNeg) := ((((congrFun (hkI419.getA (1009) rfl) ((Ia13 (1006) ((v18).toNatClampNeg)).toNatClampNeg))).trans (show (u2 I381 (1000) 53 (v396)) (1009) ((Ia13 (1006) ((v18).toNatClampNeg)).toNatClampNeg) = I381 (1009) ((Ia13 (1006) ((v18).toNatClampNeg)).toNatClampNeg) from by simp [u2_v])).trans (congrFun (hkI381.getA (1009) rfl) ((Ia13 (1006) ((v18).toNatClampNeg)).toNatClampNeg))).trans (show (u2 (u2 (u2 (u2 Ia13 (1000) 55 (v4)) (1000) 53 (v26)) (1049) ((v18).toNatClampNeg) (v28)) (1050) ((r252).toNatClampNeg) (v364)) (1009) ((Ia13 (1006) ((v18).toNatClampNeg)).toNatClampNeg) = Ia13 (1009) ((Ia13 (1006) ((v18).toNatClampNeg)).toNatClampNeg) from by simp [u2_v])
                          rw [z422]
                          refine lv_iload hx hb dX10_goes_394 (lv_at hl 7 rfl) ?_
                          refine lv_isub hx hb dX10_goes_396 ?_
                          refine lv_topi (fun v423 ev423 => ?_)
                          refine lv_bipush (v := (8)) hx hb dX10_goes_397 (by decide) ?_
                          refine lv_iadd hx hb dX10_goes_399 ?_
                          refine lv_topi (fun v424 ev424 => ?_)
                          refine lv_bipush (v := (8)) hx hb dX10_goes_400 (by decide) ?_
                          refine lv_irem hx hb dX10_goes_402 (by decide) ?_
                          refine lv_topi (fun v425 ev425 => ?_)
                          refine lv_istore (lv' := [(7, .int (v425)), (8, .int (v405)), (14, .int (v404)), (10, .int (v394)), (13, .int (v389)), (12, .int (Ia13 (1006) ((v18).toNatClampNeg))), (11, .int (r252)), (9, .int (v18)), (6, .int (x6_13)), (5, .int (x5_13)), (0, .ref (ad (1000))), (1, .int (a0)), (2, .int (a1)), (3, .int (a2)), (4, .int (a3))]) hx hb dX10_goes_403 hl (by decide) rfl (fun ls hl => ?_)
                          refine lv_iload hx hb dX10_goes_405 (lv_at hl 9 rfl) ?_
                          refine lv_iload hx hb dX10_goes_407 (lv_at hl 0 rfl) ?_
                          refine m_calli (m_runS (As := [.int (v425)]) (rest := [.int (x5_13)]) hx hb hml hown hts hE hM hS hA ce_X10_stepX tb_1660 (V_X10_stepX l D A ad ns I419 L420 G (v425) hI) rfl rfl ⟨Nat.le_of_ble_eq_true rfl, Nat.le_of_ble_eq_true rfl⟩  rfl hl.1 rfl (Nat.le_of_ble_eq_true rfl) dX10_goes_409 ⟨Nat.le_of_ble_eq_true rfl, Nat.le_of_ble_eq_true rfl⟩) hS (fun r426 u H locs hw hM hS => ?_)
                          obtain ⟨rfl, xr426⟩ := hw
                          have hM : Mem D A ad ns I419 L420 G H := hM
                          refine lv_iadd hx hb dX10_goes_412 ?_
                          refine lv_topi (fun v427 ev427 => ?_)
                          have tv427 := a_add ev427 (by omega) (by omega)
                          refine lv_istore (lv' := [(5, .int (v427)), (7, .int (v425)), (8, .int (v405)), (14, .int (v404)), (10, .int (v394)), (13, .int (v389)), (12, .int (Ia13 (1006) ((v18).toNatClampNeg))), (11, .int (r252)), (9, .int (v18)), (6, .int (x6_13)), (0, .ref (ad (1000))), (1, .int (a0)), (2, .int (a1)), (3, .int (a2)), (4, .int (a3))]) hx hb dX10_goes_413 hl (by decide) rfl (fun ls hl => ?_)
                          refine lv_iload hx hb dX10_goes_415 (lv_at hl 9 rfl) ?_
                          refine lv_iload hx hb dX10_goes_417 (lv_at hl 1 rfl) ?_
                          refine m_calli (m_runS (As := [.int (v425)]) (rest := [.int (x6_13)]) hx hb hml hown hts hE hM hS hA ce_X10_stepY tb_1663 (V_X10_stepY l D A ad ns I419 L420 G (v425) hI) rfl rfl ⟨Nat.le_of_ble_eq_true rfl, Nat.le_of_ble_eq_true rfl⟩  rfl hl.1 rfl (Nat.le_of_ble_eq_true rfl) dX10_goes_419 ⟨Nat.le_of_ble_eq_true rfl, Nat.le_of_ble_eq_true rfl⟩) hS (fun r428 u H locs hw hM hS => ?_)
                          obtain ⟨rfl, xr428⟩ := hw
                          have hM : Mem D A ad ns I419 L420 G H := hM
                          refine lv_iadd hx hb dX10_goes_422 ?_
                          refine lv_topi (fun v429 ev429 => ?_)
                          have tv429 := a_add ev429 (by omega) (by omega)
                          refine lv_istore (lv' := [(6, .int (v429)), (5, .int (v427)), (7, .int (v425)), (8, .int (v405)), (14, .int (v404)), (10, .int (v394)), (13, .int (v389)), (12, .int (Ia13 (1006) ((v18).toNatClampNeg))), (11, .int (r252)), (9, .int (v18)), (0, .ref (ad (1000))), (1, .int (a0)), (2, .int (a1)), (3, .int (a2)), (4, .int (a3))]) hx hb dX10_goes_423 hl (by decide) rfl (fun ls hl => ?_)
                          refine lv_goto (tgt := 13) hx hb dX10_goes_425 (by decide) ?_
                          have tr100055 : (I419 (1000) 55).toInt = (v4 : Int32).toInt := congrArg Int32.toInt (((((hkI419.get (1000) 55 rfl)).trans (show (u2 I381 (1000) 53 (v396)) (1000) 55 = I381 (1000) 55 from by simp [u2_v])).trans (hkI381.get (1000) 55 rfl)).trans (show (u2 (u2 (u2 (u2 Ia13 (1000) 55 (v4)) (1000) 53 (v26)) (1049) ((v18).toNatClampNeg) (v28)) (1050) ((r252).toNatClampNeg) (v364)) (1000) 55 = v4 from by simp [u2_v]))
                          exact ih13 (v405) (v425) (v429) (v427) I419 L420 _ _ ls hI hK (by omega) (by omega) hM hS (lv_sub hl [3, 2, 0, 1, 10, 11, 12, 13, 14] rfl)
                      · have hc386 := c386
                        have q386 := q_nle hc386
                        refine lv_sipush (v := (1000)) hx hb dX10_goes_277 (by decide) ?_
                        refine lv_goto (tgt := 298) hx hb dX10_goes_280 (by decide) ?_
                        refine lv_istore (lv' := [(13, .int (1000)), (8, .int (r380)), (12, .int (Ia13 (1006) ((v18).toNatClampNeg))), (10, .int (v362)), (11, .int (r252)), (9, .int (v18)), (7, .int (x7_13)), (6, .int (x6_13)), (5, .int (x5_13)), (0, .ref (ad (1000))), (1, .int (a0)), (2, .int (a1)), (3, .int (a2)), (4, .int (a3))]) hx hb dX10_goes_298 hl (by decide) rfl (fun ls hl => ?_)
                        refine lv_iload hx hb dX10_goes_300 (lv_at hl 1 rfl) ?_
                        refine lv_i2l hx hb dX10_goes_302 rfl ?_
                        refine lv_topl (fun v430 ev430 => ?_)
                        have tv430 := q_i2l ev430
                        refine lv_iload hx hb dX10_goes_303 (lv_at hl 0 rfl) ?_
                        refine lv_i2l hx hb dX10_goes_305 rfl ?_
                        refine lv_topl (fun v431 ev431 => ?_)
                        have tv431 := q_i2l ev431
                        refine lv_lmul hx hb dX10_goes_306 ?_
                        refine lv_topl (fun v432 ev432 => ?_)
                        refine lv_ldc2 (v := (1000)) hx hb hown (hts _ tb_1428) dX10_goes_307 ?_
                        refine lv_ldiv hx hb dX10_goes_310 (by decide) ?_
                        refine lv_topl (fun v433 ev433 => ?_)
                        refine lv_l2i hx hb dX10_goes_311 rfl ?_
                        refine lv_topi (fun v434 ev434 => ?_)
                        refine lv_istore (lv' := [(10, .int (v434)), (13, .int (1000)), (8, .int (r380)), (12, .int (Ia13 (1006) ((v18).toNatClampNeg))), (11, .int (r252)), (9, .int (v18)), (7, .int (x7_13)), (6, .int (x6_13)), (5, .int (x5_13)), (0, .ref (ad (1000))), (1, .int (a0)), (2, .int (a1)), (3, .int (a2)), (4, .int (a3))]) hx hb dX10_goes_312 hl (by decide) rfl (fun ls hl => ?_)
                        refine lv_aload_n hx hb dX10_goes_314 rfl (lv_at hl 9 rfl) ?_
                        refine lv_dup hx hb dX10_goes_315 rfl ?_
                        refine m_geti (1000) 53 hx hb hts hown hE oc10 hM hJ.1 rfl (by decide) rfl tb_1230 dX10_goes_316 ?_
                        have z435 : I381 (1000) 53 = v26 := ((hkI381.get (1000) 53 rfl)).trans (show (u2 (u2 (u2 (u2 Ia13 (1000) 55 (v4)) (1000) 53 (v26)) (1049) ((v18).toNatClampNeg) (v28)) (1050) ((r252).toNatClampNeg) (v364)) (1000) 53 = v26 from by simp [u2_v])
                        rw [z435]
                        refine lv_iload hx hb dX10_goes_319 (lv_at hl 0 rfl) ?_
                        refine lv_iadd hx hb dX10_goes_321 ?_
                        refine lv_topi (fun v436 ev436 => ?_)
                        refine m_puti (1000) 53 hx hb hts hown hE oc10 hM hS hJ.1 rfl (by decide) rfl rfl rfl rfl tb_1230 dX10_goes_322 (fun H locs I437 eI437 hM hS => ?_)
                        subst eI437
                        have hI := hI.putF (n := 1000) (k := 53) (v := v436) rfl
                        have hK := hK.put (n := 1000) (k := 53) (v := v436) (by first | rfl | simp [inR])
                        refine lv_iload hx hb dX10_goes_325 (lv_at hl 2 rfl) ?_
                        refine lv_iload hx hb dX10_goes_327 (lv_at hl 0 rfl) ?_
                        refine lv_isub hx hb dX10_goes_329 ?_
                        refine lv_topi (fun v438 ev438 => ?_)
                        refine lv_istore (lv' := [(8, .int (v438)), (10, .int (v434)), (13, .int (1000)), (12, .int (Ia13 (1006) ((v18).toNatClampNeg))), (11, .int (r252)), (9, .int (v18)), (7, .int (x7_13)), (6, .int (x6_13)), (5, .int (x5_13)), (0, .ref (ad (1000))), (1, .int (a0)), (2, .int (a1)), (3, .int (a2)), (4, .int (a3))]) hx hb dX10_goes_330 hl (by decide) rfl (fun ls hl => ?_)
                        refine lv_iload hx hb dX10_goes_332 (lv_at hl 0 rfl) ?_
                        refine lv_i2l hx hb dX10_goes_334 rfl ?_
                        refine lv_topl (fun v439 ev439 => ?_)
                        have tv439 := q_i2l ev439
                        refine lv_aload_n hx hb dX10_goes_335 rfl (lv_at hl 9 rfl) ?_
                        refine m_getr (1000) 11 (1011) hx hb hts hown hE oc10 hM hJ.1 rfl (by decide) rfl (hJ.2 11 (by decide)).2 (by decide) tb_1188 dX10_goes_336 ?_
                        refine lv_iload hx hb dX10_goes_339 (lv_at hl 3 rfl) ?_
                        refine m_iald (1011) hx hb hE hM (hJ.2 11 (by decide)).1 rfl (vp_in_iff.mpr (by omega)) dX10_goes_341 ?_
                        have z440 : (u2 I381 (1000) 53 (v436)) (1011) (Ia13 (1006) ((v18).toNatClampNeg)).toNatClampNeg = Ia13 (1011) ((Ia13 (1006) ((v18).toNatClampNeg)).toNatClampNeg) := (((show (u2 I381 (1000) 53 (v436)) (1011) ((Ia13 (1006) ((v18).toNatClampNeg)).toNatClampNeg) = I381 (1011) ((Ia13 (1006) ((v18).toNatClampNeg)).toNatClampNeg) from by simp [u2_v])).trans (congrFun (hkI381.getA (1011) rfl) ((Ia13 (1006) ((v18).toNatClampNeg)).toNatClampNeg))).trans (show (u2 (u2 (u2 (u2 Ia13 (1000) 55 (v4)) (1000) 53 (v26)) (1049) ((v18).toNatClampNeg) (v28)) (1050) ((r252).toNatClampNeg) (v364)) (1011) ((Ia13 (1006) ((v18).toNatClampNeg)).toNatClampNeg) = Ia13 (1011) ((Ia13 (1006) ((v18).toNatClampNeg)).toNatClampNeg) from by simp [u2_v])
                        rw [z440]
                        refine lv_i2l hx hb dX10_goes_342 rfl ?_
                        refine lv_topl (fun v441 ev441 => ?_)
                        have tv441 := q_i2l ev441
                        refine lv_lmul hx hb dX10_goes_343 ?_
                        refine lv_topl (fun v442 ev442 => ?_)
                        refine lv_ldc2 (v := (1000)) hx hb hown (hts _ tb_1428) dX10_goes_344 ?_
                        refine lv_ldiv hx hb dX10_goes_347 (by decide) ?_
                        refine lv_topl (fun v443 ev443 => ?_)
                        refine lv_l2i hx hb dX10_goes_348 rfl ?_
                        refine lv_topi (fun v444 ev444 => ?_)
                        refine lv_istore (lv' := [(14, .int (v444)), (8, .int (v438)), (10, .int (v434)), (13, .int (1000)), (12, .int (Ia13 (1006) ((v18).toNatClampNeg))), (11, .int (r252)), (9, .int (v18)), (7, .int (x7_13)), (6, .int (x6_13)), (5, .int (x5_13)), (0, .ref (ad (1000))), (1, .int (a0)), (2, .int (a1)), (3, .int (a2)), (4, .int (a3))]) hx hb dX10_goes_349 hl (by decide) rfl (fun ls hl => ?_)
                        refine lv_iload hx hb dX10_goes_351 (lv_at hl 1 rfl) ?_
                        refine lv_iload hx hb dX10_goes_353 (lv_at hl 0 rfl) ?_
                        refine lv_isub hx hb dX10_goes_355 ?_
                        refine lv_topi (fun v445 ev445 => ?_)
                        refine lv_istore (lv' := [(8, .int (v445)), (14, .int (v444)), (10, .int (v434)), (13, .int (1000)), (12, .int (Ia13 (1006) ((v18).toNatClampNeg))), (11, .int (r252)), (9, .int (v18)), (7, .int (x7_13)), (6, .int (x6_13)), (5, .int (x5_13)), (0, .ref (ad (1000))), (1, .int (a0)), (2, .int (a1)), (3, .int (a2)), (4, .int (a3))]) hx hb dX10_goes_356 hl (by decide) rfl (fun ls hl => ?_)
                        refine lv_iload hx hb dX10_goes_358 (lv_at hl 1 rfl) ?_
                        refine lv_if_le (tgt := 387) hx hb dX10_goes_360 (by decide) (fun c446 => ?_) (fun c446 => ?_)
                        · have hc446 := c446
                          have q446 := q_le hc446
                          refine lv_aload_n hx hb dX10_goes_387 rfl (lv_at hl 10 rfl) ?_
                          refine m_getr (1000) 9 (1009) hx hb hts hown hE oc10 hM hJ.1 rfl (by decide) rfl (hJ.2 9 (by decide)).2 (by decide) tb_1186 dX10_goes_388 ?_
                          refine lv_iload hx hb dX10_goes_391 (lv_at hl 4 rfl) ?_
                          refine m_iald (1009) hx hb hE hM (hJ.2 9 (by decide)).1 rfl (vp_in_iff.mpr (by omega)) dX10_goes_393 ?_
                          have z447 : (u2 I381 (1000) 53 (v436)) (1009) (Ia13 (1006) ((v18).toNatClampNeg)).toNatClampNeg = Ia13 (1009) ((Ia13 (1006) ((v18).toNatClampNeg)).toNatClampNeg) := (((show (u2 I381 (1000) 53 (v436)) (1009) ((Ia13 (1006) ((v18).toNatClampNeg)).toNatClampNeg) = I381 (1009) ((Ia13 (1006) ((v18).toNatClampNeg)).toNatClampNeg) from by simp [u2_v])).trans (congrFun (hkI381.getA (1009) rfl) ((Ia13 (1006) ((v18).toNatClampNeg)).toNatClampNeg))).trans (show (u2 (u2 (u2 (u2 Ia13 (1000) 55 (v4)) (1000) 53 (v26)) (1049) ((v18).toNatClampNeg) (v28)) (1050) ((r252).toNatClampNeg) (v364)) (1009) ((Ia13 (1006) ((v18).toNatClampNeg)).toNatClampNeg) = Ia13 (1009) ((Ia13 (1006) ((v18).toNatClampNeg)).toNatClampNeg) from by simp [u2_v])
                          rw [z447]
                          refine lv_iload hx hb dX10_goes_394 (lv_at hl 7 rfl) ?_
                          refine lv_isub hx hb dX10_goes_396 ?_
                          refine lv_topi (fun v448 ev448 => ?_)
                          refine lv_bipush (v := (8)) hx hb dX10_goes_397 (by decide) ?_
                          refine lv_iadd hx hb dX10_goes_399 ?_
                          refine lv_topi (fun v449 ev449 => ?_)
                          refine lv_bipush (v := (8)) hx hb dX10_goes_400 (by decide) ?_
                          refine lv_irem hx hb dX10_goes_402 (by decide) ?_
                          refine lv_topi (fun v450 ev450 => ?_)
                          refine lv_istore (lv' := [(7, .int (v450)), (8, .int (v445)), (14, .int (v444)), (10, .int (v434)), (13, .int (1000)), (12, .int (Ia13 (1006) ((v18).toNatClampNeg))), (11, .int (r252)), (9, .int (v18)), (6, .int (x6_13)), (5, .int (x5_13)), (0, .ref (ad (1000))), (1, .int (a0)), (2, .int (a1)), (3, .int (a2)), (4, .int (a3))]) hx hb dX10_goes_403 hl (by decide) rfl (fun ls hl => ?_)
                          refine lv_iload hx hb dX10_goes_405 (lv_at hl 9 rfl) ?_
                          refine lv_iload hx hb dX10_goes_407 (lv_at hl 0 rfl) ?_
                          refine m_calli (m_runS (As := [.int (v450)]) (rest := [.int (x5_13)]) hx hb hml hown hts hE hM hS hA ce_X10_stepX tb_1660 (V_X10_stepX l D A ad ns (u2 I381 (1000) 53 (v436)) L382 G (v450) hI) rfl rfl ⟨Nat.le_of_ble_eq_true rfl, Nat.le_of_ble_eq_true rfl⟩  rfl hl.1 rfl (Nat.le_of_ble_eq_true rfl) dX10_goes_409 ⟨Nat.le_of_ble_eq_true rfl, Nat.le_of_ble_eq_true rfl⟩) hS (fun r451 u H locs hw hM hS => ?_)
                          obtain ⟨rfl, xr451⟩ := hw
                          have hM : Mem D A ad ns (u2 I381 (1000) 53 (v436)) L382 G H := hM
                          refine lv_iadd hx hb dX10_goes_412 ?_
                          refine lv_topi (fun v452 ev452 => ?_)
                          have tv452 := a_add ev452 (by omega) (by omega)
                          refine lv_istore (lv' := [(5, .int (v452)), (7, .int (v450)), (8, .int (v445)), (14, .int (v444)), (10, .int (v434)), (13, .int (1000)), (12, .int (Ia13 (1006) ((v18).toNatClampNeg))), (11, .int (r252)), (9, .int (v18)), (6, .int (x6_13)), (0, .ref (ad (1000))), (1, .int (a0)), (2, .int (a1)), (3, .int (a2)), (4, .int (a3))]) hx hb dX10_goes_413 hl (by decide) rfl (fun ls hl => ?_)
                          refine lv_iload hx hb dX10_goes_415 (lv_at hl 9 rfl) ?_
                          refine lv_iload hx hb dX10_goes_417 (lv_at hl 1 rfl) ?_
                          refine m_calli (m_runS (As := [.int (v450)]) (rest := [.int (x6_13)]) hx hb hml hown hts hE hM hS hA ce_X10_stepY tb_1663 (V_X10_stepY l D A ad ns (u2 I381 (1000) 53 (v436)) L382 G (v450) hI) rfl rfl ⟨Nat.le_of_ble_eq_true rfl, Nat.le_of_ble_eq_true rfl⟩  rfl hl.1 rfl (Nat.le_of_ble_eq_true rfl) dX10_goes_419 ⟨Nat.le_of_ble_eq_true rfl, Nat.le_of_ble_eq_true rfl⟩) hS (fun r453 u H locs hw hM hS => ?_)
                          obtain ⟨rfl, xr453⟩ := hw
                          have hM : Mem D A ad ns (u2 I381 (1000) 53 (v436)) L382 G H := hM
                          refine lv_iadd hx hb dX10_goes_422 ?_
                          refine lv_topi (fun v454 ev454 => ?_)
                          have tv454 := a_add ev454 (by omega) (by omega)
                          refine lv_istore (lv' := [(6, .int (v454)), (5, .int (v452)), (7, .int (v450)), (8, .int (v445)), (14, .int (v444)), (10, .int (v434)), (13, .int (1000)), (12, .int (Ia13 (1006) ((v18).toNatClampNeg))), (11, .int (r252)), (9, .int (v18)), (0, .ref (ad (1000))), (1, .int (a0)), (2, .int (a1)), (3, .int (a2)), (4, .int (a3))]) hx hb dX10_goes_423 hl (by decide) rfl (fun ls hl => ?_)
                          refine lv_goto (tgt := 13) hx hb dX10_goes_425 (by decide) ?_
                          have tr100055 : ((u2 I381 (1000) 53 (v436)) (1000) 55).toInt = (v4 : Int32).toInt := congrArg Int32.toInt ((((show (u2 I381 (1000) 53 (v436)) (1000) 55 = I381 (1000) 55 from by simp [u2_v])).trans (hkI381.get (1000) 55 rfl)).trans (show (u2 (u2 (u2 (u2 Ia13 (1000) 55 (v4)) (1000) 53 (v26)) (1049) ((v18).toNatClampNeg) (v28)) (1050) ((r252).toNatClampNeg) (v364)) (1000) 55 = v4 from by simp [u2_v]))
                          have tr100052 : ((u2 I381 (1000) 53 (v436)) (1000) 52).toInt = (Ia13 (1000) 52 : Int32).toInt := congrArg Int32.toInt ((((show (u2 I381 (1000) 53 (v436)) (1000) 52 = I381 (1000) 52 from by simp [u2_v])).trans (hkI381.get (1000) 52 rfl)).trans (show (u2 (u2 (u2 (u2 Ia13 (1000) 55 (v4)) (1000) 53 (v26)) (1049) ((v18).toNatClampNeg) (v28)) (1050) ((r252).toNatClampNeg) (v364)) (1000) 52 = Ia13 (1000) 52 from by simp [u2_v]))
                          exact ih13 (v445) (v450) (v454) (v452) (u2 I381 (1000) 53 (v436)) L382 _ _ ls hI hK (by omega) (by omega) hM hS (lv_sub hl [3, 2, 0, 1, 10, 11, 12, 13, 14] rfl)
                        · have hc446 := c446
                          have q446 := q_nle hc446
                          refine lv_aload_n hx hb dX10_goes_363 rfl (lv_at hl 10 rfl) ?_
                          refine lv_iload hx hb dX10_goes_364 (lv_at hl 9 rfl) ?_
                          refine lv_iload hx hb dX10_goes_366 (lv_at hl 7 rfl) ?_
                          refine m_calli (m_runS (As := [.int (x7_13)]) (rest := [.int (x5_13), .ref (ad (1000))]) hx hb hml hown hts hE hM hS hA ce_X10_stepX tb_1660 (V_X10_stepX l D A ad ns (u2 I381 (1000) 53 (v436)) L382 G (x7_13) hI) rfl rfl ⟨Nat.le_of_ble_eq_true rfl, Nat.le_of_ble_eq_true rfl⟩  rfl hl.1 rfl (Nat.le_of_ble_eq_true rfl) dX10_goes_368 ⟨Nat.le_of_ble_eq_true rfl, Nat.le_of_ble_eq_true rfl⟩) hS (fun r455 u H locs hw hM hS => ?_)
                          obtain ⟨rfl, xr455⟩ := hw
                          have hM : Mem D A ad ns (u2 I381 (1000) 53 (v436)) L382 G H := hM
                          refine lv_iadd hx hb dX10_goes_371 ?_
                          refine lv_topi (fun v456 ev456 => ?_)
                          have tv456 := a_add ev456 (by omega) (by omega)
                          refine lv_iload hx hb dX10_goes_372 (lv_at hl 8 rfl) ?_
                          refine lv_iload hx hb dX10_goes_374 (lv_at hl 7 rfl) ?_
                          refine m_calli (m_runS (As := [.int (x7_13)]) (rest := [.int (x6_13), .int (v456), .ref (ad (1000))]) hx hb hml hown hts hE hM hS hA ce_X10_stepY tb_1663 (V_X10_stepY l D A ad ns (u2 I381 (1000) 53 (v436)) L382 G (x7_13) hI) rfl rfl ⟨Nat.le_of_ble_eq_true rfl, Nat.le_of_ble_eq_true rfl⟩  rfl hl.1 rfl (Nat.le_of_ble_eq_true rfl) dX10_goes_376 ⟨Nat.le_of_ble_eq_true rfl, Nat.le_of_ble_eq_true rfl⟩) hS (fun r457 u H locs hw hM hS => ?_)
                          obtain ⟨rfl, xr457⟩ := hw
                          have hM : Mem D A ad ns (u2 I381 (1000) 53 (v436)) L382 G H := hM
                          refine lv_iadd hx hb dX10_goes_379 ?_
                          refine lv_topi (fun v458 ev458 => ?_)
                          have tv458 := a_add ev458 (by omega) (by omega)
                          refine lv_iload hx hb dX10_goes_380 (lv_at hl 7 rfl) ?_
                          refine lv_iload hx hb dX10_goes_382 (lv_at hl 1 rfl) ?_
                          refine m_callv (m_runV (1000) (As := [.int (v456), .int (v458), .int (x7_13), .int (v444)]) (rest := []) hx hb hml hown hts hE hM hS hA ce_X10_waitsFor tb_1666 (V_X10_waitsFor l D A ad ns (u2 I381 (1000) 53 (v436)) L382 G (v456) (v458) (x7_13) (v444) hJ hI) rfl rfl ⟨Nat.le_of_ble_eq_true rfl, Nat.le_of_ble_eq_true rfl⟩ hJ.1 rfl rfl (by decide) rfl hl.1 rfl (Nat.le_of_ble_eq_true rfl) dX10_goes_384 ⟨Nat.le_of_ble_eq_true rfl, Nat.le_of_ble_eq_true rfl⟩) hS (fun u H locs hw hM hS => ?_)
                          obtain ⟨I459, L460, rfl, hI, hkI459, xI459⟩ := hw
                          have hM : Mem D A ad ns I459 L460 G H := hM
                          have hK := hK.trans hkI459 rfl
                          have pw461 : ((u2 I381 (1000) 53 (v436)) (1000) 52).toInt = (Ia13 (1000) 52 : Int32).toInt := congrArg Int32.toInt ((((show (u2 I381 (1000) 53 (v436)) (1000) 52 = I381 (1000) 52 from by simp [u2_v])).trans (hkI381.get (1000) 52 rfl)).trans (show (u2 (u2 (u2 (u2 Ia13 (1000) 55 (v4)) (1000) 53 (v26)) (1049) ((v18).toNatClampNeg) (v28)) (1050) ((r252).toNatClampNeg) (v364)) (1000) 52 = Ia13 (1000) 52 from by simp [u2_v]))
                          refine lv_aload_n hx hb dX10_goes_387 rfl (lv_at hl 10 rfl) ?_
                          refine m_getr (1000) 9 (1009) hx hb hts hown hE oc10 hM hJ.1 rfl (by decide) rfl (hJ.2 9 (by decide)).2 (by decide) tb_1186 dX10_goes_388 ?_
                          refine lv_iload hx hb dX10_goes_391 (lv_at hl 4 rfl) ?_
                          refine m_iald (1009) hx hb hE hM (hJ.2 9 (by decide)).1 rfl (vp_in_iff.mpr (by omega)) dX10_goes_393 ?_
                          have z462 : I459 (1009) (Ia13 (1006) ((v18).toNatClampNeg)).toNatClampNeg = Ia13 (1009) ((Ia13 (1006) ((v18).toNatClampNeg)).toNatClampNeg) := ((((congrFun (hkI459.getA (1009) rfl) ((Ia13 (1006) ((v18).toNatClampNeg)).toNatClampNeg))).trans (show (u2 I381 (1000) 53 (v436)) (1009) ((Ia13 (1006) ((v18).toNatClampNeg)).toNatClampNeg) = I381 (1009) ((Ia13 (1006) ((v18).toNatClampNeg)).toNatClampNeg) from by simp [u2_v])).trans (congrFun (hkI381.getA (1009) rfl) ((Ia13 (1006) ((v18).toNatClampNeg)).toNatClampNeg))).trans (show (u2 (u2 (u2 (u2 Ia13 (1000) 55 (v4)) (1000) 53 (v26)) (1049) ((v18).toNatClampNeg) (v28)) (1050) ((r252).toNatClampNeg) (v364)) (1009) ((Ia13 (1006) ((v18).toNatClampNeg)).toNatClampNeg) = Ia13 (1009) ((Ia13 (1006) ((v18).toNatClampNeg)).toNatClampNeg) from by simp [u2_v])
                          rw [z462]
                          refine lv_iload hx hb dX10_goes_394 (lv_at hl 7 rfl) ?_
                          refine lv_isub hx hb dX10_goes_396 ?_
                          refine lv_topi (fun v463 ev463 => ?_)
                          refine lv_bipush (v := (8)) hx hb dX10_goes_397 (by decide) ?_
                          refine lv_iadd hx hb dX10_goes_399 ?_
                          refine lv_topi (fun v464 ev464 => ?_)
                          refine lv_bipush (v := (8)) hx hb dX10_goes_400 (by decide) ?_
                          refine lv_irem hx hb dX10_goes_402 (by decide) ?_
                          refine lv_topi (fun v465 ev465 => ?_)
                          refine lv_istore (lv' := [(7, .int (v465)), (8, .int (v445)), (14, .int (v444)), (10, .int (v434)), (13, .int (1000)), (12, .int (Ia13 (1006) ((v18).toNatClampNeg))), (11, .int (r252)), (9, .int (v18)), (6, .int (x6_13)), (5, .int (x5_13)), (0, .ref (ad (1000))), (1, .int (a0)), (2, .int (a1)), (3, .int (a2)), (4, .int (a3))]) hx hb dX10_goes_403 hl (by decide) rfl (fun ls hl => ?_)
                          refine lv_iload hx hb dX10_goes_405 (lv_at hl 9 rfl) ?_
                          refine lv_iload hx hb dX10_goes_407 (lv_at hl 0 rfl) ?_
                          refine m_calli (m_runS (As := [.int (v465)]) (rest := [.int (x5_13)]) hx hb hml hown hts hE hM hS hA ce_X10_stepX tb_1660 (V_X10_stepX l D A ad ns I459 L460 G (v465) hI) rfl rfl ⟨Nat.le_of_ble_eq_true rfl, Nat.le_of_ble_eq_true rfl⟩  rfl hl.1 rfl (Nat.le_of_ble_eq_true rfl) dX10_goes_409 ⟨Nat.le_of_ble_eq_true rfl, Nat.le_of_ble_eq_true rfl⟩) hS (fun r466 u H locs hw hM hS => ?_)
                          obtain ⟨rfl, xr466⟩ := hw
                          have hM : Mem D A ad ns I459 L460 G H := hM
                          refine lv_iadd hx hb dX10_goes_412 ?_
                          refine lv_topi (fun v467 ev467 => ?_)
                          have tv467 := a_add ev467 (by omega) (by omega)
                          refine lv_istore (lv' := [(5, .int (v467)), (7, .int (v465)), (8, .int (v445)), (14, .int (v444)), (10, .int (v434)), (13, .int (1000)), (12, .int (Ia13 (1006) ((v18).toNatClampNeg))), (11, .int (r252)), (9, .int (v18)), (6, .int (x6_13)), (0, .ref (ad (1000))), (1, .int (a0)), (2, .int (a1)), (3, .int (a2)), (4, .int (a3))]) hx hb dX10_goes_413 hl (by decide) rfl (fun ls hl => ?_)
                          refine lv_iload hx hb dX10_goes_415 (lv_at hl 9 rfl) ?_
                          refine lv_iload hx hb dX10_goes_417 (lv_at hl 1 rfl) ?_
                          refine m_calli (m_runS (As := [.int (v465)]) (rest := [.int (x6_13)]) hx hb hml hown hts hE hM hS hA ce_X10_stepY tb_1663 (V_X10_stepY l D A ad ns I459 L460 G (v465) hI) rfl rfl ⟨Nat.le_of_ble_eq_true rfl, Nat.le_of_ble_eq_true rfl⟩  rfl hl.1 rfl (Nat.le_of_ble_eq_true rfl) dX10_goes_419 ⟨Nat.le_of_ble_eq_true rfl, Nat.le_of_ble_eq_true rfl⟩) hS (fun r468 u H locs hw hM hS => ?_)
                          obtain ⟨rfl, xr468⟩ := hw
                          have hM : Mem D A ad ns I459 L460 G H := hM
                          refine lv_iadd hx hb dX10_goes_422 ?_
                          refine lv_topi (fun v469 ev469 => ?_)
                          have tv469 := a_add ev469 (by omega) (by omega)
                          refine lv_istore (lv' := [(6, .int (v469)), (5, .int (v467)), (7, .int (v465)), (8, .int (v445)), (14, .int (v444)), (10, .int (v434)), (13, .int (1000)), (12, .int (Ia13 (1006) ((v18).toNatClampNeg))), (11, .int (r252)), (9, .int (v18)), (0, .ref (ad (1000))), (1, .int (a0)), (2, .int (a1)), (3, .int (a2)), (4, .int (a3))]) hx hb dX10_goes_423 hl (by decide) rfl (fun ls hl => ?_)
                          refine lv_goto (tgt := 13) hx hb dX10_goes_425 (by decide) ?_
                          have tr100055 : (I459 (1000) 55).toInt = (v4 : Int32).toInt := congrArg Int32.toInt (((((hkI459.get (1000) 55 rfl)).trans (show (u2 I381 (1000) 53 (v436)) (1000) 55 = I381 (1000) 55 from by simp [u2_v])).trans (hkI381.get (1000) 55 rfl)).trans (show (u2 (u2 (u2 (u2 Ia13 (1000) 55 (v4)) (1000) 53 (v26)) (1049) ((v18).toNatClampNeg) (v28)) (1050) ((r252).toNatClampNeg) (v364)) (1000) 55 = v4 from by simp [u2_v]))
                          exact ih13 (v445) (v465) (v469) (v467) I459 L460 _ _ ls hI hK (by omega) (by omega) hM hS (lv_sub hl [3, 2, 0, 1, 10, 11, 12, 13, 14] rfl)
            · have hc16 := c16
              have q16 := q_eq hc16
              refine lv_aload_n hx hb dX10_goes_78 rfl (lv_at hl 4 rfl) ?_
              refine lv_dup hx hb dX10_goes_79 rfl ?_
              refine m_geti (1000) 54 hx hb hts hown hE oc10 hM hJ.1 rfl (by decide) rfl tb_1231 dX10_goes_80 ?_
              have z470 : (u2 Ia13 (1000) 55 (v4)) (1000) 54 = Ia13 (1000) 54 := (show (u2 Ia13 (1000) 55 (v4)) (1000) 54 = Ia13 (1000) 54 from by simp [u2_v])
              rw [z470]
              refine lv_iload hx hb dX10_goes_83 (lv_at hl 0 rfl) ?_
              refine lv_iadd hx hb dX10_goes_85 ?_
              refine lv_topi (fun v471 ev471 => ?_)
              refine m_puti (1000) 54 hx hb hts hown hE oc10 hM hS hJ.1 rfl (by decide) rfl rfl rfl rfl tb_1231 dX10_goes_86 (fun H locs I472 eI472 hM hS => ?_)
              subst eI472
              have hI := hI.putF (n := 1000) (k := 54) (v := v471) rfl
              have hK := hK.put (n := 1000) (k := 54) (v := v471) (by first | rfl | simp [inR])
              exact m_vret hx hb hr hlocks hM hS (Nat.le_of_ble_eq_true rfl) (Nat.le_of_ble_eq_true rfl) ⟨_, _, rfl, hI, hK, (by have := congrArg Int32.toInt ((show (u2 (u2 Ia13 (1000) 55 (v4)) (1000) 54 (v471)) (1000) 55 = v4 from by simp [u2_v])); have := congrArg Int32.toInt ((show (u2 (u2 Ia13 (1000) 55 (v4)) (1000) 54 (v471)) (1000) 52 = Ia13 (1000) 52 from by simp [u2_v])); omega)⟩ dX10_goes_89
        · have hc3 := c3
          have q3 := q_eq hc3
          refine lv_aload_n hx hb dX10_goes_28 rfl (lv_at hl 4 rfl) ?_
          refine lv_dup hx hb dX10_goes_29 rfl ?_
          refine m_geti (1000) 54 hx hb hts hown hE oc10 hM hJ.1 rfl (by decide) rfl tb_1231 dX10_goes_30 ?_
          refine lv_iload hx hb dX10_goes_33 (lv_at hl 0 rfl) ?_
          refine lv_iadd hx hb dX10_goes_35 ?_
          refine lv_topi (fun v473 ev473 => ?_)
          refine m_puti (1000) 54 hx hb hts hown hE oc10 hM hS hJ.1 rfl (by decide) rfl rfl rfl rfl tb_1231 dX10_goes_36 (fun H locs I474 eI474 hM hS => ?_)
          subst eI474
          have hI := hI.putF (n := 1000) (k := 54) (v := v473) rfl
          have hK := hK.put (n := 1000) (k := 54) (v := v473) (by first | rfl | simp [inR])
          exact m_vret hx hb hr hlocks hM hS (Nat.le_of_ble_eq_true rfl) (Nat.le_of_ble_eq_true rfl) ⟨_, _, rfl, hI, hK, (by have := congrArg Int32.toInt ((show (u2 Ia13 (1000) 54 (v473)) (1000) 55 = Ia13 (1000) 55 from by simp [u2_v])); have := congrArg Int32.toInt ((show (u2 Ia13 (1000) 54 (v473)) (1000) 52 = Ia13 (1000) 52 from by simp [u2_v])); omega)⟩ dX10_goes_39
  exact loop13 (_ + 1) (a3) (a2) (a1) (a0) I L _ _ ls hI hK (by omega) (Nat.lt_succ_self _) hM hS (lv_sub hl [0, 1, 2, 3, 4, 5, 6, 7, 8] rfl)
theorem dX10_traces_0 : decode cX10_traces 0 = .ok (.iconst 0, 1) := by decide +kernel
theorem dX10_traces_1 : decode cX10_traces 1 = .ok (.istore 4, 2) := by decide +kernel
theorem dX10_traces_3 : decode cX10_traces 3 = .ok (.iload 4, 2) := by decide +kernel
theorem dX10_traces_5 : decode cX10_traces 5 = .ok (.sipush 576, 3) := by decide +kernel
theorem dX10_traces_8 : decode cX10_traces 8 = .ok (.if_icmp .ge 17, 3) := by decide +kernel
theorem dX10_traces_11 : decode cX10_traces 11 = .ok (.aload_n 0, 1) := by decide +kernel
theorem dX10_traces_12 : decode cX10_traces 12 = .ok (.getfield 130, 3) := by decide +kernel
theorem dX10_traces_15 : decode cX10_traces 15 = .ok (.iload 4, 2) := by decide +kernel
theorem dX10_traces_17 : decode cX10_traces 17 = .ok (.iconst 0, 1) := by decide +kernel
theorem dX10_traces_18 : decode cX10_traces 18 = .ok (.iastore, 1) := by decide +kernel
theorem dX10_traces_19 : decode cX10_traces 19 = .ok (.iinc 4 1, 3) := by decide +kernel
theorem dX10_traces_22 : decode cX10_traces 22 = .ok (.goto (-19), 3) := by decide +kernel
theorem dX10_traces_25 : decode cX10_traces 25 = .ok (.aload_n 0, 1) := by decide +kernel
theorem dX10_traces_26 : decode cX10_traces 26 = .ok (.iconst 0, 1) := by decide +kernel
theorem dX10_traces_27 : decode cX10_traces 27 = .ok (.putfield 391, 3) := by decide +kernel
theorem dX10_traces_30 : decode cX10_traces 30 = .ok (.aload_n 0, 1) := by decide +kernel
theorem dX10_traces_31 : decode cX10_traces 31 = .ok (.iconst 0, 1) := by decide +kernel
theorem dX10_traces_32 : decode cX10_traces 32 = .ok (.putfield 385, 3) := by decide +kernel
theorem dX10_traces_35 : decode cX10_traces 35 = .ok (.aload_n 0, 1) := by decide +kernel
theorem dX10_traces_36 : decode cX10_traces 36 = .ok (.iconst 0, 1) := by decide +kernel
theorem dX10_traces_37 : decode cX10_traces 37 = .ok (.putfield 410, 3) := by decide +kernel
theorem dX10_traces_40 : decode cX10_traces 40 = .ok (.aload_n 0, 1) := by decide +kernel
theorem dX10_traces_41 : decode cX10_traces 41 = .ok (.iconst 0, 1) := by decide +kernel
theorem dX10_traces_42 : decode cX10_traces 42 = .ok (.putfield 388, 3) := by decide +kernel
theorem dX10_traces_45 : decode cX10_traces 45 = .ok (.aload_n 0, 1) := by decide +kernel
theorem dX10_traces_46 : decode cX10_traces 46 = .ok (.iconst 0, 1) := by decide +kernel
theorem dX10_traces_47 : decode cX10_traces 47 = .ok (.putfield 407, 3) := by decide +kernel
theorem dX10_traces_50 : decode cX10_traces 50 = .ok (.aload_n 0, 1) := by decide +kernel
theorem dX10_traces_51 : decode cX10_traces 51 = .ok (.iconst 1, 1) := by decide +kernel
theorem dX10_traces_52 : decode cX10_traces 52 = .ok (.putfield 394, 3) := by decide +kernel
theorem dX10_traces_55 : decode cX10_traces 55 = .ok (.aload_n 0, 1) := by decide +kernel
theorem dX10_traces_56 : decode cX10_traces 56 = .ok (.iload_n 1, 1) := by decide +kernel
theorem dX10_traces_57 : decode cX10_traces 57 = .ok (.bipush 24, 2) := by decide +kernel
theorem dX10_traces_59 : decode cX10_traces 59 = .ok (.irem, 1) := by decide +kernel
theorem dX10_traces_60 : decode cX10_traces 60 = .ok (.iload_n 1, 1) := by decide +kernel
theorem dX10_traces_61 : decode cX10_traces 61 = .ok (.bipush 24, 2) := by decide +kernel
theorem dX10_traces_63 : decode cX10_traces 63 = .ok (.idiv, 1) := by decide +kernel
theorem dX10_traces_64 : decode cX10_traces 64 = .ok (.iload_n 2, 1) := by decide +kernel
theorem dX10_traces_65 : decode cX10_traces 65 = .ok (.iload_n 3, 1) := by decide +kernel
theorem dX10_traces_66 : decode cX10_traces 66 = .ok (.invokevirtual 430, 3) := by decide +kernel
theorem dX10_traces_69 : decode cX10_traces 69 = .ok (.aload_n 0, 1) := by decide +kernel
theorem dX10_traces_70 : decode cX10_traces 70 = .ok (.iconst 0, 1) := by decide +kernel
theorem dX10_traces_71 : decode cX10_traces 71 = .ok (.putfield 397, 3) := by decide +kernel
theorem dX10_traces_74 : decode cX10_traces 74 = .ok (.aload_n 0, 1) := by decide +kernel
theorem dX10_traces_75 : decode cX10_traces 75 = .ok (.getfield 385, 3) := by decide +kernel
theorem dX10_traces_78 : decode cX10_traces 78 = .ok (.ifCond .le 67, 3) := by decide +kernel
theorem dX10_traces_81 : decode cX10_traces 81 = .ok (.aload_n 0, 1) := by decide +kernel
theorem dX10_traces_82 : decode cX10_traces 82 = .ok (.getfield 391, 3) := by decide +kernel
theorem dX10_traces_85 : decode cX10_traces 85 = .ok (.istore 4, 2) := by decide +kernel
theorem dX10_traces_87 : decode cX10_traces 87 = .ok (.aload_n 0, 1) := by decide +kernel
theorem dX10_traces_88 : decode cX10_traces 88 = .ok (.aload_n 0, 1) := by decide +kernel
theorem dX10_traces_89 : decode cX10_traces 89 = .ok (.getfield 391, 3) := by decide +kernel
theorem dX10_traces_92 : decode cX10_traces 92 = .ok (.iconst 1, 1) := by decide +kernel
theorem dX10_traces_93 : decode cX10_traces 93 = .ok (.iadd, 1) := by decide +kernel
theorem dX10_traces_94 : decode cX10_traces 94 = .ok (.bipush 60, 2) := by decide +kernel
theorem dX10_traces_96 : decode cX10_traces 96 = .ok (.irem, 1) := by decide +kernel
theorem dX10_traces_97 : decode cX10_traces 97 = .ok (.putfield 391, 3) := by decide +kernel
theorem dX10_traces_100 : decode cX10_traces 100 = .ok (.aload_n 0, 1) := by decide +kernel
theorem dX10_traces_101 : decode cX10_traces 101 = .ok (.dup, 1) := by decide +kernel
theorem dX10_traces_102 : decode cX10_traces 102 = .ok (.getfield 385, 3) := by decide +kernel
theorem dX10_traces_105 : decode cX10_traces 105 = .ok (.iconst 1, 1) := by decide +kernel
theorem dX10_traces_106 : decode cX10_traces 106 = .ok (.isub, 1) := by decide +kernel
theorem dX10_traces_107 : decode cX10_traces 107 = .ok (.putfield 385, 3) := by decide +kernel
theorem dX10_traces_110 : decode cX10_traces 110 = .ok (.aload_n 0, 1) := by decide +kernel
theorem dX10_traces_111 : decode cX10_traces 111 = .ok (.aload_n 0, 1) := by decide +kernel
theorem dX10_traces_112 : decode cX10_traces 112 = .ok (.getfield 118, 3) := by decide +kernel
theorem dX10_traces_115 : decode cX10_traces 115 = .ok (.iload 4, 2) := by decide +kernel
theorem dX10_traces_117 : decode cX10_traces 117 = .ok (.iaload, 1) := by decide +kernel
theorem dX10_traces_118 : decode cX10_traces 118 = .ok (.aload_n 0, 1) := by decide +kernel
theorem dX10_traces_119 : decode cX10_traces 119 = .ok (.getfield 121, 3) := by decide +kernel
theorem dX10_traces_122 : decode cX10_traces 122 = .ok (.iload 4, 2) := by decide +kernel
theorem dX10_traces_124 : decode cX10_traces 124 = .ok (.iaload, 1) := by decide +kernel
theorem dX10_traces_125 : decode cX10_traces 125 = .ok (.aload_n 0, 1) := by decide +kernel
theorem dX10_traces_126 : decode cX10_traces 126 = .ok (.getfield 124, 3) := by decide +kernel
theorem dX10_traces_129 : decode cX10_traces 129 = .ok (.iload 4, 2) := by decide +kernel
theorem dX10_traces_131 : decode cX10_traces 131 = .ok (.iaload, 1) := by decide +kernel
theorem dX10_traces_132 : decode cX10_traces 132 = .ok (.aload_n 0, 1) := by decide +kernel
theorem dX10_traces_133 : decode cX10_traces 133 = .ok (.getfield 127, 3) := by decide +kernel
theorem dX10_traces_136 : decode cX10_traces 136 = .ok (.iload 4, 2) := by decide +kernel
theorem dX10_traces_138 : decode cX10_traces 138 = .ok (.iaload, 1) := by decide +kernel
theorem dX10_traces_139 : decode cX10_traces 139 = .ok (.invokevirtual 430, 3) := by decide +kernel
theorem dX10_traces_142 : decode cX10_traces 142 = .ok (.goto (-68), 3) := by decide +kernel
theorem dX10_traces_145 : decode cX10_traces 145 = .ok (.return_, 1) := by decide +kernel
theorem ce_X10_traces : CeV RX10 yX10_traces cX10_traces 5 none 3 := ⟨tb_1646, tp_87, tb_11, tb_1647, rfl, by decide, by decide, by decide +kernel⟩
set_option maxHeartbeats 4000000 in
set_option maxRecDepth 20000 in
theorem V_X10_traces (l : Launch) (D : va_G) (A : Nat → Prop) (ad : Nat → Nat) (ns : List Nat) (I : MI) (L : ML) (G : MG) (a0 : Int32) (a1 : Int32) (a2 : Int32) (hJ : SGM ns G) (hI : INV I) : Met l yX10_traces (wd yX10_traces cX10_traces 5 none) ({ frames := 3, cells := 0, slots := 0, locals := 82 }) (va_Pc [.ref (ad (1000)), .int a0, .int a1, .int a2] (PM D A ad ns I L G)) (va_Qv (fun u => ∃ I2 L2, u = (ad, ns, I2, L2, G) ∧ INV I2 ∧ Kp [(1045, 1051), (1058, 1059), (1061, 1063)] [(1000, 51), (1000, 52), (1000, 53), (1000, 54), (1000, 55), (1000, 56), (1000, 59), (1000, 63)] I I2) (BM D A) A) 0 0 A := by
  refine m_ofW (by decide) (Nat.le_of_ble_eq_true rfl) ?_
  intro p e s m below meth c ls args hC hE hM hA hS hl
  obtain ⟨hx, hb, hml, hown, hts, hr, hlocks, hin⟩ := hC
  have k0 : (0 : Int32).toInt = 0 := by decide
  have k1 : (1 : Int32).toInt = 1 := by decide
  have k24 : (24 : Int32).toInt = 24 := by decide
  have k60 : (60 : Int32).toInt = 60 := by decide
  have k576 : (576 : Int32).toInt = 576 := by decide
  have hK : Kp [(1045, 1051), (1058, 1059), (1061, 1063)] [(1000, 51), (1000, 52), (1000, 53), (1000, 54), (1000, 55), (1000, 56), (1000, 59), (1000, 63)] I I := Kp.rf
  have hl : lv_has ls 5 [(0, .ref (ad (1000))), (1, .int (a0)), (2, .int (a1)), (3, .int (a2))] := hl
  refine lv_iconst (v := (0)) hx hb dX10_traces_0 (by decide) ?_
  refine lv_istore (lv' := [(4, .int (0)), (0, .ref (ad (1000))), (1, .int (a0)), (2, .int (a1)), (3, .int (a2))]) hx hb dX10_traces_1 hl (by decide) rfl (fun ls hl => ?_)
  have loop3 : ∀ (n : Nat) (x4_3 : Int32) (Ia3 : MI) (La3 : ML) (H : Heap) (locs : List Loc) (ls : Array Slot), INV Ia3 → Kp [(1045, 1051), (1058, 1059), (1061, 1063)] [(1000, 51), (1000, 52), (1000, 53), (1000, 54), (1000, 55), (1000, 56), (1000, 59), (1000, 63)] I Ia3 → (0 ≤ x4_3.toInt ∧ x4_3.toInt ≤ 576) → (576 - x4_3.toInt).toNat < n → Mem D A ad ns Ia3 La3 G H → va_S A s.heap H locs → lv_has ls 5 [(4, .int (x4_3)), (0, .ref (ad (1000))), (1, .int (a0)), (2, .int (a1)), (3, .int (a2))] → W p l e ({ frames := 3, cells := 0, slots := 0, locals := 82 } : Room) s m args below meth c H locs 0 0 (MQ below (va_Qv (fun u => ∃ I2 L2, u = (ad, ns, I2, L2, G) ∧ INV I2 ∧ Kp [(1045, 1051), (1058, 1059), (1061, 1063)] [(1000, 51), (1000, 52), (1000, 53), (1000, 54), (1000, 55), (1000, 56), (1000, 59), (1000, 63)] I I2) (BM D A) A) args s 0 0 A) (F0 m 3 ls []) := by
    intro n
    induction n with
    | zero =>
      intro x4_3 Ia3 La3 H locs ls hI hK hr4_3 hmu
      exact absurd hmu (Nat.not_lt_zero _)
    | succ n ih3 =>
      intro x4_3 Ia3 La3 H locs ls hI hK hr4_3 hmu3 hM hS hl
      refine lv_iload hx hb dX10_traces_3 (lv_at hl 0 rfl) ?_
      refine lv_sipush (v := (576)) hx hb dX10_traces_5 (by decide) ?_
      refine lv_icmp_ge (tgt := 25) hx hb dX10_traces_8 (by decide) (fun c1 => ?_) (fun c1 => ?_)
      · have hc1 := c1
        have q1 := q_le hc1
        refine lv_aload_n hx hb dX10_traces_25 rfl (lv_at hl 1 rfl) ?_
        refine lv_iconst (v := (0)) hx hb dX10_traces_26 (by decide) ?_
        refine m_puti (1000) 51 hx hb hts hown hE oc10 hM hS hJ.1 rfl (by decide) rfl rfl rfl rfl tb_1228 dX10_traces_27 (fun H locs I2 eI2 hM hS => ?_)
        subst eI2
        have hI := hI.put (n := 1000) (k := 51) (v := 0) (lo := 0) (hi := 59) rfl (by first | omega | decide)
        have hK := hK.put (n := 1000) (k := 51) (v := 0) (by first | rfl | simp [inR])
        refine lv_aload_n hx hb dX10_traces_30 rfl (lv_at hl 1 rfl) ?_
        refine lv_iconst (v := (0)) hx hb dX10_traces_31 (by decide) ?_
        refine m_puti (1000) 52 hx hb hts hown hE oc10 hM hS hJ.1 rfl (by decide) rfl rfl rfl rfl tb_1229 dX10_traces_32 (fun H locs I3 eI3 hM hS => ?_)
        subst eI3
        have hI := hI.put (n := 1000) (k := 52) (v := 0) (lo := 0) (hi := 60) rfl (by first | omega | decide)
        have hK := hK.put (n := 1000) (k := 52) (v := 0) (by first | rfl | simp [inR])
        refine lv_aload_n hx hb dX10_traces_35 rfl (lv_at hl 1 rfl) ?_
        refine lv_iconst (v := (0)) hx hb dX10_traces_36 (by decide) ?_
        refine m_puti (1000) 53 hx hb hts hown hE oc10 hM hS hJ.1 rfl (by decide) rfl rfl rfl rfl tb_1230 dX10_traces_37 (fun H locs I4 eI4 hM hS => ?_)
        subst eI4
        have hI := hI.putF (n := 1000) (k := 53) (v := 0) rfl
        have hK := hK.put (n := 1000) (k := 53) (v := 0) (by first | rfl | simp [inR])
        refine lv_aload_n hx hb dX10_traces_40 rfl (lv_at hl 1 rfl) ?_
        refine lv_iconst (v := (0)) hx hb dX10_traces_41 (by decide) ?_
        refine m_puti (1000) 54 hx hb hts hown hE oc10 hM hS hJ.1 rfl (by decide) rfl rfl rfl rfl tb_1231 dX10_traces_42 (fun H locs I5 eI5 hM hS => ?_)
        subst eI5
        have hI := hI.putF (n := 1000) (k := 54) (v := 0) rfl
        have hK := hK.put (n := 1000) (k := 54) (v := 0) (by first | rfl | simp [inR])
        refine lv_aload_n hx hb dX10_traces_45 rfl (lv_at hl 1 rfl) ?_
        refine lv_iconst (v := (0)) hx hb dX10_traces_46 (by decide) ?_
        refine m_puti (1000) 55 hx hb hts hown hE oc10 hM hS hJ.1 rfl (by decide) rfl rfl rfl rfl tb_1232 dX10_traces_47 (fun H locs I6 eI6 hM hS => ?_)
        subst eI6
        have hI := hI.put (n := 1000) (k := 55) (v := 0) (lo := 0) (hi := 2000) rfl (by first | omega | decide)
        have hK := hK.put (n := 1000) (k := 55) (v := 0) (by first | rfl | simp [inR])
        refine lv_aload_n hx hb dX10_traces_50 rfl (lv_at hl 1 rfl) ?_
        refine lv_iconst (v := (1)) hx hb dX10_traces_51 (by decide) ?_
        refine m_puti (1000) 56 hx hb hts hown hE oc10 hM hS hJ.1 rfl (by decide) rfl rfl rfl rfl tb_1233 dX10_traces_52 (fun H locs I7 eI7 hM hS => ?_)
        subst eI7
        have hI := hI.putF (n := 1000) (k := 56) (v := 1) rfl
        have hK := hK.put (n := 1000) (k := 56) (v := 1) (by first | rfl | simp [inR])
        refine lv_aload_n hx hb dX10_traces_55 rfl (lv_at hl 1 rfl) ?_
        refine lv_iload_n hx hb dX10_traces_56 rfl (lv_at hl 2 rfl) ?_
        refine lv_bipush (v := (24)) hx hb dX10_traces_57 (by decide) ?_
        refine lv_irem hx hb dX10_traces_59 (by decide) ?_
        refine lv_topi (fun v8 ev8 => ?_)
        refine lv_iload_n hx hb dX10_traces_60 rfl (lv_at hl 2 rfl) ?_
        refine lv_bipush (v := (24)) hx hb dX10_traces_61 (by decide) ?_
        refine lv_idiv hx hb dX10_traces_63 (by decide) ?_
        refine lv_topi (fun v9 ev9 => ?_)
        refine lv_iload_n hx hb dX10_traces_64 rfl (lv_at hl 3 rfl) ?_
        refine lv_iload_n hx hb dX10_traces_65 rfl (lv_at hl 4 rfl) ?_
        refine m_callv (m_runV (1000) (As := [.int (v8), .int (v9), .int (a1), .int (a2)]) (rest := []) hx hb hml hown hts hE hM hS hA ce_X10_goes tb_1648 (V_X10_goes l D A ad ns (u2 (u2 (u2 (u2 (u2 (u2 Ia3 (1000) 51 (0)) (1000) 52 (0)) (1000) 53 (0)) (1000) 54 (0)) (1000) 55 (0)) (1000) 56 (1)) La3 G (v8) (v9) (a1) (a2) hJ hI) rfl rfl ⟨Nat.le_of_ble_eq_true rfl, Nat.le_of_ble_eq_true rfl⟩ hJ.1 rfl rfl (by decide) rfl hl.1 rfl (Nat.le_of_ble_eq_true rfl) dX10_traces_66 ⟨Nat.le_of_ble_eq_true rfl, Nat.le_of_ble_eq_true rfl⟩) hS (fun u H locs hw hM hS => ?_)
        obtain ⟨I10, L11, rfl, hI, hkI10, xI10⟩ := hw
        have hM : Mem D A ad ns I10 L11 G H := hM
        have hK := hK.trans hkI10 rfl
        have pw12 : ((u2 (u2 (u2 (u2 (u2 (u2 Ia3 (1000) 51 (0)) (1000) 52 (0)) (1000) 53 (0)) (1000) 54 (0)) (1000) 55 (0)) (1000) 56 (1)) (1000) 55).toInt = (0 : Int32).toInt := congrArg Int32.toInt ((show (u2 (u2 (u2 (u2 (u2 (u2 Ia3 (1000) 51 (0)) (1000) 52 (0)) (1000) 53 (0)) (1000) 54 (0)) (1000) 55 (0)) (1000) 56 (1)) (1000) 55 = 0 from by simp [u2_v]))
        have pw13 : ((u2 (u2 (u2 (u2 (u2 (u2 Ia3 (1000) 51 (0)) (1000) 52 (0)) (1000) 53 (0)) (1000) 54 (0)) (1000) 55 (0)) (1000) 56 (1)) (1000) 52).toInt = (0 : Int32).toInt := congrArg Int32.toInt ((show (u2 (u2 (u2 (u2 (u2 (u2 Ia3 (1000) 51 (0)) (1000) 52 (0)) (1000) 53 (0)) (1000) 54 (0)) (1000) 55 (0)) (1000) 56 (1)) (1000) 52 = 0 from by simp [u2_v]))
        refine lv_aload_n hx hb dX10_traces_69 rfl (lv_at hl 1 rfl) ?_
        refine lv_iconst (v := (0)) hx hb dX10_traces_70 (by decide) ?_
        refine m_puti (1000) 59 hx hb hts hown hE oc10 hM hS hJ.1 rfl (by decide) rfl rfl rfl rfl tb_1236 dX10_traces_71 (fun H locs I14 eI14 hM hS => ?_)
        subst eI14
        have hI := hI.put (n := 1000) (k := 59) (v := 0) (lo := 0) (hi := 1) rfl (by first | omega | decide)
        have hK := hK.put (n := 1000) (k := 59) (v := 0) (by first | rfl | simp [inR])
        have loop74 : ∀ (n : Nat) (x4_74 : Int32) (Ia74 : MI) (La74 : ML) (H : Heap) (locs : List Loc) (ls : Array Slot), INV Ia74 → Kp [(1045, 1051), (1058, 1059), (1061, 1063)] [(1000, 51), (1000, 52), (1000, 53), (1000, 54), (1000, 55), (1000, 56), (1000, 59), (1000, 63)] I Ia74 → (2 * (2000 - (Ia74 1000 55).toInt) + (Ia74 1000 52).toInt).toNat < n → Mem D A ad ns Ia74 La74 G H → va_S A s.heap H locs → lv_has ls 5 [(4, .int (x4_74)), (0, .ref (ad (1000))), (1, .int (a0)), (2, .int (a1)), (3, .int (a2))] → W p l e ({ frames := 3, cells := 0, slots := 0, locals := 82 } : Room) s m args below meth c H locs 0 0 (MQ below (va_Qv (fun u => ∃ I2 L2, u = (ad, ns, I2, L2, G) ∧ INV I2 ∧ Kp [(1045, 1051), (1058, 1059), (1061, 1063)] [(1000, 51), (1000, 52), (1000, 53), (1000, 54), (1000, 55), (1000, 56), (1000, 59), (1000, 63)] I I2) (BM D A) A) args s 0 0 A) (F0 m 74 ls []) := by
          intro n
          induction n with
          | zero =>
            intro x4_74 Ia74 La74 H locs ls hI hK  hmu
            exact absurd hmu (Nat.not_lt_zero _)
          | succ n ih74 =>
            intro x4_74 Ia74 La74 H locs ls hI hK  hmu74 hM hS hl
            have gA74 := hI.get 1000 55 (lo := 0) (hi := 2000) rfl
            have gB74 := hI.get 1000 52 (lo := 0) (hi := 60) rfl
            refine lv_aload_n hx hb dX10_traces_74 rfl (lv_at hl 1 rfl) ?_
            refine m_geti (1000) 52 hx hb hts hown hE oc10 hM hJ.1 rfl (by decide) rfl tb_1229 dX10_traces_75 ?_
            have g15 := hI.get (1000) 52 (lo := 0) (hi := 60) rfl
            refine lv_if_le (tgt := 145) hx hb dX10_traces_78 (by decide) (fun c16 => ?_) (fun c16 => ?_)
            · have hc16 := c16
              have q16 := q_le hc16
              exact m_vret hx hb hr hlocks hM hS (Nat.le_of_ble_eq_true rfl) (Nat.le_of_ble_eq_true rfl) ⟨_, _, rfl, hI, hK⟩ dX10_traces_145
            · have hc16 := c16
              have q16 := q_nle hc16
              refine lv_aload_n hx hb dX10_traces_81 rfl (lv_at hl 1 rfl) ?_
              refine m_geti (1000) 51 hx hb hts hown hE oc10 hM hJ.1 rfl (by decide) rfl tb_1228 dX10_traces_82 ?_
              have g17 := hI.get (1000) 51 (lo := 0) (hi := 59) rfl
              refine lv_istore (lv' := [(4, .int (Ia74 (1000) 51)), (0, .ref (ad (1000))), (1, .int (a0)), (2, .int (a1)), (3, .int (a2))]) hx hb dX10_traces_85 hl (by decide) rfl (fun ls hl => ?_)
              refine lv_aload_n hx hb dX10_traces_87 rfl (lv_at hl 1 rfl) ?_
              refine lv_aload_n hx hb dX10_traces_88 rfl (lv_at hl 1 rfl) ?_
              refine m_geti (1000) 51 hx hb hts hown hE oc10 hM hJ.1 rfl (by decide) rfl tb_1228 dX10_traces_89 ?_
              refine lv_iconst (v := (1)) hx hb dX10_traces_92 (by decide) ?_
              refine lv_iadd hx hb dX10_traces_93 ?_
              refine lv_topi (fun v18 ev18 => ?_)
              have tv18 := a_add ev18 (by omega) (by omega)
              refine lv_bipush (v := (60)) hx hb dX10_traces_94 (by decide) ?_
              refine lv_irem hx hb dX10_traces_96 (by decide) ?_
              refine lv_topi (fun v19 ev19 => ?_)
              have tv19 := a_rem (c := 60) ev19 (by decide) (by decide) (by omega)
              refine m_puti (1000) 51 hx hb hts hown hE oc10 hM hS hJ.1 rfl (by decide) rfl rfl rfl rfl tb_1228 dX10_traces_97 (fun H locs I20 eI20 hM hS => ?_)
              subst eI20
              have hI := hI.put (n := 1000) (k := 51) (v := v19) (lo := 0) (hi := 59) rfl (by first | omega | decide)
              have hK := hK.put (n := 1000) (k := 51) (v := v19) (by first | rfl | simp [inR])
              refine lv_aload_n hx hb dX10_traces_100 rfl (lv_at hl 1 rfl) ?_
              refine lv_dup hx hb dX10_traces_101 rfl ?_
              refine m_geti (1000) 52 hx hb hts hown hE oc10 hM hJ.1 rfl (by decide) rfl tb_1229 dX10_traces_102 ?_
              have z21 : (u2 Ia74 (1000) 51 (v19)) (1000) 52 = Ia74 (1000) 52 := (show (u2 Ia74 (1000) 51 (v19)) (1000) 52 = Ia74 (1000) 52 from by simp [u2_v])
              rw [z21]
              refine lv_iconst (v := (1)) hx hb dX10_traces_105 (by decide) ?_
              refine lv_isub hx hb dX10_traces_106 ?_
              refine lv_topi (fun v22 ev22 => ?_)
              have tv22 := a_sub ev22 (by omega) (by omega)
              refine m_puti (1000) 52 hx hb hts hown hE oc10 hM hS hJ.1 rfl (by decide) rfl rfl rfl rfl tb_1229 dX10_traces_107 (fun H locs I23 eI23 hM hS => ?_)
              subst eI23
              have hI := hI.put (n := 1000) (k := 52) (v := v22) (lo := 0) (hi := 60) rfl (by first | omega | decide)
              have hK := hK.put (n := 1000) (k := 52) (v := v22) (by first | rfl | simp [inR])
              refine lv_aload_n hx hb dX10_traces_110 rfl (lv_at hl 1 rfl) ?_
              refine lv_aload_n hx hb dX10_traces_111 rfl (lv_at hl 1 rfl) ?_
              refine m_getr (1000) 45 (1045) hx hb hts hown hE oc10 hM hJ.1 rfl (by decide) rfl (hJ.2 45 (by decide)).2 (by decide) tb_1222 dX10_traces_112 ?_
              refine lv_iload hx hb dX10_traces_115 (lv_at hl 0 rfl) ?_
              refine m_iald (1045) hx hb hE hM (hJ.2 45 (by decide)).1 rfl (vp_in_iff.mpr (by omega)) dX10_traces_117 ?_
              have z24 : (u2 (u2 Ia74 (1000) 51 (v19)) (1000) 52 (v22)) (1045) (Ia74 (1000) 51).toNatClampNeg = Ia74 (1045) ((Ia74 (1000) 51).toNatClampNeg) := (show (u2 (u2 Ia74 (1000) 51 (v19)) (1000) 52 (v22)) (1045) ((Ia74 (1000) 51).toNatClampNeg) = Ia74 (1045) ((Ia74 (1000) 51).toNatClampNeg) from by simp [u2_v])
              rw [z24]
              refine lv_aload_n hx hb dX10_traces_118 rfl (lv_at hl 1 rfl) ?_
              refine m_getr (1000) 46 (1046) hx hb hts hown hE oc10 hM hJ.1 rfl (by decide) rfl (hJ.2 46 (by decide)).2 (by decide) tb_1223 dX10_traces_119 ?_
              refine lv_iload hx hb dX10_traces_122 (lv_at hl 0 rfl) ?_
              refine m_iald (1046) hx hb hE hM (hJ.2 46 (by decide)).1 rfl (vp_in_iff.mpr (by omega)) dX10_traces_124 ?_
              have z25 : (u2 (u2 Ia74 (1000) 51 (v19)) (1000) 52 (v22)) (1046) (Ia74 (1000) 51).toNatClampNeg = Ia74 (1046) ((Ia74 (1000) 51).toNatClampNeg) := (show (u2 (u2 Ia74 (1000) 51 (v19)) (1000) 52 (v22)) (1046) ((Ia74 (1000) 51).toNatClampNeg) = Ia74 (1046) ((Ia74 (1000) 51).toNatClampNeg) from by simp [u2_v])
              rw [z25]
              refine lv_aload_n hx hb dX10_traces_125 rfl (lv_at hl 1 rfl) ?_
              refine m_getr (1000) 47 (1047) hx hb hts hown hE oc10 hM hJ.1 rfl (by decide) rfl (hJ.2 47 (by decide)).2 (by decide) tb_1224 dX10_traces_126 ?_
              refine lv_iload hx hb dX10_traces_129 (lv_at hl 0 rfl) ?_
              refine m_iald (1047) hx hb hE hM (hJ.2 47 (by decide)).1 rfl (vp_in_iff.mpr (by omega)) dX10_traces_131 ?_
              have z26 : (u2 (u2 Ia74 (1000) 51 (v19)) (1000) 52 (v22)) (1047) (Ia74 (1000) 51).toNatClampNeg = Ia74 (1047) ((Ia74 (1000) 51).toNatClampNeg) := (show (u2 (u2 Ia74 (1000) 51 (v19)) (1000) 52 (v22)) (1047) ((Ia74 (1000) 51).toNatClampNeg) = Ia74 (1047) ((Ia74 (1000) 51).toNatClampNeg) from by simp [u2_v])
              rw [z26]
              refine lv_aload_n hx hb dX10_traces_132 rfl (lv_at hl 1 rfl) ?_
              refine m_getr (1000) 48 (1048) hx hb hts hown hE oc10 hM hJ.1 rfl (by decide) rfl (hJ.2 48 (by decide)).2 (by decide) tb_1225 dX10_traces_133 ?_
              refine lv_iload hx hb dX10_traces_136 (lv_at hl 0 rfl) ?_
              refine m_iald (1048) hx hb hE hM (hJ.2 48 (by decide)).1 rfl (vp_in_iff.mpr (by omega)) dX10_traces_138 ?_
              have z27 : (u2 (u2 Ia74 (1000) 51 (v19)) (1000) 52 (v22)) (1048) (Ia74 (1000) 51).toNatClampNeg = Ia74 (1048) ((Ia74 (1000) 51).toNatClampNeg) := (show (u2 (u2 Ia74 (1000) 51 (v19)) (1000) 52 (v22)) (1048) ((Ia74 (1000) 51).toNatClampNeg) = Ia74 (1048) ((Ia74 (1000) 51).toNatClampNeg) from by simp [u2_v])
              rw [z27]
              refine m_callv (m_runV (1000) (As := [.int (Ia74 (1045) ((Ia74 (1000) 51).toNatClampNeg)), .int (Ia74 (1046) ((Ia74 (1000) 51).toNatClampNeg)), .int (Ia74 (1047) ((Ia74 (1000) 51).toNatClampNeg)), .int (Ia74 (1048) ((Ia74 (1000) 51).toNatClampNeg))]) (rest := []) hx hb hml hown hts hE hM hS hA ce_X10_goes tb_1648 (V_X10_goes l D A ad ns (u2 (u2 Ia74 (1000) 51 (v19)) (1000) 52 (v22)) La74 G (Ia74 (1045) ((Ia74 (1000) 51).toNatClampNeg)) (Ia74 (1046) ((Ia74 (1000) 51).toNatClampNeg)) (Ia74 (1047) ((Ia74 (1000) 51).toNatClampNeg)) (Ia74 (1048) ((Ia74 (1000) 51).toNatClampNeg)) hJ hI) rfl rfl ⟨Nat.le_of_ble_eq_true rfl, Nat.le_of_ble_eq_true rfl⟩ hJ.1 rfl rfl (by decide) rfl hl.1 rfl (Nat.le_of_ble_eq_true rfl) dX10_traces_139 ⟨Nat.le_of_ble_eq_true rfl, Nat.le_of_ble_eq_true rfl⟩) hS (fun u H locs hw hM hS => ?_)
              obtain ⟨I28, L29, rfl, hI, hkI28, xI28⟩ := hw
              have hM : Mem D A ad ns I28 L29 G H := hM
              have hK := hK.trans hkI28 rfl
              have pw30 : ((u2 (u2 Ia74 (1000) 51 (v19)) (1000) 52 (v22)) (1000) 55).toInt = (Ia74 (1000) 55 : Int32).toInt := congrArg Int32.toInt ((show (u2 (u2 Ia74 (1000) 51 (v19)) (1000) 52 (v22)) (1000) 55 = Ia74 (1000) 55 from by simp [u2_v]))
              have pw31 : ((u2 (u2 Ia74 (1000) 51 (v19)) (1000) 52 (v22)) (1000) 52).toInt = (v22 : Int32).toInt := congrArg Int32.toInt ((show (u2 (u2 Ia74 (1000) 51 (v19)) (1000) 52 (v22)) (1000) 52 = v22 from by simp [u2_v]))
              refine lv_goto (tgt := 74) hx hb dX10_traces_142 (by decide) ?_
              exact ih74 (Ia74 (1000) 51) I28 L29 _ _ ls hI hK  (by omega) hM hS (lv_sub hl [0, 1, 2, 3, 4] rfl)
        exact loop74 (_ + 1) (x4_3) (u2 I10 (1000) 59 (0)) L11 _ _ ls hI hK  (Nat.lt_succ_self _) hM hS (lv_sub hl [0, 1, 2, 3, 4] rfl)
      · have hc1 := c1
        have q1 := q_nle hc1
        refine lv_aload_n hx hb dX10_traces_11 rfl (lv_at hl 1 rfl) ?_
        refine m_getr (1000) 49 (1049) hx hb hts hown hE oc10 hM hJ.1 rfl (by decide) rfl (hJ.2 49 (by decide)).2 (by decide) tb_1226 dX10_traces_12 ?_
        refine lv_iload hx hb dX10_traces_15 (lv_at hl 0 rfl) ?_
        refine lv_iconst (v := (0)) hx hb dX10_traces_17 (by decide) ?_
        refine m_iast (1049) hx hb hE hM hS (hJ.2 49 (by decide)).1 rfl (vp_in_iff.mpr (by omega)) dX10_traces_18 (fun H locs I32 eI32 hM hS => ?_)
        subst eI32
        have hI := hI.putF (n := 1049) (k := ((x4_3).toNatClampNeg)) (v := 0) rfl
        have hK := hK.put (n := 1049) (k := ((x4_3).toNatClampNeg)) (v := 0) (by first | rfl | simp [inR])
        obtain ⟨v33, ev33⟩ : ∃ z : Int32, z = x4_3 + Int32.ofInt (1) := ⟨_, rfl⟩
        have tv33 := a_inc ev33 (by decide) (by omega) (by omega)
        refine lv_iinc (v := v33) (lv' := [(4, .int (v33)), (0, .ref (ad (1000))), (1, .int (a0)), (2, .int (a1)), (3, .int (a2))]) hx hb dX10_traces_19 hl (k := 0) rfl ev33.symm (by decide) rfl (fun ls hl => ?_)
        refine lv_goto (tgt := 3) hx hb dX10_traces_22 (by decide) ?_
        exact ih3 (v33) (u2 Ia3 (1049) ((x4_3).toNatClampNeg) (0)) La3 _ _ ls hI hK (by first | omega | decide) (by omega) hM hS (lv_sub hl [0, 1, 2, 3, 4] rfl)
  exact loop3 (_ + 1) (0) I L _ _ ls hI hK (by first | omega | decide) (Nat.lt_succ_self _) hM hS (lv_sub hl [0, 1, 2, 3, 4] rfl)
theorem dX10_shines_0 : decode cX10_shines 0 = .ok (.iconst 0, 1) := by decide +kernel
theorem dX10_shines_1 : decode cX10_shines 1 = .ok (.istore_n 2, 1) := by decide +kernel
theorem dX10_shines_2 : decode cX10_shines 2 = .ok (.iload_n 2, 1) := by decide +kernel
theorem dX10_shines_3 : decode cX10_shines 3 = .ok (.bipush 8, 2) := by decide +kernel
theorem dX10_shines_5 : decode cX10_shines 5 = .ok (.if_icmp .ge 16, 3) := by decide +kernel
theorem dX10_shines_8 : decode cX10_shines 8 = .ok (.aload_n 0, 1) := by decide +kernel
theorem dX10_shines_9 : decode cX10_shines 9 = .ok (.getfield 133, 3) := by decide +kernel
theorem dX10_shines_12 : decode cX10_shines 12 = .ok (.iload_n 2, 1) := by decide +kernel
theorem dX10_shines_13 : decode cX10_shines 13 = .ok (.iconst 0, 1) := by decide +kernel
theorem dX10_shines_14 : decode cX10_shines 14 = .ok (.iastore, 1) := by decide +kernel
theorem dX10_shines_15 : decode cX10_shines 15 = .ok (.iinc 2 1, 3) := by decide +kernel
theorem dX10_shines_18 : decode cX10_shines 18 = .ok (.goto (-16), 3) := by decide +kernel
theorem dX10_shines_21 : decode cX10_shines 21 = .ok (.aload_n 0, 1) := by decide +kernel
theorem dX10_shines_22 : decode cX10_shines 22 = .ok (.aload_n 0, 1) := by decide +kernel
theorem dX10_shines_23 : decode cX10_shines 23 = .ok (.getfield 7, 3) := by decide +kernel
theorem dX10_shines_26 : decode cX10_shines 26 = .ok (.iconst 3, 1) := by decide +kernel
theorem dX10_shines_27 : decode cX10_shines 27 = .ok (.iaload, 1) := by decide +kernel
theorem dX10_shines_28 : decode cX10_shines 28 = .ok (.aload_n 0, 1) := by decide +kernel
theorem dX10_shines_29 : decode cX10_shines 29 = .ok (.iload_n 1, 1) := by decide +kernel
theorem dX10_shines_30 : decode cX10_shines 30 = .ok (.invokevirtual 433, 3) := by decide +kernel
theorem dX10_shines_33 : decode cX10_shines 33 = .ok (.aload_n 0, 1) := by decide +kernel
theorem dX10_shines_34 : decode cX10_shines 34 = .ok (.getfield 22, 3) := by decide +kernel
theorem dX10_shines_37 : decode cX10_shines 37 = .ok (.bipush 24, 2) := by decide +kernel
theorem dX10_shines_39 : decode cX10_shines 39 = .ok (.aload_n 0, 1) := by decide +kernel
theorem dX10_shines_40 : decode cX10_shines 40 = .ok (.getfield 7, 3) := by decide +kernel
theorem dX10_shines_43 : decode cX10_shines 43 = .ok (.iconst 5, 1) := by decide +kernel
theorem dX10_shines_44 : decode cX10_shines 44 = .ok (.iaload, 1) := by decide +kernel
theorem dX10_shines_45 : decode cX10_shines 45 = .ok (.imul, 1) := by decide +kernel
theorem dX10_shines_46 : decode cX10_shines 46 = .ok (.iload_n 1, 1) := by decide +kernel
theorem dX10_shines_47 : decode cX10_shines 47 = .ok (.iadd, 1) := by decide +kernel
theorem dX10_shines_48 : decode cX10_shines 48 = .ok (.iaload, 1) := by decide +kernel
theorem dX10_shines_49 : decode cX10_shines 49 = .ok (.invokevirtual 436, 3) := by decide +kernel
theorem dX10_shines_52 : decode cX10_shines 52 = .ok (.return_, 1) := by decide +kernel
theorem ce_X10_shines : CeV RX10 yX10_shines cX10_shines 3 none 1 := ⟨tb_1642, tp_86, tb_11, tb_1643, rfl, by decide, by decide, by decide +kernel⟩
set_option maxHeartbeats 4000000 in
set_option maxRecDepth 20000 in
theorem V_X10_shines (l : Launch) (D : va_G) (A : Nat → Prop) (ad : Nat → Nat) (ns : List Nat) (I : MI) (L : ML) (G : MG) (a0 : Int32) (hJ : SGM ns G) (hI : INV I) (ha0 : 0 ≤ a0.toInt ∧ a0.toInt ≤ 23) : Met l yX10_shines (wd yX10_shines cX10_shines 3 none) ({ frames := 4, cells := 0, slots := 0, locals := 106 }) (va_Pc [.ref (ad (1000)), .int a0] (PM D A ad ns I L G)) (va_Qv (fun u => ∃ I2 L2, u = (ad, ns, I2, L2, G) ∧ INV I2 ∧ Kp [(1045, 1051), (1058, 1059), (1061, 1063)] [(1000, 51), (1000, 52), (1000, 53), (1000, 54), (1000, 55), (1000, 56), (1000, 59), (1000, 63)] I I2) (BM D A) A) 0 0 A := by
  refine m_ofW (by decide) (Nat.le_of_ble_eq_true rfl) ?_
  intro p e s m below meth c ls args hC hE hM hA hS hl
  obtain ⟨hx, hb, hml, hown, hts, hr, hlocks, hin⟩ := hC
  have k0 : (0 : Int32).toInt = 0 := by decide
  have k3 : (3 : Int32).toInt = 3 := by decide
  have k5 : (5 : Int32).toInt = 5 := by decide
  have k8 : (8 : Int32).toInt = 8 := by decide
  have k24 : (24 : Int32).toInt = 24 := by decide
  have hK : Kp [(1045, 1051), (1058, 1059), (1061, 1063)] [(1000, 51), (1000, 52), (1000, 53), (1000, 54), (1000, 55), (1000, 56), (1000, 59), (1000, 63)] I I := Kp.rf
  have hl : lv_has ls 3 [(0, .ref (ad (1000))), (1, .int (a0))] := hl
  refine lv_iconst (v := (0)) hx hb dX10_shines_0 (by decide) ?_
  refine lv_istore_n (lv' := [(2, .int (0)), (0, .ref (ad (1000))), (1, .int (a0))]) hx hb dX10_shines_1 rfl hl (by decide) rfl (fun ls hl => ?_)
  have loop2 : ∀ (n : Nat) (x2_2 : Int32) (Ia2 : MI) (La2 : ML) (H : Heap) (locs : List Loc) (ls : Array Slot), INV Ia2 → Kp [(1045, 1051), (1058, 1059), (1061, 1063)] [(1000, 51), (1000, 52), (1000, 53), (1000, 54), (1000, 55), (1000, 56), (1000, 59), (1000, 63)] I Ia2 → (0 ≤ x2_2.toInt ∧ x2_2.toInt ≤ 8) → (8 - x2_2.toInt).toNat < n → Mem D A ad ns Ia2 La2 G H → va_S A s.heap H locs → lv_has ls 3 [(2, .int (x2_2)), (0, .ref (ad (1000))), (1, .int (a0))] → W p l e ({ frames := 4, cells := 0, slots := 0, locals := 106 } : Room) s m args below meth c H locs 0 0 (MQ below (va_Qv (fun u => ∃ I2 L2, u = (ad, ns, I2, L2, G) ∧ INV I2 ∧ Kp [(1045, 1051), (1058, 1059), (1061, 1063)] [(1000, 51), (1000, 52), (1000, 53), (1000, 54), (1000, 55), (1000, 56), (1000, 59), (1000, 63)] I I2) (BM D A) A) args s 0 0 A) (F0 m 2 ls []) := by
    intro n
    induction n with
    | zero =>
      intro x2_2 Ia2 La2 H locs ls hI hK hr2_2 hmu
      exact absurd hmu (Nat.not_lt_zero _)
    | succ n ih2 =>
      intro x2_2 Ia2 La2 H locs ls hI hK hr2_2 hmu2 hM hS hl
      refine lv_iload_n hx hb dX10_shines_2 rfl (lv_at hl 0 rfl) ?_
      refine lv_bipush (v := (8)) hx hb dX10_shines_3 (by decide) ?_
      refine lv_icmp_ge (tgt := 21) hx hb dX10_shines_5 (by decide) (fun c1 => ?_) (fun c1 => ?_)
      · have hc1 := c1
        have q1 := q_le hc1
        refine lv_aload_n hx hb dX10_shines_21 rfl (lv_at hl 1 rfl) ?_
        refine lv_aload_n hx hb dX10_shines_22 rfl (lv_at hl 1 rfl) ?_
        refine m_getr (1000) 1 (1001) hx hb hts hown hE oc10 hM hJ.1 rfl (by decide) rfl (hJ.2 1 (by decide)).2 (by decide) tb_1178 dX10_shines_23 ?_
        refine lv_iconst (v := (3)) hx hb dX10_shines_26 (by decide) ?_
        refine m_iald (1001) hx hb hE hM (hJ.2 1 (by decide)).1 rfl (vp_in_iff.mpr (by decide)) dX10_shines_27 ?_
        rw [show (3 : Int32).toNatClampNeg = 3 from rfl]
        refine lv_aload_n hx hb dX10_shines_28 rfl (lv_at hl 1 rfl) ?_
        refine lv_iload_n hx hb dX10_shines_29 rfl (lv_at hl 2 rfl) ?_
        refine m_calli (m_runV (1000) (As := [.int (a0)]) (rest := [.int (Ia2 (1001) 3), .ref (ad (1000))]) hx hb hml hown hts hE hM hS hA ce_X10_sunOf tb_1625 (V_X10_sunOf l D A ad ns Ia2 La2 G (a0) hJ hI (by first | omega | decide)) rfl rfl ⟨Nat.le_of_ble_eq_true rfl, Nat.le_of_ble_eq_true rfl⟩ hJ.1 rfl rfl (by decide) rfl hl.1 rfl (Nat.le_of_ble_eq_true rfl) dX10_shines_30 ⟨Nat.le_of_ble_eq_true rfl, Nat.le_of_ble_eq_true rfl⟩) hS (fun r2 u H locs hw hM hS => ?_)
        obtain ⟨rfl, xr2⟩ := hw
        have hM : Mem D A ad ns Ia2 La2 G H := hM
        refine lv_aload_n hx hb dX10_shines_33 rfl (lv_at hl 1 rfl) ?_
        refine m_getr (1000) 5 (1005) hx hb hts hown hE oc10 hM hJ.1 rfl (by decide) rfl (hJ.2 5 (by decide)).2 (by decide) tb_1182 dX10_shines_34 ?_
        refine lv_bipush (v := (24)) hx hb dX10_shines_37 (by decide) ?_
        refine lv_aload_n hx hb dX10_shines_39 rfl (lv_at hl 1 rfl) ?_
        refine m_getr (1000) 1 (1001) hx hb hts hown hE oc10 hM hJ.1 rfl (by decide) rfl (hJ.2 1 (by decide)).2 (by decide) tb_1178 dX10_shines_40 ?_
        refine lv_iconst (v := (5)) hx hb dX10_shines_43 (by decide) ?_
        refine m_iald (1001) hx hb hE hM (hJ.2 1 (by decide)).1 rfl (vp_in_iff.mpr (by decide)) dX10_shines_44 ?_
        rw [show (5 : Int32).toNatClampNeg = 5 from rfl]
        have g3 := hI.get (1001) 5 (lo := 0) (hi := 11) rfl
        refine lv_imul hx hb dX10_shines_45 ?_
        refine lv_topi (fun v4 ev4 => ?_)
        have tv4 := a_mulL (c := 24) ev4 (by decide) (by omega) (by omega)
        refine lv_iload_n hx hb dX10_shines_46 rfl (lv_at hl 2 rfl) ?_
        refine lv_iadd hx hb dX10_shines_47 ?_
        refine lv_topi (fun v5 ev5 => ?_)
        have tv5 := a_add ev5 (by omega) (by omega)
        refine m_iald (1005) hx hb hE hM (hJ.2 5 (by decide)).1 rfl (vp_in_iff.mpr (by omega)) dX10_shines_48 ?_
        refine m_callv (m_runV (1000) (As := [.int (Ia2 (1001) 3), .int (r2), .int (Ia2 (1005) (v5).toNatClampNeg)]) (rest := []) hx hb hml hown hts hE hM hS hA ce_X10_traces tb_1644 (V_X10_traces l D A ad ns Ia2 La2 G (Ia2 (1001) 3) (r2) (Ia2 (1005) (v5).toNatClampNeg) hJ hI) rfl rfl ⟨Nat.le_of_ble_eq_true rfl, Nat.le_of_ble_eq_true rfl⟩ hJ.1 rfl rfl (by decide) rfl hl.1 rfl (Nat.le_of_ble_eq_true rfl) dX10_shines_49 ⟨Nat.le_of_ble_eq_true rfl, Nat.le_of_ble_eq_true rfl⟩) hS (fun u H locs hw hM hS => ?_)
        obtain ⟨I6, L7, rfl, hI, hkI6⟩ := hw
        have hM : Mem D A ad ns I6 L7 G H := hM
        have hK := hK.trans hkI6 rfl
        exact m_vret hx hb hr hlocks hM hS (Nat.le_of_ble_eq_true rfl) (Nat.le_of_ble_eq_true rfl) ⟨_, _, rfl, hI, hK⟩ dX10_shines_52
      · have hc1 := c1
        have q1 := q_nle hc1
        refine lv_aload_n hx hb dX10_shines_8 rfl (lv_at hl 1 rfl) ?_
        refine m_getr (1000) 50 (1050) hx hb hts hown hE oc10 hM hJ.1 rfl (by decide) rfl (hJ.2 50 (by decide)).2 (by decide) tb_1227 dX10_shines_9 ?_
        refine lv_iload_n hx hb dX10_shines_12 rfl (lv_at hl 0 rfl) ?_
        refine lv_iconst (v := (0)) hx hb dX10_shines_13 (by decide) ?_
        refine m_iast (1050) hx hb hE hM hS (hJ.2 50 (by decide)).1 rfl (vp_in_iff.mpr (by omega)) dX10_shines_14 (fun H locs I8 eI8 hM hS => ?_)
        subst eI8
        have hI := hI.putF (n := 1050) (k := ((x2_2).toNatClampNeg)) (v := 0) rfl
        have hK := hK.put (n := 1050) (k := ((x2_2).toNatClampNeg)) (v := 0) (by first | rfl | simp [inR])
        obtain ⟨v9, ev9⟩ : ∃ z : Int32, z = x2_2 + Int32.ofInt (1) := ⟨_, rfl⟩
        have tv9 := a_inc ev9 (by decide) (by omega) (by omega)
        refine lv_iinc (v := v9) (lv' := [(2, .int (v9)), (0, .ref (ad (1000))), (1, .int (a0))]) hx hb dX10_shines_15 hl (k := 0) rfl ev9.symm (by decide) rfl (fun ls hl => ?_)
        refine lv_goto (tgt := 2) hx hb dX10_shines_18 (by decide) ?_
        exact ih2 (v9) (u2 Ia2 (1050) ((x2_2).toNatClampNeg) (0)) La2 _ _ ls hI hK (by first | omega | decide) (by omega) hM hS (lv_sub hl [0, 1, 2] rfl)
  exact loop2 (_ + 1) (0) I L _ _ ls hI hK (by first | omega | decide) (Nat.lt_succ_self _) hM hS (lv_sub hl [0, 1, 2] rfl)
theorem dX10_follows_0 : decode cX10_follows 0 = .ok (.iconst 0, 1) := by decide +kernel
theorem dX10_follows_1 : decode cX10_follows 1 = .ok (.istore_n 2, 1) := by decide +kernel
theorem dX10_follows_2 : decode cX10_follows 2 = .ok (.iload_n 2, 1) := by decide +kernel
theorem dX10_follows_3 : decode cX10_follows 3 = .ok (.bipush 24, 2) := by decide +kernel
theorem dX10_follows_5 : decode cX10_follows 5 = .ok (.if_icmp .ge 30, 3) := by decide +kernel
theorem dX10_follows_8 : decode cX10_follows 8 = .ok (.aload_n 0, 1) := by decide +kernel
theorem dX10_follows_9 : decode cX10_follows 9 = .ok (.getfield 139, 3) := by decide +kernel
theorem dX10_follows_12 : decode cX10_follows 12 = .ok (.iload_n 2, 1) := by decide +kernel
theorem dX10_follows_13 : decode cX10_follows 13 = .ok (.iconst 0, 1) := by decide +kernel
theorem dX10_follows_14 : decode cX10_follows 14 = .ok (.bastore, 1) := by decide +kernel
theorem dX10_follows_15 : decode cX10_follows 15 = .ok (.aload_n 0, 1) := by decide +kernel
theorem dX10_follows_16 : decode cX10_follows 16 = .ok (.getfield 146, 3) := by decide +kernel
theorem dX10_follows_19 : decode cX10_follows 19 = .ok (.iload_n 2, 1) := by decide +kernel
theorem dX10_follows_20 : decode cX10_follows 20 = .ok (.iconst 0, 1) := by decide +kernel
theorem dX10_follows_21 : decode cX10_follows 21 = .ok (.iastore, 1) := by decide +kernel
theorem dX10_follows_22 : decode cX10_follows 22 = .ok (.aload_n 0, 1) := by decide +kernel
theorem dX10_follows_23 : decode cX10_follows 23 = .ok (.getfield 149, 3) := by decide +kernel
theorem dX10_follows_26 : decode cX10_follows 26 = .ok (.iload_n 2, 1) := by decide +kernel
theorem dX10_follows_27 : decode cX10_follows 27 = .ok (.iconst 0, 1) := by decide +kernel
theorem dX10_follows_28 : decode cX10_follows 28 = .ok (.iastore, 1) := by decide +kernel
theorem dX10_follows_29 : decode cX10_follows 29 = .ok (.iinc 2 1, 3) := by decide +kernel
theorem dX10_follows_32 : decode cX10_follows 32 = .ok (.goto (-30), 3) := by decide +kernel
theorem dX10_follows_35 : decode cX10_follows 35 = .ok (.aload_n 0, 1) := by decide +kernel
theorem dX10_follows_36 : decode cX10_follows 36 = .ok (.iconst 0, 1) := by decide +kernel
theorem dX10_follows_37 : decode cX10_follows 37 = .ok (.putfield 401, 3) := by decide +kernel
theorem dX10_follows_40 : decode cX10_follows 40 = .ok (.aload_n 0, 1) := by decide +kernel
theorem dX10_follows_41 : decode cX10_follows 41 = .ok (.iconst 1, 1) := by decide +kernel
theorem dX10_follows_42 : decode cX10_follows 42 = .ok (.putfield 397, 3) := by decide +kernel
theorem dX10_follows_45 : decode cX10_follows 45 = .ok (.aload_n 0, 1) := by decide +kernel
theorem dX10_follows_46 : decode cX10_follows 46 = .ok (.iload_n 1, 1) := by decide +kernel
theorem dX10_follows_47 : decode cX10_follows 47 = .ok (.invokevirtual 404, 3) := by decide +kernel
theorem dX10_follows_50 : decode cX10_follows 50 = .ok (.return_, 1) := by decide +kernel
theorem ce_X10_follows : CeV RX10 yX10_follows cX10_follows 3 none 1 := ⟨tb_1796, tp_106, tb_11, tb_1797, rfl, by decide, by decide, by decide +kernel⟩
set_option maxHeartbeats 4000000 in
set_option maxRecDepth 20000 in
theorem V_X10_follows (l : Launch) (D : va_G) (A : Nat → Prop) (ad : Nat → Nat) (ns : List Nat) (I : MI) (L : ML) (G : MG) (a0 : Int32) (hJ : SGM ns G) (hI : INV I) (ha0 : 0 ≤ a0.toInt ∧ a0.toInt ≤ 23) : Met l yX10_follows (wd yX10_follows cX10_follows 3 none) ({ frames := 5, cells := 0, slots := 0, locals := 128 }) (va_Pc [.ref (ad (1000)), .int a0] (PM D A ad ns I L G)) (va_Qv (fun u => ∃ I2 L2, u = (ad, ns, I2, L2, G) ∧ INV I2 ∧ Kp [(1045, 1051), (1058, 1059), (1061, 1063)] [(1000, 51), (1000, 52), (1000, 53), (1000, 54), (1000, 55), (1000, 56), (1000, 59), (1000, 63)] I I2) (BM D A) A) 0 0 A := by
  refine m_ofW (by decide) (Nat.le_of_ble_eq_true rfl) ?_
  intro p e s m below meth c ls args hC hE hM hA hS hl
  obtain ⟨hx, hb, hml, hown, hts, hr, hlocks, hin⟩ := hC
  have k0 : (0 : Int32).toInt = 0 := by decide
  have k1 : (1 : Int32).toInt = 1 := by decide
  have k24 : (24 : Int32).toInt = 24 := by decide
  have hK : Kp [(1045, 1051), (1058, 1059), (1061, 1063)] [(1000, 51), (1000, 52), (1000, 53), (1000, 54), (1000, 55), (1000, 56), (1000, 59), (1000, 63)] I I := Kp.rf
  have hl : lv_has ls 3 [(0, .ref (ad (1000))), (1, .int (a0))] := hl
  refine lv_iconst (v := (0)) hx hb dX10_follows_0 (by decide) ?_
  refine lv_istore_n (lv' := [(2, .int (0)), (0, .ref (ad (1000))), (1, .int (a0))]) hx hb dX10_follows_1 rfl hl (by decide) rfl (fun ls hl => ?_)
  have loop2 : ∀ (n : Nat) (x2_2 : Int32) (Ia2 : MI) (La2 : ML) (H : Heap) (locs : List Loc) (ls : Array Slot), INV Ia2 → Kp [(1045, 1051), (1058, 1059), (1061, 1063)] [(1000, 51), (1000, 52), (1000, 53), (1000, 54), (1000, 55), (1000, 56), (1000, 59), (1000, 63)] I Ia2 → (0 ≤ x2_2.toInt ∧ x2_2.toInt ≤ 24) → (24 - x2_2.toInt).toNat < n → Mem D A ad ns Ia2 La2 G H → va_S A s.heap H locs → lv_has ls 3 [(2, .int (x2_2)), (0, .ref (ad (1000))), (1, .int (a0))] → W p l e ({ frames := 5, cells := 0, slots := 0, locals := 128 } : Room) s m args below meth c H locs 0 0 (MQ below (va_Qv (fun u => ∃ I2 L2, u = (ad, ns, I2, L2, G) ∧ INV I2 ∧ Kp [(1045, 1051), (1058, 1059), (1061, 1063)] [(1000, 51), (1000, 52), (1000, 53), (1000, 54), (1000, 55), (1000, 56), (1000, 59), (1000, 63)] I I2) (BM D A) A) args s 0 0 A) (F0 m 2 ls []) := by
    intro n
    induction n with
    | zero =>
      intro x2_2 Ia2 La2 H locs ls hI hK hr2_2 hmu
      exact absurd hmu (Nat.not_lt_zero _)
    | succ n ih2 =>
      intro x2_2 Ia2 La2 H locs ls hI hK hr2_2 hmu2 hM hS hl
      refine lv_iload_n hx hb dX10_follows_2 rfl (lv_at hl 0 rfl) ?_
      refine lv_bipush (v := (24)) hx hb dX10_follows_3 (by decide) ?_
      refine lv_icmp_ge (tgt := 35) hx hb dX10_follows_5 (by decide) (fun c1 => ?_) (fun c1 => ?_)
      · have hc1 := c1
        have q1 := q_le hc1
        refine lv_aload_n hx hb dX10_follows_35 rfl (lv_at hl 1 rfl) ?_
        refine lv_iconst (v := (0)) hx hb dX10_follows_36 (by decide) ?_
        refine m_puti (1000) 63 hx hb hts hown hE oc10 hM hS hJ.1 rfl (by decide) rfl rfl rfl rfl tb_1240 dX10_follows_37 (fun H locs I2 eI2 hM hS => ?_)
        subst eI2
        have hI := hI.putF (n := 1000) (k := 63) (v := 0) rfl
        have hK := hK.put (n := 1000) (k := 63) (v := 0) (by first | rfl | simp [inR])
        refine lv_aload_n hx hb dX10_follows_40 rfl (lv_at hl 1 rfl) ?_
        refine lv_iconst (v := (1)) hx hb dX10_follows_41 (by decide) ?_
        refine m_puti (1000) 59 hx hb hts hown hE oc10 hM hS hJ.1 rfl (by decide) rfl rfl rfl rfl tb_1236 dX10_follows_42 (fun H locs I3 eI3 hM hS => ?_)
        subst eI3
        have hI := hI.put (n := 1000) (k := 59) (v := 1) (lo := 0) (hi := 1) rfl (by first | omega | decide)
        have hK := hK.put (n := 1000) (k := 59) (v := 1) (by first | rfl | simp [inR])
        refine lv_aload_n hx hb dX10_follows_45 rfl (lv_at hl 1 rfl) ?_
        refine lv_iload_n hx hb dX10_follows_46 rfl (lv_at hl 2 rfl) ?_
        refine m_callv (m_runV (1000) (As := [.int (a0)]) (rest := []) hx hb hml hown hts hE hM hS hA ce_X10_shines tb_1640 (V_X10_shines l D A ad ns (u2 (u2 Ia2 (1000) 63 (0)) (1000) 59 (1)) La2 G (a0) hJ hI (by first | omega | decide)) rfl rfl ⟨Nat.le_of_ble_eq_true rfl, Nat.le_of_ble_eq_true rfl⟩ hJ.1 rfl rfl (by decide) rfl hl.1 rfl (Nat.le_of_ble_eq_true rfl) dX10_follows_47 ⟨Nat.le_of_ble_eq_true rfl, Nat.le_of_ble_eq_true rfl⟩) hS (fun u H locs hw hM hS => ?_)
        obtain ⟨I4, L5, rfl, hI, hkI4⟩ := hw
        have hM : Mem D A ad ns I4 L5 G H := hM
        have hK := hK.trans hkI4 rfl
        exact m_vret hx hb hr hlocks hM hS (Nat.le_of_ble_eq_true rfl) (Nat.le_of_ble_eq_true rfl) ⟨_, _, rfl, hI, hK⟩ dX10_follows_50
      · have hc1 := c1
        have q1 := q_nle hc1
        refine lv_aload_n hx hb dX10_follows_8 rfl (lv_at hl 1 rfl) ?_
        refine m_getr (1000) 58 (1058) hx hb hts hown hE oc10 hM hJ.1 rfl (by decide) rfl (hJ.2 58 (by decide)).2 (by decide) tb_1235 dX10_follows_9 ?_
        refine lv_iload_n hx hb dX10_follows_12 rfl (lv_at hl 0 rfl) ?_
        refine lv_iconst (v := (0)) hx hb dX10_follows_13 (by decide) ?_
        refine m_zast (1058) hx hb hE hM hS (hJ.2 58 (by decide)).1 rfl (vp_in_iff.mpr (by omega)) dX10_follows_14 (fun H locs I6 eI6 hM hS => ?_)
        subst eI6
        have hI := hI.put (n := 1058) (k := ((x2_2).toNatClampNeg)) (v := vp_nar .boolean (0)) (lo := 0) (hi := 1) rfl (nar_bool _)
        have hK := hK.put (n := 1058) (k := ((x2_2).toNatClampNeg)) (v := vp_nar .boolean (0)) (by first | rfl | simp [inR])
        refine lv_aload_n hx hb dX10_follows_15 rfl (lv_at hl 1 rfl) ?_
        refine m_getr (1000) 61 (1061) hx hb hts hown hE oc10 hM hJ.1 rfl (by decide) rfl (hJ.2 61 (by decide)).2 (by decide) tb_1238 dX10_follows_16 ?_
        refine lv_iload_n hx hb dX10_follows_19 rfl (lv_at hl 0 rfl) ?_
        refine lv_iconst (v := (0)) hx hb dX10_follows_20 (by decide) ?_
        refine m_iast (1061) hx hb hE hM hS (hJ.2 61 (by decide)).1 rfl (vp_in_iff.mpr (by omega)) dX10_follows_21 (fun H locs I7 eI7 hM hS => ?_)
        subst eI7
        have hI := hI.putF (n := 1061) (k := ((x2_2).toNatClampNeg)) (v := 0) rfl
        have hK := hK.put (n := 1061) (k := ((x2_2).toNatClampNeg)) (v := 0) (by first | rfl | simp [inR])
        refine lv_aload_n hx hb dX10_follows_22 rfl (lv_at hl 1 rfl) ?_
        refine m_getr (1000) 62 (1062) hx hb hts hown hE oc10 hM hJ.1 rfl (by decide) rfl (hJ.2 62 (by decide)).2 (by decide) tb_1239 dX10_follows_23 ?_
        refine lv_iload_n hx hb dX10_follows_26 rfl (lv_at hl 0 rfl) ?_
        refine lv_iconst (v := (0)) hx hb dX10_follows_27 (by decide) ?_
        refine m_iast (1062) hx hb hE hM hS (hJ.2 62 (by decide)).1 rfl (vp_in_iff.mpr (by omega)) dX10_follows_28 (fun H locs I8 eI8 hM hS => ?_)
        subst eI8
        have hI := hI.putF (n := 1062) (k := ((x2_2).toNatClampNeg)) (v := 0) rfl
        have hK := hK.put (n := 1062) (k := ((x2_2).toNatClampNeg)) (v := 0) (by first | rfl | simp [inR])
        obtain ⟨v9, ev9⟩ : ∃ z : Int32, z = x2_2 + Int32.ofInt (1) := ⟨_, rfl⟩
        have tv9 := a_inc ev9 (by decide) (by omega) (by omega)
        refine lv_iinc (v := v9) (lv' := [(2, .int (v9)), (0, .ref (ad (1000))), (1, .int (a0))]) hx hb dX10_follows_29 hl (k := 0) rfl ev9.symm (by decide) rfl (fun ls hl => ?_)
        refine lv_goto (tgt := 2) hx hb dX10_follows_32 (by decide) ?_
        exact ih2 (v9) (u2 (u2 (u2 Ia2 (1058) ((x2_2).toNatClampNeg) (vp_nar .boolean (0))) (1061) ((x2_2).toNatClampNeg) (0)) (1062) ((x2_2).toNatClampNeg) (0)) La2 _ _ ls hI hK (by first | omega | decide) (by omega) hM hS (lv_sub hl [0, 1, 2] rfl)
  exact loop2 (_ + 1) (0) I L _ _ ls hI hK (by first | omega | decide) (Nat.lt_succ_self _) hM hS (lv_sub hl [0, 1, 2] rfl)
theorem dX10_allGot_0 : decode cX10_allGot 0 = .ok (.iconst 0, 1) := by decide +kernel
theorem dX10_allGot_1 : decode cX10_allGot 1 = .ok (.istore_n 1, 1) := by decide +kernel
theorem dX10_allGot_2 : decode cX10_allGot 2 = .ok (.iconst 0, 1) := by decide +kernel
theorem dX10_allGot_3 : decode cX10_allGot 3 = .ok (.istore_n 2, 1) := by decide +kernel
theorem dX10_allGot_4 : decode cX10_allGot 4 = .ok (.iload_n 2, 1) := by decide +kernel
theorem dX10_allGot_5 : decode cX10_allGot 5 = .ok (.aload_n 0, 1) := by decide +kernel
theorem dX10_allGot_6 : decode cX10_allGot 6 = .ok (.getfield 7, 3) := by decide +kernel
theorem dX10_allGot_9 : decode cX10_allGot 9 = .ok (.bipush 9, 2) := by decide +kernel
theorem dX10_allGot_11 : decode cX10_allGot 11 = .ok (.iaload, 1) := by decide +kernel
theorem dX10_allGot_12 : decode cX10_allGot 12 = .ok (.if_icmp .ge 18, 3) := by decide +kernel
theorem dX10_allGot_15 : decode cX10_allGot 15 = .ok (.iload_n 1, 1) := by decide +kernel
theorem dX10_allGot_16 : decode cX10_allGot 16 = .ok (.aload_n 0, 1) := by decide +kernel
theorem dX10_allGot_17 : decode cX10_allGot 17 = .ok (.getfield 133, 3) := by decide +kernel
theorem dX10_allGot_20 : decode cX10_allGot 20 = .ok (.iload_n 2, 1) := by decide +kernel
theorem dX10_allGot_21 : decode cX10_allGot 21 = .ok (.iaload, 1) := by decide +kernel
theorem dX10_allGot_22 : decode cX10_allGot 22 = .ok (.iadd, 1) := by decide +kernel
theorem dX10_allGot_23 : decode cX10_allGot 23 = .ok (.istore_n 1, 1) := by decide +kernel
theorem dX10_allGot_24 : decode cX10_allGot 24 = .ok (.iinc 2 1, 3) := by decide +kernel
theorem dX10_allGot_27 : decode cX10_allGot 27 = .ok (.goto (-23), 3) := by decide +kernel
theorem dX10_allGot_30 : decode cX10_allGot 30 = .ok (.iload_n 1, 1) := by decide +kernel
theorem dX10_allGot_31 : decode cX10_allGot 31 = .ok (.ireturn, 1) := by decide +kernel
theorem ce_X10_allGot : CeV RX10 yX10_allGot cX10_allGot 3 (some .int) 0 := ⟨tb_1709, tp_96, tb_11, tb_1710, rfl, by decide, by decide, by decide +kernel⟩
set_option maxHeartbeats 4000000 in
set_option maxRecDepth 20000 in
theorem V_X10_allGot (l : Launch) (D : va_G) (A : Nat → Prop) (ad : Nat → Nat) (ns : List Nat) (I : MI) (L : ML) (G : MG) (hJ : SGM ns G) (hI : INV I) : Met l yX10_allGot (wd yX10_allGot cX10_allGot 3 (some .int)) ({ frames := 0, cells := 0, slots := 0, locals := 0 }) (va_Pc [.ref (ad (1000))] (PM D A ad ns I L G)) (va_Qi (fun r u => u = (ad, ns, I, L, G) ∧ (True)) (BM D A) A) 0 0 A := by
  refine m_ofW (by decide) (Nat.le_of_ble_eq_true rfl) ?_
  intro p e s m below meth c ls args hC hE hM hA hS hl
  obtain ⟨hx, hb, hml, hown, hts, hr, hlocks, hin⟩ := hC
  have k0 : (0 : Int32).toInt = 0 := by decide
  have k9 : (9 : Int32).toInt = 9 := by decide
  have hl : lv_has ls 3 [(0, .ref (ad (1000)))] := hl
  refine lv_iconst (v := (0)) hx hb dX10_allGot_0 (by decide) ?_
  refine lv_istore_n (lv' := [(1, .int (0)), (0, .ref (ad (1000)))]) hx hb dX10_allGot_1 rfl hl (by decide) rfl (fun ls hl => ?_)
  refine lv_iconst (v := (0)) hx hb dX10_allGot_2 (by decide) ?_
  refine lv_istore_n (lv' := [(2, .int (0)), (1, .int (0)), (0, .ref (ad (1000)))]) hx hb dX10_allGot_3 rfl hl (by decide) rfl (fun ls hl => ?_)
  have loop4 : ∀ (n : Nat) (x2_4 : Int32) (x1_4 : Int32) (H : Heap) (locs : List Loc) (ls : Array Slot), (0 ≤ x2_4.toInt ∧ x2_4.toInt ≤ 8) → (8 - x2_4.toInt).toNat < n → Mem D A ad ns I L G H → va_S A s.heap H locs → lv_has ls 3 [(2, .int (x2_4)), (1, .int (x1_4)), (0, .ref (ad (1000)))] → W p l e ({ frames := 0, cells := 0, slots := 0, locals := 0 } : Room) s m args below meth c H locs 0 0 (MQ below (va_Qi (fun r u => u = (ad, ns, I, L, G) ∧ (True)) (BM D A) A) args s 0 0 A) (F0 m 4 ls []) := by
    intro n
    induction n with
    | zero =>
      intro x2_4 x1_4 H locs ls hr2_4 hmu
      exact absurd hmu (Nat.not_lt_zero _)
    | succ n ih4 =>
      intro x2_4 x1_4 H locs ls hr2_4 hmu4 hM hS hl
      refine lv_iload_n hx hb dX10_allGot_4 rfl (lv_at hl 0 rfl) ?_
      refine lv_aload_n hx hb dX10_allGot_5 rfl (lv_at hl 2 rfl) ?_
      refine m_getr (1000) 1 (1001) hx hb hts hown hE oc10 hM hJ.1 rfl (by decide) rfl (hJ.2 1 (by decide)).2 (by decide) tb_1178 dX10_allGot_6 ?_
      refine lv_bipush (v := (9)) hx hb dX10_allGot_9 (by decide) ?_
      refine m_iald (1001) hx hb hE hM (hJ.2 1 (by decide)).1 rfl (vp_in_iff.mpr (by decide)) dX10_allGot_11 ?_
      rw [show (9 : Int32).toNatClampNeg = 9 from rfl]
      have g1 := hI.get (1001) 9 (lo := 0) (hi := 8) rfl
      refine lv_icmp_ge (tgt := 30) hx hb dX10_allGot_12 (by decide) (fun c2 => ?_) (fun c2 => ?_)
      · have hc2 := c2
        have q2 := q_le hc2
        refine lv_iload_n hx hb dX10_allGot_30 rfl (lv_at hl 1 rfl) ?_
        exact m_iret hx hb hr hlocks hM hS (Nat.le_of_ble_eq_true rfl) (Nat.le_of_ble_eq_true rfl) ⟨rfl, trivial⟩ dX10_allGot_31
      · have hc2 := c2
        have q2 := q_nle hc2
        refine lv_iload_n hx hb dX10_allGot_15 rfl (lv_at hl 1 rfl) ?_
        refine lv_aload_n hx hb dX10_allGot_16 rfl (lv_at hl 2 rfl) ?_
        refine m_getr (1000) 50 (1050) hx hb hts hown hE oc10 hM hJ.1 rfl (by decide) rfl (hJ.2 50 (by decide)).2 (by decide) tb_1227 dX10_allGot_17 ?_
        refine lv_iload_n hx hb dX10_allGot_20 rfl (lv_at hl 0 rfl) ?_
        refine m_iald (1050) hx hb hE hM (hJ.2 50 (by decide)).1 rfl (vp_in_iff.mpr (by omega)) dX10_allGot_21 ?_
        refine lv_iadd hx hb dX10_allGot_22 ?_
        refine lv_topi (fun v3 ev3 => ?_)
        refine lv_istore_n (lv' := [(1, .int (v3)), (2, .int (x2_4)), (0, .ref (ad (1000)))]) hx hb dX10_allGot_23 rfl hl (by decide) rfl (fun ls hl => ?_)
        obtain ⟨v4, ev4⟩ : ∃ z : Int32, z = x2_4 + Int32.ofInt (1) := ⟨_, rfl⟩
        have tv4 := a_inc ev4 (by decide) (by omega) (by omega)
        refine lv_iinc (v := v4) (lv' := [(2, .int (v4)), (1, .int (v3)), (0, .ref (ad (1000)))]) hx hb dX10_allGot_24 hl (k := 1) rfl ev4.symm (by decide) rfl (fun ls hl => ?_)
        refine lv_goto (tgt := 4) hx hb dX10_allGot_27 (by decide) ?_
        exact ih4 (v4) (v3) _ _ ls (by first | omega | decide) (by omega) hM hS (lv_sub hl [0, 1, 2] rfl)
  exact loop4 (_ + 1) (0) (0) _ _ ls (by first | omega | decide) (Nat.lt_succ_self _) hM hS (lv_sub hl [0, 1, 2] rfl)
theorem dX10_blindCells_0 : decode cX10_blindCells 0 = .ok (.iconst 0, 1) := by decide +kernel
theorem dX10_blindCells_1 : decode cX10_blindCells 1 = .ok (.istore_n 1, 1) := by decide +kernel
theorem dX10_blindCells_2 : decode cX10_blindCells 2 = .ok (.iconst 0, 1) := by decide +kernel
theorem dX10_blindCells_3 : decode cX10_blindCells 3 = .ok (.istore_n 2, 1) := by decide +kernel
theorem dX10_blindCells_4 : decode cX10_blindCells 4 = .ok (.iload_n 2, 1) := by decide +kernel
theorem dX10_blindCells_5 : decode cX10_blindCells 5 = .ok (.sipush 576, 3) := by decide +kernel
theorem dX10_blindCells_8 : decode cX10_blindCells 8 = .ok (.if_icmp .ge 42, 3) := by decide +kernel
theorem dX10_blindCells_11 : decode cX10_blindCells 11 = .ok (.iload_n 1, 1) := by decide +kernel
theorem dX10_blindCells_12 : decode cX10_blindCells 12 = .ok (.aload_n 0, 1) := by decide +kernel
theorem dX10_blindCells_13 : decode cX10_blindCells 13 = .ok (.getfield 16, 3) := by decide +kernel
theorem dX10_blindCells_16 : decode cX10_blindCells 16 = .ok (.iload_n 2, 1) := by decide +kernel
theorem dX10_blindCells_17 : decode cX10_blindCells 17 = .ok (.iaload, 1) := by decide +kernel
theorem dX10_blindCells_18 : decode cX10_blindCells 18 = .ok (.iconst (-1), 1) := by decide +kernel
theorem dX10_blindCells_19 : decode cX10_blindCells 19 = .ok (.if_icmp .eq 22, 3) := by decide +kernel
theorem dX10_blindCells_22 : decode cX10_blindCells 22 = .ok (.aload_n 0, 1) := by decide +kernel
theorem dX10_blindCells_23 : decode cX10_blindCells 23 = .ok (.getfield 130, 3) := by decide +kernel
theorem dX10_blindCells_26 : decode cX10_blindCells 26 = .ok (.iload_n 2, 1) := by decide +kernel
theorem dX10_blindCells_27 : decode cX10_blindCells 27 = .ok (.iaload, 1) := by decide +kernel
theorem dX10_blindCells_28 : decode cX10_blindCells 28 = .ok (.aload_n 0, 1) := by decide +kernel
theorem dX10_blindCells_29 : decode cX10_blindCells 29 = .ok (.getfield 16, 3) := by decide +kernel
theorem dX10_blindCells_32 : decode cX10_blindCells 32 = .ok (.iload_n 2, 1) := by decide +kernel
theorem dX10_blindCells_33 : decode cX10_blindCells 33 = .ok (.iaload, 1) := by decide +kernel
theorem dX10_blindCells_34 : decode cX10_blindCells 34 = .ok (.if_icmp .le 7, 3) := by decide +kernel
theorem dX10_blindCells_37 : decode cX10_blindCells 37 = .ok (.iconst 1, 1) := by decide +kernel
theorem dX10_blindCells_38 : decode cX10_blindCells 38 = .ok (.goto 4, 3) := by decide +kernel
theorem dX10_blindCells_41 : decode cX10_blindCells 41 = .ok (.iconst 0, 1) := by decide +kernel
theorem dX10_blindCells_42 : decode cX10_blindCells 42 = .ok (.iadd, 1) := by decide +kernel
theorem dX10_blindCells_43 : decode cX10_blindCells 43 = .ok (.istore_n 1, 1) := by decide +kernel
theorem dX10_blindCells_44 : decode cX10_blindCells 44 = .ok (.iinc 2 1, 3) := by decide +kernel
theorem dX10_blindCells_47 : decode cX10_blindCells 47 = .ok (.goto (-43), 3) := by decide +kernel
theorem dX10_blindCells_50 : decode cX10_blindCells 50 = .ok (.iload_n 1, 1) := by decide +kernel
theorem dX10_blindCells_51 : decode cX10_blindCells 51 = .ok (.ireturn, 1) := by decide +kernel
theorem ce_X10_blindCells : CeV RX10 yX10_blindCells cX10_blindCells 3 (some .int) 0 := ⟨tb_1672, tp_92, tb_11, tb_1673, rfl, by decide, by decide, by decide +kernel⟩
set_option maxHeartbeats 4000000 in
set_option maxRecDepth 20000 in
theorem V_X10_blindCells (l : Launch) (D : va_G) (A : Nat → Prop) (ad : Nat → Nat) (ns : List Nat) (I : MI) (L : ML) (G : MG) (hJ : SGM ns G) (hI : INV I) : Met l yX10_blindCells (wd yX10_blindCells cX10_blindCells 3 (some .int)) ({ frames := 0, cells := 0, slots := 0, locals := 0 }) (va_Pc [.ref (ad (1000))] (PM D A ad ns I L G)) (va_Qi (fun r u => u = (ad, ns, I, L, G) ∧ (True)) (BM D A) A) 0 0 A := by
  refine m_ofW (by decide) (Nat.le_of_ble_eq_true rfl) ?_
  intro p e s m below meth c ls args hC hE hM hA hS hl
  obtain ⟨hx, hb, hml, hown, hts, hr, hlocks, hin⟩ := hC
  have km1 : (-1 : Int32).toInt = -1 := by decide
  have k0 : (0 : Int32).toInt = 0 := by decide
  have k1 : (1 : Int32).toInt = 1 := by decide
  have k576 : (576 : Int32).toInt = 576 := by decide
  have hl : lv_has ls 3 [(0, .ref (ad (1000)))] := hl
  refine lv_iconst (v := (0)) hx hb dX10_blindCells_0 (by decide) ?_
  refine lv_istore_n (lv' := [(1, .int (0)), (0, .ref (ad (1000)))]) hx hb dX10_blindCells_1 rfl hl (by decide) rfl (fun ls hl => ?_)
  refine lv_iconst (v := (0)) hx hb dX10_blindCells_2 (by decide) ?_
  refine lv_istore_n (lv' := [(2, .int (0)), (1, .int (0)), (0, .ref (ad (1000)))]) hx hb dX10_blindCells_3 rfl hl (by decide) rfl (fun ls hl => ?_)
  have loop4 : ∀ (n : Nat) (x2_4 : Int32) (x1_4 : Int32) (H : Heap) (locs : List Loc) (ls : Array Slot), (0 ≤ x2_4.toInt ∧ x2_4.toInt ≤ 576) → (576 - x2_4.toInt).toNat < n → Mem D A ad ns I L G H → va_S A s.heap H locs → lv_has ls 3 [(2, .int (x2_4)), (1, .int (x1_4)), (0, .ref (ad (1000)))] → W p l e ({ frames := 0, cells := 0, slots := 0, locals := 0 } : Room) s m args below meth c H locs 0 0 (MQ below (va_Qi (fun r u => u = (ad, ns, I, L, G) ∧ (True)) (BM D A) A) args s 0 0 A) (F0 m 4 ls []) := by
    intro n
    induction n with
    | zero =>
      intro x2_4 x1_4 H locs ls hr2_4 hmu
      exact absurd hmu (Nat.not_lt_zero _)
    | succ n ih4 =>
      intro x2_4 x1_4 H locs ls hr2_4 hmu4 hM hS hl
      refine lv_iload_n hx hb dX10_blindCells_4 rfl (lv_at hl 0 rfl) ?_
      refine lv_sipush (v := (576)) hx hb dX10_blindCells_5 (by decide) ?_
      refine lv_icmp_ge (tgt := 50) hx hb dX10_blindCells_8 (by decide) (fun c1 => ?_) (fun c1 => ?_)
      · have hc1 := c1
        have q1 := q_le hc1
        refine lv_iload_n hx hb dX10_blindCells_50 rfl (lv_at hl 1 rfl) ?_
        exact m_iret hx hb hr hlocks hM hS (Nat.le_of_ble_eq_true rfl) (Nat.le_of_ble_eq_true rfl) ⟨rfl, trivial⟩ dX10_blindCells_51
      · have hc1 := c1
        have q1 := q_nle hc1
        refine lv_iload_n hx hb dX10_blindCells_11 rfl (lv_at hl 1 rfl) ?_
        refine lv_aload_n hx hb dX10_blindCells_12 rfl (lv_at hl 2 rfl) ?_
        refine m_getr (1000) 3 (1003) hx hb hts hown hE oc10 hM hJ.1 rfl (by decide) rfl (hJ.2 3 (by decide)).2 (by decide) tb_1180 dX10_blindCells_13 ?_
        refine lv_iload_n hx hb dX10_blindCells_16 rfl (lv_at hl 0 rfl) ?_
        refine m_iald (1003) hx hb hE hM (hJ.2 3 (by decide)).1 rfl (vp_in_iff.mpr (by omega)) dX10_blindCells_17 ?_
        refine lv_iconst (v := (-1)) hx hb dX10_blindCells_18 (by decide) ?_
        refine lv_icmp_eq (tgt := 41) hx hb dX10_blindCells_19 (by decide) (fun c2 => ?_) (fun c2 => ?_)
        · have hc2 := c2
          have q2 := q_eq hc2
          refine lv_iconst (v := (0)) hx hb dX10_blindCells_41 (by decide) ?_
          refine lv_iadd hx hb dX10_blindCells_42 ?_
          refine lv_topi (fun v3 ev3 => ?_)
          refine lv_istore_n (lv' := [(1, .int (v3)), (2, .int (x2_4)), (0, .ref (ad (1000)))]) hx hb dX10_blindCells_43 rfl hl (by decide) rfl (fun ls hl => ?_)
          obtain ⟨v4, ev4⟩ : ∃ z : Int32, z = x2_4 + Int32.ofInt (1) := ⟨_, rfl⟩
          have tv4 := a_inc ev4 (by decide) (by omega) (by omega)
          refine lv_iinc (v := v4) (lv' := [(2, .int (v4)), (1, .int (v3)), (0, .ref (ad (1000)))]) hx hb dX10_blindCells_44 hl (k := 1) rfl ev4.symm (by decide) rfl (fun ls hl => ?_)
          refine lv_goto (tgt := 4) hx hb dX10_blindCells_47 (by decide) ?_
          exact ih4 (v4) (v3) _ _ ls (by first | omega | decide) (by omega) hM hS (lv_sub hl [0, 1, 2] rfl)
        · have hc2 := c2
          have q2 := q_ne hc2
          refine lv_aload_n hx hb dX10_blindCells_22 rfl (lv_at hl 2 rfl) ?_
          refine m_getr (1000) 49 (1049) hx hb hts hown hE oc10 hM hJ.1 rfl (by decide) rfl (hJ.2 49 (by decide)).2 (by decide) tb_1226 dX10_blindCells_23 ?_
          refine lv_iload_n hx hb dX10_blindCells_26 rfl (lv_at hl 0 rfl) ?_
          refine m_iald (1049) hx hb hE hM (hJ.2 49 (by decide)).1 rfl (vp_in_iff.mpr (by omega)) dX10_blindCells_27 ?_
          refine lv_aload_n hx hb dX10_blindCells_28 rfl (lv_at hl 2 rfl) ?_
          refine m_getr (1000) 3 (1003) hx hb hts hown hE oc10 hM hJ.1 rfl (by decide) rfl (hJ.2 3 (by decide)).2 (by decide) tb_1180 dX10_blindCells_29 ?_
          refine lv_iload_n hx hb dX10_blindCells_32 rfl (lv_at hl 0 rfl) ?_
          refine m_iald (1003) hx hb hE hM (hJ.2 3 (by decide)).1 rfl (vp_in_iff.mpr (by omega)) dX10_blindCells_33 ?_
          refine lv_icmp_le (tgt := 41) hx hb dX10_blindCells_34 (by decide) (fun c5 => ?_) (fun c5 => ?_)
          · have hc5 := c5
            have q5 := q_le hc5
            refine lv_iconst (v := (0)) hx hb dX10_blindCells_41 (by decide) ?_
            refine lv_iadd hx hb dX10_blindCells_42 ?_
            refine lv_topi (fun v6 ev6 => ?_)
            refine lv_istore_n (lv' := [(1, .int (v6)), (2, .int (x2_4)), (0, .ref (ad (1000)))]) hx hb dX10_blindCells_43 rfl hl (by decide) rfl (fun ls hl => ?_)
            obtain ⟨v7, ev7⟩ : ∃ z : Int32, z = x2_4 + Int32.ofInt (1) := ⟨_, rfl⟩
            have tv7 := a_inc ev7 (by decide) (by omega) (by omega)
            refine lv_iinc (v := v7) (lv' := [(2, .int (v7)), (1, .int (v6)), (0, .ref (ad (1000)))]) hx hb dX10_blindCells_44 hl (k := 1) rfl ev7.symm (by decide) rfl (fun ls hl => ?_)
            refine lv_goto (tgt := 4) hx hb dX10_blindCells_47 (by decide) ?_
            exact ih4 (v7) (v6) _ _ ls (by first | omega | decide) (by omega) hM hS (lv_sub hl [0, 1, 2] rfl)
          · have hc5 := c5
            have q5 := q_nle hc5
            refine lv_iconst (v := (1)) hx hb dX10_blindCells_37 (by decide) ?_
            refine lv_goto (tgt := 42) hx hb dX10_blindCells_38 (by decide) ?_
            refine lv_iadd hx hb dX10_blindCells_42 ?_
            refine lv_topi (fun v8 ev8 => ?_)
            refine lv_istore_n (lv' := [(1, .int (v8)), (2, .int (x2_4)), (0, .ref (ad (1000)))]) hx hb dX10_blindCells_43 rfl hl (by decide) rfl (fun ls hl => ?_)
            obtain ⟨v9, ev9⟩ : ∃ z : Int32, z = x2_4 + Int32.ofInt (1) := ⟨_, rfl⟩
            have tv9 := a_inc ev9 (by decide) (by omega) (by omega)
            refine lv_iinc (v := v9) (lv' := [(2, .int (v9)), (1, .int (v8)), (0, .ref (ad (1000)))]) hx hb dX10_blindCells_44 hl (k := 1) rfl ev9.symm (by decide) rfl (fun ls hl => ?_)
            refine lv_goto (tgt := 4) hx hb dX10_blindCells_47 (by decide) ?_
            exact ih4 (v9) (v8) _ _ ls (by first | omega | decide) (by omega) hM hS (lv_sub hl [0, 1, 2] rfl)
  exact loop4 (_ + 1) (0) (0) _ _ ls (by first | omega | decide) (Nat.lt_succ_self _) hM hS (lv_sub hl [0, 1, 2] rfl)
theorem dX10_firstBlind_0 : decode cX10_firstBlind 0 = .ok (.iconst 0, 1) := by decide +kernel
theorem dX10_firstBlind_1 : decode cX10_firstBlind 1 = .ok (.istore_n 1, 1) := by decide +kernel
theorem dX10_firstBlind_2 : decode cX10_firstBlind 2 = .ok (.iload_n 1, 1) := by decide +kernel
theorem dX10_firstBlind_3 : decode cX10_firstBlind 3 = .ok (.sipush 576, 3) := by decide +kernel
theorem dX10_firstBlind_6 : decode cX10_firstBlind 6 = .ok (.if_icmp .ge 36, 3) := by decide +kernel
theorem dX10_firstBlind_9 : decode cX10_firstBlind 9 = .ok (.aload_n 0, 1) := by decide +kernel
theorem dX10_firstBlind_10 : decode cX10_firstBlind 10 = .ok (.getfield 16, 3) := by decide +kernel
theorem dX10_firstBlind_13 : decode cX10_firstBlind 13 = .ok (.iload_n 1, 1) := by decide +kernel
theorem dX10_firstBlind_14 : decode cX10_firstBlind 14 = .ok (.iaload, 1) := by decide +kernel
theorem dX10_firstBlind_15 : decode cX10_firstBlind 15 = .ok (.iconst (-1), 1) := by decide +kernel
theorem dX10_firstBlind_16 : decode cX10_firstBlind 16 = .ok (.if_icmp .eq 20, 3) := by decide +kernel
theorem dX10_firstBlind_19 : decode cX10_firstBlind 19 = .ok (.aload_n 0, 1) := by decide +kernel
theorem dX10_firstBlind_20 : decode cX10_firstBlind 20 = .ok (.getfield 130, 3) := by decide +kernel
theorem dX10_firstBlind_23 : decode cX10_firstBlind 23 = .ok (.iload_n 1, 1) := by decide +kernel
theorem dX10_firstBlind_24 : decode cX10_firstBlind 24 = .ok (.iaload, 1) := by decide +kernel
theorem dX10_firstBlind_25 : decode cX10_firstBlind 25 = .ok (.aload_n 0, 1) := by decide +kernel
theorem dX10_firstBlind_26 : decode cX10_firstBlind 26 = .ok (.getfield 16, 3) := by decide +kernel
theorem dX10_firstBlind_29 : decode cX10_firstBlind 29 = .ok (.iload_n 1, 1) := by decide +kernel
theorem dX10_firstBlind_30 : decode cX10_firstBlind 30 = .ok (.iaload, 1) := by decide +kernel
theorem dX10_firstBlind_31 : decode cX10_firstBlind 31 = .ok (.if_icmp .le 5, 3) := by decide +kernel
theorem dX10_firstBlind_34 : decode cX10_firstBlind 34 = .ok (.iload_n 1, 1) := by decide +kernel
theorem dX10_firstBlind_35 : decode cX10_firstBlind 35 = .ok (.ireturn, 1) := by decide +kernel
theorem dX10_firstBlind_36 : decode cX10_firstBlind 36 = .ok (.iinc 1 1, 3) := by decide +kernel
theorem dX10_firstBlind_39 : decode cX10_firstBlind 39 = .ok (.goto (-37), 3) := by decide +kernel
theorem dX10_firstBlind_42 : decode cX10_firstBlind 42 = .ok (.bipush (-2), 2) := by decide +kernel
theorem dX10_firstBlind_44 : decode cX10_firstBlind 44 = .ok (.ireturn, 1) := by decide +kernel
theorem ce_X10_firstBlind : CeV RX10 yX10_firstBlind cX10_firstBlind 2 (some .int) 0 := ⟨tb_1713, tp_97, tb_11, tb_1714, rfl, by decide, by decide, by decide +kernel⟩
set_option maxHeartbeats 4000000 in
set_option maxRecDepth 20000 in
theorem V_X10_firstBlind (l : Launch) (D : va_G) (A : Nat → Prop) (ad : Nat → Nat) (ns : List Nat) (I : MI) (L : ML) (G : MG) (hJ : SGM ns G) (hI : INV I) : Met l yX10_firstBlind (wd yX10_firstBlind cX10_firstBlind 2 (some .int)) ({ frames := 0, cells := 0, slots := 0, locals := 0 }) (va_Pc [.ref (ad (1000))] (PM D A ad ns I L G)) (va_Qi (fun r u => u = (ad, ns, I, L, G) ∧ (True)) (BM D A) A) 0 0 A := by
  refine m_ofW (by decide) (Nat.le_of_ble_eq_true rfl) ?_
  intro p e s m below meth c ls args hC hE hM hA hS hl
  obtain ⟨hx, hb, hml, hown, hts, hr, hlocks, hin⟩ := hC
  have km2 : (-2 : Int32).toInt = -2 := by decide
  have km1 : (-1 : Int32).toInt = -1 := by decide
  have k0 : (0 : Int32).toInt = 0 := by decide
  have k576 : (576 : Int32).toInt = 576 := by decide
  have hl : lv_has ls 2 [(0, .ref (ad (1000)))] := hl
  refine lv_iconst (v := (0)) hx hb dX10_firstBlind_0 (by decide) ?_
  refine lv_istore_n (lv' := [(1, .int (0)), (0, .ref (ad (1000)))]) hx hb dX10_firstBlind_1 rfl hl (by decide) rfl (fun ls hl => ?_)
  have loop2 : ∀ (n : Nat) (x1_2 : Int32) (H : Heap) (locs : List Loc) (ls : Array Slot), (0 ≤ x1_2.toInt ∧ x1_2.toInt ≤ 576) → (576 - x1_2.toInt).toNat < n → Mem D A ad ns I L G H → va_S A s.heap H locs → lv_has ls 2 [(1, .int (x1_2)), (0, .ref (ad (1000)))] → W p l e ({ frames := 0, cells := 0, slots := 0, locals := 0 } : Room) s m args below meth c H locs 0 0 (MQ below (va_Qi (fun r u => u = (ad, ns, I, L, G) ∧ (True)) (BM D A) A) args s 0 0 A) (F0 m 2 ls []) := by
    intro n
    induction n with
    | zero =>
      intro x1_2 H locs ls hr1_2 hmu
      exact absurd hmu (Nat.not_lt_zero _)
    | succ n ih2 =>
      intro x1_2 H locs ls hr1_2 hmu2 hM hS hl
      refine lv_iload_n hx hb dX10_firstBlind_2 rfl (lv_at hl 0 rfl) ?_
      refine lv_sipush (v := (576)) hx hb dX10_firstBlind_3 (by decide) ?_
      refine lv_icmp_ge (tgt := 42) hx hb dX10_firstBlind_6 (by decide) (fun c1 => ?_) (fun c1 => ?_)
      · have hc1 := c1
        have q1 := q_le hc1
        refine lv_bipush (v := (-2)) hx hb dX10_firstBlind_42 (by decide) ?_
        exact m_iret hx hb hr hlocks hM hS (Nat.le_of_ble_eq_true rfl) (Nat.le_of_ble_eq_true rfl) ⟨rfl, trivial⟩ dX10_firstBlind_44
      · have hc1 := c1
        have q1 := q_nle hc1
        refine lv_aload_n hx hb dX10_firstBlind_9 rfl (lv_at hl 1 rfl) ?_
        refine m_getr (1000) 3 (1003) hx hb hts hown hE oc10 hM hJ.1 rfl (by decide) rfl (hJ.2 3 (by decide)).2 (by decide) tb_1180 dX10_firstBlind_10 ?_
        refine lv_iload_n hx hb dX10_firstBlind_13 rfl (lv_at hl 0 rfl) ?_
        refine m_iald (1003) hx hb hE hM (hJ.2 3 (by decide)).1 rfl (vp_in_iff.mpr (by omega)) dX10_firstBlind_14 ?_
        refine lv_iconst (v := (-1)) hx hb dX10_firstBlind_15 (by decide) ?_
        refine lv_icmp_eq (tgt := 36) hx hb dX10_firstBlind_16 (by decide) (fun c2 => ?_) (fun c2 => ?_)
        · have hc2 := c2
          have q2 := q_eq hc2
          obtain ⟨v3, ev3⟩ : ∃ z : Int32, z = x1_2 + Int32.ofInt (1) := ⟨_, rfl⟩
          have tv3 := a_inc ev3 (by decide) (by omega) (by omega)
          refine lv_iinc (v := v3) (lv' := [(1, .int (v3)), (0, .ref (ad (1000)))]) hx hb dX10_firstBlind_36 hl (k := 0) rfl ev3.symm (by decide) rfl (fun ls hl => ?_)
          refine lv_goto (tgt := 2) hx hb dX10_firstBlind_39 (by decide) ?_
          exact ih2 (v3) _ _ ls (by first | omega | decide) (by omega) hM hS (lv_sub hl [0, 1] rfl)
        · have hc2 := c2
          have q2 := q_ne hc2
          refine lv_aload_n hx hb dX10_firstBlind_19 rfl (lv_at hl 1 rfl) ?_
          refine m_getr (1000) 49 (1049) hx hb hts hown hE oc10 hM hJ.1 rfl (by decide) rfl (hJ.2 49 (by decide)).2 (by decide) tb_1226 dX10_firstBlind_20 ?_
          refine lv_iload_n hx hb dX10_firstBlind_23 rfl (lv_at hl 0 rfl) ?_
          refine m_iald (1049) hx hb hE hM (hJ.2 49 (by decide)).1 rfl (vp_in_iff.mpr (by omega)) dX10_firstBlind_24 ?_
          refine lv_aload_n hx hb dX10_firstBlind_25 rfl (lv_at hl 1 rfl) ?_
          refine m_getr (1000) 3 (1003) hx hb hts hown hE oc10 hM hJ.1 rfl (by decide) rfl (hJ.2 3 (by decide)).2 (by decide) tb_1180 dX10_firstBlind_26 ?_
          refine lv_iload_n hx hb dX10_firstBlind_29 rfl (lv_at hl 0 rfl) ?_
          refine m_iald (1003) hx hb hE hM (hJ.2 3 (by decide)).1 rfl (vp_in_iff.mpr (by omega)) dX10_firstBlind_30 ?_
          refine lv_icmp_le (tgt := 36) hx hb dX10_firstBlind_31 (by decide) (fun c4 => ?_) (fun c4 => ?_)
          · have hc4 := c4
            have q4 := q_le hc4
            obtain ⟨v5, ev5⟩ : ∃ z : Int32, z = x1_2 + Int32.ofInt (1) := ⟨_, rfl⟩
            have tv5 := a_inc ev5 (by decide) (by omega) (by omega)
            refine lv_iinc (v := v5) (lv' := [(1, .int (v5)), (0, .ref (ad (1000)))]) hx hb dX10_firstBlind_36 hl (k := 0) rfl ev5.symm (by decide) rfl (fun ls hl => ?_)
            refine lv_goto (tgt := 2) hx hb dX10_firstBlind_39 (by decide) ?_
            exact ih2 (v5) _ _ ls (by first | omega | decide) (by omega) hM hS (lv_sub hl [0, 1] rfl)
          · have hc4 := c4
            have q4 := q_nle hc4
            refine lv_iload_n hx hb dX10_firstBlind_34 rfl (lv_at hl 0 rfl) ?_
            exact m_iret hx hb hr hlocks hM hS (Nat.le_of_ble_eq_true rfl) (Nat.le_of_ble_eq_true rfl) ⟨rfl, trivial⟩ dX10_firstBlind_35
  exact loop2 (_ + 1) (0) _ _ ls (by first | omega | decide) (Nat.lt_succ_self _) hM hS (lv_sub hl [0, 1] rfl)
