theorem dX3_clear_0 : decode cX3_clear 0 = .ok (.aload_n 0, 1) := by decide +kernel
theorem dX3_clear_1 : decode cX3_clear 1 = .ok (.iconst 0, 1) := by decide +kernel
theorem dX3_clear_2 : decode cX3_clear 2 = .ok (.putfield 27, 3) := by decide +kernel
theorem dX3_clear_5 : decode cX3_clear 5 = .ok (.aload_n 0, 1) := by decide +kernel
theorem dX3_clear_6 : decode cX3_clear 6 = .ok (.iconst 0, 1) := by decide +kernel
theorem dX3_clear_7 : decode cX3_clear 7 = .ok (.putfield 31, 3) := by decide +kernel
theorem dX3_clear_10 : decode cX3_clear 10 = .ok (.return_, 1) := by decide +kernel
theorem ce_X3_clear : CeV RX3 yX3_clear cX3_clear 1 none 0 := ⟨tb_570, tb_571, tb_10, tb_572, rfl, by decide, by decide, by decide +kernel⟩
theorem dX3_add_0 : decode cX3_add 0 = .ok (.aload_n 0, 1) := by decide +kernel
theorem dX3_add_1 : decode cX3_add 1 = .ok (.getfield 31, 3) := by decide +kernel
theorem dX3_add_4 : decode cX3_add 4 = .ok (.sipush 400, 3) := by decide +kernel
theorem dX3_add_7 : decode cX3_add 7 = .ok (.if_icmp .ge 23, 3) := by decide +kernel
theorem dX3_add_10 : decode cX3_add 10 = .ok (.aload_n 0, 1) := by decide +kernel
theorem dX3_add_11 : decode cX3_add 11 = .ok (.getfield 9, 3) := by decide +kernel
theorem dX3_add_14 : decode cX3_add 14 = .ok (.aload_n 0, 1) := by decide +kernel
theorem dX3_add_15 : decode cX3_add 15 = .ok (.getfield 31, 3) := by decide +kernel
theorem dX3_add_18 : decode cX3_add 18 = .ok (.iload_n 1, 1) := by decide +kernel
theorem dX3_add_19 : decode cX3_add 19 = .ok (.iastore, 1) := by decide +kernel
theorem dX3_add_20 : decode cX3_add 20 = .ok (.aload_n 0, 1) := by decide +kernel
theorem dX3_add_21 : decode cX3_add 21 = .ok (.dup, 1) := by decide +kernel
theorem dX3_add_22 : decode cX3_add 22 = .ok (.getfield 31, 3) := by decide +kernel
theorem dX3_add_25 : decode cX3_add 25 = .ok (.iconst 1, 1) := by decide +kernel
theorem dX3_add_26 : decode cX3_add 26 = .ok (.iadd, 1) := by decide +kernel
theorem dX3_add_27 : decode cX3_add 27 = .ok (.putfield 31, 3) := by decide +kernel
theorem dX3_add_30 : decode cX3_add 30 = .ok (.return_, 1) := by decide +kernel
theorem ce_X3_add : CeV RX3 yX3_add cX3_add 2 none 1 := ⟨tb_698, tb_699, tb_10, tb_700, rfl, by decide, by decide, by decide +kernel⟩
theorem dX3_beginClause_0 : decode cX3_beginClause 0 = .ok (.aload_n 0, 1) := by decide +kernel
theorem dX3_beginClause_1 : decode cX3_beginClause 1 = .ok (.getfield 27, 3) := by decide +kernel
theorem dX3_beginClause_4 : decode cX3_beginClause 4 = .ok (.bipush 12, 2) := by decide +kernel
theorem dX3_beginClause_6 : decode cX3_beginClause 6 = .ok (.if_icmp .ge 26, 3) := by decide +kernel
theorem dX3_beginClause_9 : decode cX3_beginClause 9 = .ok (.aload_n 0, 1) := by decide +kernel
theorem dX3_beginClause_10 : decode cX3_beginClause 10 = .ok (.getfield 15, 3) := by decide +kernel
theorem dX3_beginClause_13 : decode cX3_beginClause 13 = .ok (.aload_n 0, 1) := by decide +kernel
theorem dX3_beginClause_14 : decode cX3_beginClause 14 = .ok (.getfield 27, 3) := by decide +kernel
theorem dX3_beginClause_17 : decode cX3_beginClause 17 = .ok (.iload_n 1, 1) := by decide +kernel
theorem dX3_beginClause_18 : decode cX3_beginClause 18 = .ok (.iastore, 1) := by decide +kernel
theorem dX3_beginClause_19 : decode cX3_beginClause 19 = .ok (.aload_n 0, 1) := by decide +kernel
theorem dX3_beginClause_20 : decode cX3_beginClause 20 = .ok (.getfield 18, 3) := by decide +kernel
theorem dX3_beginClause_23 : decode cX3_beginClause 23 = .ok (.aload_n 0, 1) := by decide +kernel
theorem dX3_beginClause_24 : decode cX3_beginClause 24 = .ok (.getfield 27, 3) := by decide +kernel
theorem dX3_beginClause_27 : decode cX3_beginClause 27 = .ok (.aload_n 0, 1) := by decide +kernel
theorem dX3_beginClause_28 : decode cX3_beginClause 28 = .ok (.getfield 31, 3) := by decide +kernel
theorem dX3_beginClause_31 : decode cX3_beginClause 31 = .ok (.iastore, 1) := by decide +kernel
theorem dX3_beginClause_32 : decode cX3_beginClause 32 = .ok (.return_, 1) := by decide +kernel
theorem ce_X3_beginClause : CeV RX3 yX3_beginClause cX3_beginClause 2 none 1 := ⟨tb_682, tb_683, tb_10, tb_684, rfl, by decide, by decide, by decide +kernel⟩
theorem dX3_beginTest_0 : decode cX3_beginTest 0 = .ok (.aload_n 0, 1) := by decide +kernel
theorem dX3_beginTest_1 : decode cX3_beginTest 1 = .ok (.getfield 27, 3) := by decide +kernel
theorem dX3_beginTest_4 : decode cX3_beginTest 4 = .ok (.bipush 12, 2) := by decide +kernel
theorem dX3_beginTest_6 : decode cX3_beginTest 6 = .ok (.if_icmp .ge 16, 3) := by decide +kernel
theorem dX3_beginTest_9 : decode cX3_beginTest 9 = .ok (.aload_n 0, 1) := by decide +kernel
theorem dX3_beginTest_10 : decode cX3_beginTest 10 = .ok (.getfield 21, 3) := by decide +kernel
theorem dX3_beginTest_13 : decode cX3_beginTest 13 = .ok (.aload_n 0, 1) := by decide +kernel
theorem dX3_beginTest_14 : decode cX3_beginTest 14 = .ok (.getfield 27, 3) := by decide +kernel
theorem dX3_beginTest_17 : decode cX3_beginTest 17 = .ok (.aload_n 0, 1) := by decide +kernel
theorem dX3_beginTest_18 : decode cX3_beginTest 18 = .ok (.getfield 31, 3) := by decide +kernel
theorem dX3_beginTest_21 : decode cX3_beginTest 21 = .ok (.iastore, 1) := by decide +kernel
theorem dX3_beginTest_22 : decode cX3_beginTest 22 = .ok (.return_, 1) := by decide +kernel
theorem ce_X3_beginTest : CeV RX3 yX3_beginTest cX3_beginTest 1 none 0 := ⟨tb_725, tb_726, tb_10, tb_727, rfl, by decide, by decide, by decide +kernel⟩
theorem dX3_endClause_0 : decode cX3_endClause 0 = .ok (.aload_n 0, 1) := by decide +kernel
theorem dX3_endClause_1 : decode cX3_endClause 1 = .ok (.getfield 27, 3) := by decide +kernel
theorem dX3_endClause_4 : decode cX3_endClause 4 = .ok (.bipush 12, 2) := by decide +kernel
theorem dX3_endClause_6 : decode cX3_endClause 6 = .ok (.if_icmp .ge 26, 3) := by decide +kernel
theorem dX3_endClause_9 : decode cX3_endClause 9 = .ok (.aload_n 0, 1) := by decide +kernel
theorem dX3_endClause_10 : decode cX3_endClause 10 = .ok (.getfield 24, 3) := by decide +kernel
theorem dX3_endClause_13 : decode cX3_endClause 13 = .ok (.aload_n 0, 1) := by decide +kernel
theorem dX3_endClause_14 : decode cX3_endClause 14 = .ok (.getfield 27, 3) := by decide +kernel
theorem dX3_endClause_17 : decode cX3_endClause 17 = .ok (.aload_n 0, 1) := by decide +kernel
theorem dX3_endClause_18 : decode cX3_endClause 18 = .ok (.getfield 31, 3) := by decide +kernel
theorem dX3_endClause_21 : decode cX3_endClause 21 = .ok (.iastore, 1) := by decide +kernel
theorem dX3_endClause_22 : decode cX3_endClause 22 = .ok (.aload_n 0, 1) := by decide +kernel
theorem dX3_endClause_23 : decode cX3_endClause 23 = .ok (.dup, 1) := by decide +kernel
theorem dX3_endClause_24 : decode cX3_endClause 24 = .ok (.getfield 27, 3) := by decide +kernel
theorem dX3_endClause_27 : decode cX3_endClause 27 = .ok (.iconst 1, 1) := by decide +kernel
theorem dX3_endClause_28 : decode cX3_endClause 28 = .ok (.iadd, 1) := by decide +kernel
theorem dX3_endClause_29 : decode cX3_endClause 29 = .ok (.putfield 27, 3) := by decide +kernel
theorem dX3_endClause_32 : decode cX3_endClause 32 = .ok (.return_, 1) := by decide +kernel
theorem ce_X3_endClause : CeV RX3 yX3_endClause cX3_endClause 1 none 0 := ⟨tb_733, tb_734, tb_10, tb_735, rfl, by decide, by decide, by decide +kernel⟩
theorem dX4_isDigit_0 : decode cX4_isDigit 0 = .ok (.iload_n 0, 1) := by decide +kernel
theorem dX4_isDigit_1 : decode cX4_isDigit 1 = .ok (.bipush 48, 2) := by decide +kernel
theorem dX4_isDigit_3 : decode cX4_isDigit 3 = .ok (.if_icmp .lt 13, 3) := by decide +kernel
theorem dX4_isDigit_6 : decode cX4_isDigit 6 = .ok (.iload_n 0, 1) := by decide +kernel
theorem dX4_isDigit_7 : decode cX4_isDigit 7 = .ok (.bipush 57, 2) := by decide +kernel
theorem dX4_isDigit_9 : decode cX4_isDigit 9 = .ok (.if_icmp .gt 7, 3) := by decide +kernel
theorem dX4_isDigit_12 : decode cX4_isDigit 12 = .ok (.iconst 1, 1) := by decide +kernel
theorem dX4_isDigit_13 : decode cX4_isDigit 13 = .ok (.goto 4, 3) := by decide +kernel
theorem dX4_isDigit_16 : decode cX4_isDigit 16 = .ok (.iconst 0, 1) := by decide +kernel
theorem dX4_isDigit_17 : decode cX4_isDigit 17 = .ok (.ireturn, 1) := by decide +kernel
theorem ce_X4_isDigit : CeS yX4_isDigit cX4_isDigit 1 (some .boolean) 1 := ⟨tb_582, tb_9, tb_583, by decide, by decide, by decide +kernel⟩
set_option maxHeartbeats 4000000 in
set_option maxRecDepth 20000 in
theorem V_X4_isDigit (l : Launch) (D : va_G) (A : Nat → Prop) (ad : Nat → Nat) (ns : List Nat) (I : MI) (L : ML) (G : MG) (a0 : Int32) (hI : INV I) : Met l yX4_isDigit (wd yX4_isDigit cX4_isDigit 1 (some .boolean)) ({ frames := 0, cells := 0, slots := 0, locals := 0 }) (va_Pc [.int a0] (PM D A ad ns I L G)) (va_Qi (fun r u => u = (ad, ns, I, L, G) ∧ (Bo r (48 ≤ a0.toInt ∧ a0.toInt ≤ 57))) (BM D A) A) 0 0 A := by
  refine m_ofW (by decide) (Nat.le_of_ble_eq_true rfl) ?_
  intro p e s m below meth c ls args hC hE hM hA hS hl
  obtain ⟨hx, hb, hml, hown, hts, hr, hlocks, hin⟩ := hC
  have k0 : (0 : Int32).toInt = 0 := by decide
  have k1 : (1 : Int32).toInt = 1 := by decide
  have k48 : (48 : Int32).toInt = 48 := by decide
  have k57 : (57 : Int32).toInt = 57 := by decide
  have hl : lv_has ls 1 [(0, .int (a0))] := hl
  refine lv_iload_n hx hb dX4_isDigit_0 rfl (lv_at hl 0 rfl) ?_
  refine lv_bipush (v := (48)) hx hb dX4_isDigit_1 (by decide) ?_
  refine lv_icmp_lt (tgt := 16) hx hb dX4_isDigit_3 (by decide) (fun c1 => ?_) (fun c1 => ?_)
  · have hc1 := c1
    have q1 := q_lt hc1
    refine lv_iconst (v := (0)) hx hb dX4_isDigit_16 (by decide) ?_
    exact m_zret hx hb hr rfl hlocks hM hS (Nat.le_of_ble_eq_true rfl) (Nat.le_of_ble_eq_true rfl) ⟨rfl, (Bo.n (by omega))⟩ dX4_isDigit_17
  · have hc1 := c1
    have q1 := q_nlt hc1
    refine lv_iload_n hx hb dX4_isDigit_6 rfl (lv_at hl 0 rfl) ?_
    refine lv_bipush (v := (57)) hx hb dX4_isDigit_7 (by decide) ?_
    refine lv_icmp_gt (tgt := 16) hx hb dX4_isDigit_9 (by decide) (fun c2 => ?_) (fun c2 => ?_)
    · have hc2 := c2
      have q2 := q_lt hc2
      refine lv_iconst (v := (0)) hx hb dX4_isDigit_16 (by decide) ?_
      exact m_zret hx hb hr rfl hlocks hM hS (Nat.le_of_ble_eq_true rfl) (Nat.le_of_ble_eq_true rfl) ⟨rfl, (Bo.n (by omega))⟩ dX4_isDigit_17
    · have hc2 := c2
      have q2 := q_nlt hc2
      refine lv_iconst (v := (1)) hx hb dX4_isDigit_12 (by decide) ?_
      refine lv_goto (tgt := 17) hx hb dX4_isDigit_13 (by decide) ?_
      exact m_zret hx hb hr rfl hlocks hM hS (Nat.le_of_ble_eq_true rfl) (Nat.le_of_ble_eq_true rfl) ⟨rfl, (Bo.y (by omega))⟩ dX4_isDigit_17
theorem dX4_isLetter_0 : decode cX4_isLetter 0 = .ok (.iload_n 0, 1) := by decide +kernel
theorem dX4_isLetter_1 : decode cX4_isLetter 1 = .ok (.bipush 97, 2) := by decide +kernel
theorem dX4_isLetter_3 : decode cX4_isLetter 3 = .ok (.if_icmp .lt 13, 3) := by decide +kernel
theorem dX4_isLetter_6 : decode cX4_isLetter 6 = .ok (.iload_n 0, 1) := by decide +kernel
theorem dX4_isLetter_7 : decode cX4_isLetter 7 = .ok (.bipush 122, 2) := by decide +kernel
theorem dX4_isLetter_9 : decode cX4_isLetter 9 = .ok (.if_icmp .gt 7, 3) := by decide +kernel
theorem dX4_isLetter_12 : decode cX4_isLetter 12 = .ok (.iconst 1, 1) := by decide +kernel
theorem dX4_isLetter_13 : decode cX4_isLetter 13 = .ok (.goto 4, 3) := by decide +kernel
theorem dX4_isLetter_16 : decode cX4_isLetter 16 = .ok (.iconst 0, 1) := by decide +kernel
theorem dX4_isLetter_17 : decode cX4_isLetter 17 = .ok (.ireturn, 1) := by decide +kernel
theorem ce_X4_isLetter : CeS yX4_isLetter cX4_isLetter 1 (some .boolean) 1 := ⟨tb_589, tb_9, tb_590, by decide, by decide, by decide +kernel⟩
set_option maxHeartbeats 4000000 in
set_option maxRecDepth 20000 in
theorem V_X4_isLetter (l : Launch) (D : va_G) (A : Nat → Prop) (ad : Nat → Nat) (ns : List Nat) (I : MI) (L : ML) (G : MG) (a0 : Int32) (hI : INV I) : Met l yX4_isLetter (wd yX4_isLetter cX4_isLetter 1 (some .boolean)) ({ frames := 0, cells := 0, slots := 0, locals := 0 }) (va_Pc [.int a0] (PM D A ad ns I L G)) (va_Qi (fun r u => u = (ad, ns, I, L, G) ∧ (Bo r (97 ≤ a0.toInt ∧ a0.toInt ≤ 122))) (BM D A) A) 0 0 A := by
  refine m_ofW (by decide) (Nat.le_of_ble_eq_true rfl) ?_
  intro p e s m below meth c ls args hC hE hM hA hS hl
  obtain ⟨hx, hb, hml, hown, hts, hr, hlocks, hin⟩ := hC
  have k0 : (0 : Int32).toInt = 0 := by decide
  have k1 : (1 : Int32).toInt = 1 := by decide
  have k97 : (97 : Int32).toInt = 97 := by decide
  have k122 : (122 : Int32).toInt = 122 := by decide
  have hl : lv_has ls 1 [(0, .int (a0))] := hl
  refine lv_iload_n hx hb dX4_isLetter_0 rfl (lv_at hl 0 rfl) ?_
  refine lv_bipush (v := (97)) hx hb dX4_isLetter_1 (by decide) ?_
  refine lv_icmp_lt (tgt := 16) hx hb dX4_isLetter_3 (by decide) (fun c1 => ?_) (fun c1 => ?_)
  · have hc1 := c1
    have q1 := q_lt hc1
    refine lv_iconst (v := (0)) hx hb dX4_isLetter_16 (by decide) ?_
    exact m_zret hx hb hr rfl hlocks hM hS (Nat.le_of_ble_eq_true rfl) (Nat.le_of_ble_eq_true rfl) ⟨rfl, (Bo.n (by omega))⟩ dX4_isLetter_17
  · have hc1 := c1
    have q1 := q_nlt hc1
    refine lv_iload_n hx hb dX4_isLetter_6 rfl (lv_at hl 0 rfl) ?_
    refine lv_bipush (v := (122)) hx hb dX4_isLetter_7 (by decide) ?_
    refine lv_icmp_gt (tgt := 16) hx hb dX4_isLetter_9 (by decide) (fun c2 => ?_) (fun c2 => ?_)
    · have hc2 := c2
      have q2 := q_lt hc2
      refine lv_iconst (v := (0)) hx hb dX4_isLetter_16 (by decide) ?_
      exact m_zret hx hb hr rfl hlocks hM hS (Nat.le_of_ble_eq_true rfl) (Nat.le_of_ble_eq_true rfl) ⟨rfl, (Bo.n (by omega))⟩ dX4_isLetter_17
    · have hc2 := c2
      have q2 := q_nlt hc2
      refine lv_iconst (v := (1)) hx hb dX4_isLetter_12 (by decide) ?_
      refine lv_goto (tgt := 17) hx hb dX4_isLetter_13 (by decide) ?_
      exact m_zret hx hb hr rfl hlocks hM hS (Nat.le_of_ble_eq_true rfl) (Nat.le_of_ble_eq_true rfl) ⟨rfl, (Bo.y (by omega))⟩ dX4_isLetter_17
theorem dX4_rankOf_0 : decode cX4_rankOf 0 = .ok (.iload_n 0, 1) := by decide +kernel
theorem dX4_rankOf_1 : decode cX4_rankOf 1 = .ok (.tableswitch 74 (-25) (-14) #[63, 65, 74, 74, 74, 74, 74, 71, 71, 69, 69, 67], 63) := by decide +kernel
theorem dX4_rankOf_64 : decode cX4_rankOf 64 = .ok (.iconst 1, 1) := by decide +kernel
theorem dX4_rankOf_65 : decode cX4_rankOf 65 = .ok (.ireturn, 1) := by decide +kernel
theorem dX4_rankOf_66 : decode cX4_rankOf 66 = .ok (.iconst 2, 1) := by decide +kernel
theorem dX4_rankOf_67 : decode cX4_rankOf 67 = .ok (.ireturn, 1) := by decide +kernel
theorem dX4_rankOf_68 : decode cX4_rankOf 68 = .ok (.iconst 3, 1) := by decide +kernel
theorem dX4_rankOf_69 : decode cX4_rankOf 69 = .ok (.ireturn, 1) := by decide +kernel
theorem dX4_rankOf_70 : decode cX4_rankOf 70 = .ok (.iconst 5, 1) := by decide +kernel
theorem dX4_rankOf_71 : decode cX4_rankOf 71 = .ok (.ireturn, 1) := by decide +kernel
theorem dX4_rankOf_72 : decode cX4_rankOf 72 = .ok (.bipush 6, 2) := by decide +kernel
theorem dX4_rankOf_74 : decode cX4_rankOf 74 = .ok (.ireturn, 1) := by decide +kernel
theorem dX4_rankOf_75 : decode cX4_rankOf 75 = .ok (.iconst 4, 1) := by decide +kernel
theorem dX4_rankOf_76 : decode cX4_rankOf 76 = .ok (.ireturn, 1) := by decide +kernel
theorem ce_X4_rankOf : CeS yX4_rankOf cX4_rankOf 1 (some .int) 1 := ⟨tb_714, tb_9, tb_715, by decide, by decide, by decide +kernel⟩
theorem dX4_byteAt_0 : decode cX4_byteAt 0 = .ok (.iload_n 1, 1) := by decide +kernel
theorem dX4_byteAt_1 : decode cX4_byteAt 1 = .ok (.ifCond .lt 31, 3) := by decide +kernel
theorem dX4_byteAt_4 : decode cX4_byteAt 4 = .ok (.iload_n 1, 1) := by decide +kernel
theorem dX4_byteAt_5 : decode cX4_byteAt 5 = .ok (.aload_n 0, 1) := by decide +kernel
theorem dX4_byteAt_6 : decode cX4_byteAt 6 = .ok (.getfield 25, 3) := by decide +kernel
theorem dX4_byteAt_9 : decode cX4_byteAt 9 = .ok (.if_icmp .ge 23, 3) := by decide +kernel
theorem dX4_byteAt_12 : decode cX4_byteAt 12 = .ok (.iload_n 1, 1) := by decide +kernel
theorem dX4_byteAt_13 : decode cX4_byteAt 13 = .ok (.sipush 400, 3) := by decide +kernel
theorem dX4_byteAt_16 : decode cX4_byteAt 16 = .ok (.if_icmp .ge 16, 3) := by decide +kernel
theorem dX4_byteAt_19 : decode cX4_byteAt 19 = .ok (.aload_n 0, 1) := by decide +kernel
theorem dX4_byteAt_20 : decode cX4_byteAt 20 = .ok (.getfield 9, 3) := by decide +kernel
theorem dX4_byteAt_23 : decode cX4_byteAt 23 = .ok (.iload_n 1, 1) := by decide +kernel
theorem dX4_byteAt_24 : decode cX4_byteAt 24 = .ok (.baload, 1) := by decide +kernel
theorem dX4_byteAt_25 : decode cX4_byteAt 25 = .ok (.sipush 255, 3) := by decide +kernel
theorem dX4_byteAt_28 : decode cX4_byteAt 28 = .ok (.iand, 1) := by decide +kernel
theorem dX4_byteAt_29 : decode cX4_byteAt 29 = .ok (.goto 5, 3) := by decide +kernel
theorem dX4_byteAt_32 : decode cX4_byteAt 32 = .ok (.bipush (-45), 2) := by decide +kernel
theorem dX4_byteAt_34 : decode cX4_byteAt 34 = .ok (.ireturn, 1) := by decide +kernel
theorem ce_X4_byteAt : CeV RX4 yX4_byteAt cX4_byteAt 2 (some .int) 1 := ⟨tb_579, tp_3, tb_9, tb_580, rfl, by decide, by decide, by decide +kernel⟩
theorem dX4_fail_0 : decode cX4_fail 0 = .ok (.aload_n 0, 1) := by decide +kernel
theorem dX4_fail_1 : decode cX4_fail 1 = .ok (.iconst 1, 1) := by decide +kernel
theorem dX4_fail_2 : decode cX4_fail 2 = .ok (.bipush 8, 2) := by decide +kernel
theorem dX4_fail_4 : decode cX4_fail 4 = .ok (.aload_n 0, 1) := by decide +kernel
theorem dX4_fail_5 : decode cX4_fail 5 = .ok (.getfield 29, 3) := by decide +kernel
theorem dX4_fail_8 : decode cX4_fail 8 = .ok (.imul, 1) := by decide +kernel
theorem dX4_fail_9 : decode cX4_fail 9 = .ok (.iadd, 1) := by decide +kernel
theorem dX4_fail_10 : decode cX4_fail 10 = .ok (.iload_n 1, 1) := by decide +kernel
theorem dX4_fail_11 : decode cX4_fail 11 = .ok (.iadd, 1) := by decide +kernel
theorem dX4_fail_12 : decode cX4_fail 12 = .ok (.putfield 44, 3) := by decide +kernel
theorem dX4_fail_15 : decode cX4_fail 15 = .ok (.return_, 1) := by decide +kernel
theorem ce_X4_fail : CeV RX4 yX4_fail cX4_fail 2 none 1 := ⟨tb_675, tp_11, tb_9, tb_676, rfl, by decide, by decide, by decide +kernel⟩
theorem dX4_countsOneMore_0 : decode cX4_countsOneMore 0 = .ok (.aload_n 0, 1) := by decide +kernel
theorem dX4_countsOneMore_1 : decode cX4_countsOneMore 1 = .ok (.getfield 41, 3) := by decide +kernel
theorem dX4_countsOneMore_4 : decode cX4_countsOneMore 4 = .ok (.bipush 60, 2) := by decide +kernel
theorem dX4_countsOneMore_6 : decode cX4_countsOneMore 6 = .ok (.if_icmp .lt 10, 3) := by decide +kernel
theorem dX4_countsOneMore_9 : decode cX4_countsOneMore 9 = .ok (.aload_n 0, 1) := by decide +kernel
theorem dX4_countsOneMore_10 : decode cX4_countsOneMore 10 = .ok (.iconst 3, 1) := by decide +kernel
theorem dX4_countsOneMore_11 : decode cX4_countsOneMore 11 = .ok (.invokevirtual 86, 3) := by decide +kernel
theorem dX4_countsOneMore_14 : decode cX4_countsOneMore 14 = .ok (.iconst 0, 1) := by decide +kernel
theorem dX4_countsOneMore_15 : decode cX4_countsOneMore 15 = .ok (.ireturn, 1) := by decide +kernel
theorem dX4_countsOneMore_16 : decode cX4_countsOneMore 16 = .ok (.aload_n 0, 1) := by decide +kernel
theorem dX4_countsOneMore_17 : decode cX4_countsOneMore 17 = .ok (.dup, 1) := by decide +kernel
theorem dX4_countsOneMore_18 : decode cX4_countsOneMore 18 = .ok (.getfield 41, 3) := by decide +kernel
theorem dX4_countsOneMore_21 : decode cX4_countsOneMore 21 = .ok (.iconst 1, 1) := by decide +kernel
theorem dX4_countsOneMore_22 : decode cX4_countsOneMore 22 = .ok (.iadd, 1) := by decide +kernel
theorem dX4_countsOneMore_23 : decode cX4_countsOneMore 23 = .ok (.putfield 41, 3) := by decide +kernel
theorem dX4_countsOneMore_26 : decode cX4_countsOneMore 26 = .ok (.iconst 1, 1) := by decide +kernel
theorem dX4_countsOneMore_27 : decode cX4_countsOneMore 27 = .ok (.ireturn, 1) := by decide +kernel
theorem ce_X4_countsOneMore : CeV RX4 yX4_countsOneMore cX4_countsOneMore 1 (some .boolean) 0 := ⟨tb_695, tp_15, tb_9, tb_696, rfl, by decide, by decide, by decide +kernel⟩
theorem dX4_push_0 : decode cX4_push 0 = .ok (.aload_n 0, 1) := by decide +kernel
theorem dX4_push_1 : decode cX4_push 1 = .ok (.getfield 32, 3) := by decide +kernel
theorem dX4_push_4 : decode cX4_push 4 = .ok (.bipush 64, 2) := by decide +kernel
theorem dX4_push_6 : decode cX4_push 6 = .ok (.if_icmp .ge 23, 3) := by decide +kernel
theorem dX4_push_9 : decode cX4_push 9 = .ok (.aload_n 0, 1) := by decide +kernel
theorem dX4_push_10 : decode cX4_push 10 = .ok (.getfield 15, 3) := by decide +kernel
theorem dX4_push_13 : decode cX4_push 13 = .ok (.aload_n 0, 1) := by decide +kernel
theorem dX4_push_14 : decode cX4_push 14 = .ok (.getfield 32, 3) := by decide +kernel
theorem dX4_push_17 : decode cX4_push 17 = .ok (.iload_n 1, 1) := by decide +kernel
theorem dX4_push_18 : decode cX4_push 18 = .ok (.iastore, 1) := by decide +kernel
theorem dX4_push_19 : decode cX4_push 19 = .ok (.aload_n 0, 1) := by decide +kernel
theorem dX4_push_20 : decode cX4_push 20 = .ok (.dup, 1) := by decide +kernel
theorem dX4_push_21 : decode cX4_push 21 = .ok (.getfield 32, 3) := by decide +kernel
theorem dX4_push_24 : decode cX4_push 24 = .ok (.iconst 1, 1) := by decide +kernel
theorem dX4_push_25 : decode cX4_push 25 = .ok (.iadd, 1) := by decide +kernel
theorem dX4_push_26 : decode cX4_push 26 = .ok (.putfield 32, 3) := by decide +kernel
theorem dX4_push_29 : decode cX4_push 29 = .ok (.return_, 1) := by decide +kernel
theorem ce_X4_push : CeV RX4 yX4_push cX4_push 2 none 1 := ⟨tb_703, tp_16, tb_9, tb_704, rfl, by decide, by decide, by decide +kernel⟩
theorem dX4_yardHere_0 : decode cX4_yardHere 0 = .ok (.aload_n 0, 1) := by decide +kernel
theorem dX4_yardHere_1 : decode cX4_yardHere 1 = .ok (.aload_n 0, 1) := by decide +kernel
theorem dX4_yardHere_2 : decode cX4_yardHere 2 = .ok (.getfield 29, 3) := by decide +kernel
theorem dX4_yardHere_5 : decode cX4_yardHere 5 = .ok (.invokevirtual 132, 3) := by decide +kernel
theorem dX4_yardHere_8 : decode cX4_yardHere 8 = .ok (.bipush 97, 2) := by decide +kernel
theorem dX4_yardHere_10 : decode cX4_yardHere 10 = .ok (.isub, 1) := by decide +kernel
theorem dX4_yardHere_11 : decode cX4_yardHere 11 = .ok (.istore_n 1, 1) := by decide +kernel
theorem dX4_yardHere_12 : decode cX4_yardHere 12 = .ok (.iload_n 1, 1) := by decide +kernel
theorem dX4_yardHere_13 : decode cX4_yardHere 13 = .ok (.bipush 8, 2) := by decide +kernel
theorem dX4_yardHere_15 : decode cX4_yardHere 15 = .ok (.if_icmp .ge 10, 3) := by decide +kernel
theorem dX4_yardHere_18 : decode cX4_yardHere 18 = .ok (.bipush (-6), 2) := by decide +kernel
theorem dX4_yardHere_20 : decode cX4_yardHere 20 = .ok (.iload_n 1, 1) := by decide +kernel
theorem dX4_yardHere_21 : decode cX4_yardHere 21 = .ok (.isub, 1) := by decide +kernel
theorem dX4_yardHere_22 : decode cX4_yardHere 22 = .ok (.goto 5, 3) := by decide +kernel
theorem dX4_yardHere_25 : decode cX4_yardHere 25 = .ok (.bipush (-47), 2) := by decide +kernel
theorem dX4_yardHere_27 : decode cX4_yardHere 27 = .ok (.ireturn, 1) := by decide +kernel
theorem ce_X4_yardHere : CeV RX4 yX4_yardHere cX4_yardHere 2 (some .int) 0 := ⟨tb_593, tp_5, tb_9, tb_594, rfl, by decide, by decide, by decide +kernel⟩
theorem dX4_signHere_0 : decode cX4_signHere 0 = .ok (.aload_n 0, 1) := by decide +kernel
theorem dX4_signHere_1 : decode cX4_signHere 1 = .ok (.aload_n 0, 1) := by decide +kernel
theorem dX4_signHere_2 : decode cX4_signHere 2 = .ok (.getfield 29, 3) := by decide +kernel
theorem dX4_signHere_5 : decode cX4_signHere 5 = .ok (.iconst 1, 1) := by decide +kernel
theorem dX4_signHere_6 : decode cX4_signHere 6 = .ok (.iadd, 1) := by decide +kernel
theorem dX4_signHere_7 : decode cX4_signHere 7 = .ok (.invokevirtual 132, 3) := by decide +kernel
theorem dX4_signHere_10 : decode cX4_signHere 10 = .ok (.bipush 61, 2) := by decide +kernel
theorem dX4_signHere_12 : decode cX4_signHere 12 = .ok (.if_icmp .ne 7, 3) := by decide +kernel
theorem dX4_signHere_15 : decode cX4_signHere 15 = .ok (.iconst 1, 1) := by decide +kernel
theorem dX4_signHere_16 : decode cX4_signHere 16 = .ok (.goto 4, 3) := by decide +kernel
theorem dX4_signHere_19 : decode cX4_signHere 19 = .ok (.iconst 0, 1) := by decide +kernel
theorem dX4_signHere_20 : decode cX4_signHere 20 = .ok (.istore_n 1, 1) := by decide +kernel
theorem dX4_signHere_21 : decode cX4_signHere 21 = .ok (.aload_n 0, 1) := by decide +kernel
theorem dX4_signHere_22 : decode cX4_signHere 22 = .ok (.aload_n 0, 1) := by decide +kernel
theorem dX4_signHere_23 : decode cX4_signHere 23 = .ok (.getfield 29, 3) := by decide +kernel
theorem dX4_signHere_26 : decode cX4_signHere 26 = .ok (.invokevirtual 132, 3) := by decide +kernel
theorem dX4_signHere_29 : decode cX4_signHere 29 = .ok (.lookupswitch 139 #[(42, 97), (43, 91), (45, 94), (47, 100), (59, 136), (60, 103), (61, 115), (62, 118), (91, 130), (93, 133)], 91) := by decide +kernel
theorem dX4_signHere_120 : decode cX4_signHere 120 = .ok (.bipush (-15), 2) := by decide +kernel
theorem dX4_signHere_122 : decode cX4_signHere 122 = .ok (.ireturn, 1) := by decide +kernel
theorem dX4_signHere_123 : decode cX4_signHere 123 = .ok (.bipush (-16), 2) := by decide +kernel
theorem dX4_signHere_125 : decode cX4_signHere 125 = .ok (.ireturn, 1) := by decide +kernel
theorem dX4_signHere_126 : decode cX4_signHere 126 = .ok (.bipush (-17), 2) := by decide +kernel
theorem dX4_signHere_128 : decode cX4_signHere 128 = .ok (.ireturn, 1) := by decide +kernel
theorem dX4_signHere_129 : decode cX4_signHere 129 = .ok (.bipush (-18), 2) := by decide +kernel
theorem dX4_signHere_131 : decode cX4_signHere 131 = .ok (.ireturn, 1) := by decide +kernel
theorem dX4_signHere_132 : decode cX4_signHere 132 = .ok (.iload_n 1, 1) := by decide +kernel
theorem dX4_signHere_133 : decode cX4_signHere 133 = .ok (.ifCond .eq 8, 3) := by decide +kernel
theorem dX4_signHere_136 : decode cX4_signHere 136 = .ok (.bipush (-20), 2) := by decide +kernel
theorem dX4_signHere_138 : decode cX4_signHere 138 = .ok (.goto 5, 3) := by decide +kernel
theorem dX4_signHere_141 : decode cX4_signHere 141 = .ok (.bipush (-19), 2) := by decide +kernel
theorem dX4_signHere_143 : decode cX4_signHere 143 = .ok (.ireturn, 1) := by decide +kernel
theorem dX4_signHere_144 : decode cX4_signHere 144 = .ok (.bipush (-21), 2) := by decide +kernel
theorem dX4_signHere_146 : decode cX4_signHere 146 = .ok (.ireturn, 1) := by decide +kernel
theorem dX4_signHere_147 : decode cX4_signHere 147 = .ok (.iload_n 1, 1) := by decide +kernel
theorem dX4_signHere_148 : decode cX4_signHere 148 = .ok (.ifCond .eq 8, 3) := by decide +kernel
theorem dX4_signHere_151 : decode cX4_signHere 151 = .ok (.bipush (-22), 2) := by decide +kernel
theorem dX4_signHere_153 : decode cX4_signHere 153 = .ok (.goto 5, 3) := by decide +kernel
theorem dX4_signHere_156 : decode cX4_signHere 156 = .ok (.bipush (-23), 2) := by decide +kernel
theorem dX4_signHere_158 : decode cX4_signHere 158 = .ok (.ireturn, 1) := by decide +kernel
theorem dX4_signHere_159 : decode cX4_signHere 159 = .ok (.bipush (-42), 2) := by decide +kernel
theorem dX4_signHere_161 : decode cX4_signHere 161 = .ok (.ireturn, 1) := by decide +kernel
theorem dX4_signHere_162 : decode cX4_signHere 162 = .ok (.bipush (-43), 2) := by decide +kernel
theorem dX4_signHere_164 : decode cX4_signHere 164 = .ok (.ireturn, 1) := by decide +kernel
theorem dX4_signHere_165 : decode cX4_signHere 165 = .ok (.bipush (-44), 2) := by decide +kernel
theorem dX4_signHere_167 : decode cX4_signHere 167 = .ok (.ireturn, 1) := by decide +kernel
theorem dX4_signHere_168 : decode cX4_signHere 168 = .ok (.bipush (-47), 2) := by decide +kernel
theorem dX4_signHere_170 : decode cX4_signHere 170 = .ok (.ireturn, 1) := by decide +kernel
theorem ce_X4_signHere : CeV RX4 yX4_signHere cX4_signHere 2 (some .int) 0 := ⟨tb_663, tp_8, tb_9, tb_664, rfl, by decide, by decide, by decide +kernel⟩
theorem dX4_isWord_0 : decode cX4_isWord 0 = .ok (.aload_n 0, 1) := by decide +kernel
theorem dX4_isWord_1 : decode cX4_isWord 1 = .ok (.getfield 65, 3) := by decide +kernel
theorem dX4_isWord_4 : decode cX4_isWord 4 = .ok (.aload_n 1, 1) := by decide +kernel
theorem dX4_isWord_5 : decode cX4_isWord 5 = .ok (.invokevirtual 179, 3) := by decide +kernel
theorem dX4_isWord_8 : decode cX4_isWord 8 = .ok (.if_icmp .eq 5, 3) := by decide +kernel
theorem dX4_isWord_11 : decode cX4_isWord 11 = .ok (.iconst 0, 1) := by decide +kernel
theorem dX4_isWord_12 : decode cX4_isWord 12 = .ok (.ireturn, 1) := by decide +kernel
theorem dX4_isWord_13 : decode cX4_isWord 13 = .ok (.iconst 0, 1) := by decide +kernel
theorem dX4_isWord_14 : decode cX4_isWord 14 = .ok (.istore_n 2, 1) := by decide +kernel
theorem dX4_isWord_15 : decode cX4_isWord 15 = .ok (.iload_n 2, 1) := by decide +kernel
theorem dX4_isWord_16 : decode cX4_isWord 16 = .ok (.aload_n 1, 1) := by decide +kernel
theorem dX4_isWord_17 : decode cX4_isWord 17 = .ok (.invokevirtual 179, 3) := by decide +kernel
theorem dX4_isWord_20 : decode cX4_isWord 20 = .ok (.if_icmp .ge 29, 3) := by decide +kernel
theorem dX4_isWord_23 : decode cX4_isWord 23 = .ok (.aload_n 0, 1) := by decide +kernel
theorem dX4_isWord_24 : decode cX4_isWord 24 = .ok (.aload_n 0, 1) := by decide +kernel
theorem dX4_isWord_25 : decode cX4_isWord 25 = .ok (.getfield 29, 3) := by decide +kernel
theorem dX4_isWord_28 : decode cX4_isWord 28 = .ok (.iload_n 2, 1) := by decide +kernel
theorem dX4_isWord_29 : decode cX4_isWord 29 = .ok (.iadd, 1) := by decide +kernel
theorem dX4_isWord_30 : decode cX4_isWord 30 = .ok (.invokevirtual 132, 3) := by decide +kernel
theorem dX4_isWord_33 : decode cX4_isWord 33 = .ok (.aload_n 1, 1) := by decide +kernel
theorem dX4_isWord_34 : decode cX4_isWord 34 = .ok (.iload_n 2, 1) := by decide +kernel
theorem dX4_isWord_35 : decode cX4_isWord 35 = .ok (.invokevirtual 183, 3) := by decide +kernel
theorem dX4_isWord_38 : decode cX4_isWord 38 = .ok (.if_icmp .eq 5, 3) := by decide +kernel
theorem dX4_isWord_41 : decode cX4_isWord 41 = .ok (.iconst 0, 1) := by decide +kernel
theorem dX4_isWord_42 : decode cX4_isWord 42 = .ok (.ireturn, 1) := by decide +kernel
theorem dX4_isWord_43 : decode cX4_isWord 43 = .ok (.iinc 2 1, 3) := by decide +kernel
theorem dX4_isWord_46 : decode cX4_isWord 46 = .ok (.goto (-31), 3) := by decide +kernel
theorem dX4_isWord_49 : decode cX4_isWord 49 = .ok (.iconst 1, 1) := by decide +kernel
theorem dX4_isWord_50 : decode cX4_isWord 50 = .ok (.ireturn, 1) := by decide +kernel
theorem ce_X4_isWord : CeV RX4 yX4_isWord cX4_isWord 3 (some .boolean) 1 := ⟨tb_602, tp_7, tb_9, tb_603, rfl, by decide, by decide, by decide +kernel⟩
theorem dX4_wordHere_0 : decode cX4_wordHere 0 = .ok (.aload_n 0, 1) := by decide +kernel
theorem dX4_wordHere_1 : decode cX4_wordHere 1 = .ok (.aload_n 0, 1) := by decide +kernel
theorem dX4_wordHere_2 : decode cX4_wordHere 2 = .ok (.getfield 29, 3) := by decide +kernel
theorem dX4_wordHere_5 : decode cX4_wordHere 5 = .ok (.invokevirtual 132, 3) := by decide +kernel
theorem dX4_wordHere_8 : decode cX4_wordHere 8 = .ok (.tableswitch 241 97 115 #[92, 241, 241, 109, 241, 241, 241, 126, 142, 241, 241, 241, 159, 176, 193, 241, 241, 241, 210], 92) := by decide +kernel
theorem dX4_wordHere_100 : decode cX4_wordHere 100 = .ok (.aload_n 0, 1) := by decide +kernel
theorem dX4_wordHere_101 : decode cX4_wordHere 101 = .ok (.ldc 155, 2) := by decide +kernel
theorem dX4_wordHere_103 : decode cX4_wordHere 103 = .ok (.invokevirtual 157, 3) := by decide +kernel
theorem dX4_wordHere_106 : decode cX4_wordHere 106 = .ok (.ifCond .eq 8, 3) := by decide +kernel
theorem dX4_wordHere_109 : decode cX4_wordHere 109 = .ok (.bipush (-24), 2) := by decide +kernel
theorem dX4_wordHere_111 : decode cX4_wordHere 111 = .ok (.goto 5, 3) := by decide +kernel
theorem dX4_wordHere_114 : decode cX4_wordHere 114 = .ok (.bipush (-47), 2) := by decide +kernel
theorem dX4_wordHere_116 : decode cX4_wordHere 116 = .ok (.ireturn, 1) := by decide +kernel
theorem dX4_wordHere_117 : decode cX4_wordHere 117 = .ok (.aload_n 0, 1) := by decide +kernel
theorem dX4_wordHere_118 : decode cX4_wordHere 118 = .ok (.ldc 161, 2) := by decide +kernel
theorem dX4_wordHere_120 : decode cX4_wordHere 120 = .ok (.invokevirtual 157, 3) := by decide +kernel
theorem dX4_wordHere_123 : decode cX4_wordHere 123 = .ok (.ifCond .eq 8, 3) := by decide +kernel
theorem dX4_wordHere_126 : decode cX4_wordHere 126 = .ok (.bipush (-3), 2) := by decide +kernel
theorem dX4_wordHere_128 : decode cX4_wordHere 128 = .ok (.goto 5, 3) := by decide +kernel
theorem dX4_wordHere_131 : decode cX4_wordHere 131 = .ok (.bipush (-47), 2) := by decide +kernel
theorem dX4_wordHere_133 : decode cX4_wordHere 133 = .ok (.ireturn, 1) := by decide +kernel
theorem dX4_wordHere_134 : decode cX4_wordHere 134 = .ok (.aload_n 0, 1) := by decide +kernel
theorem dX4_wordHere_135 : decode cX4_wordHere 135 = .ok (.ldc 163, 2) := by decide +kernel
theorem dX4_wordHere_137 : decode cX4_wordHere 137 = .ok (.invokevirtual 157, 3) := by decide +kernel
theorem dX4_wordHere_140 : decode cX4_wordHere 140 = .ok (.ifCond .eq 7, 3) := by decide +kernel
theorem dX4_wordHere_143 : decode cX4_wordHere 143 = .ok (.iconst (-1), 1) := by decide +kernel
theorem dX4_wordHere_144 : decode cX4_wordHere 144 = .ok (.goto 5, 3) := by decide +kernel
theorem dX4_wordHere_147 : decode cX4_wordHere 147 = .ok (.bipush (-47), 2) := by decide +kernel
theorem dX4_wordHere_149 : decode cX4_wordHere 149 = .ok (.ireturn, 1) := by decide +kernel
theorem dX4_wordHere_150 : decode cX4_wordHere 150 = .ok (.aload_n 0, 1) := by decide +kernel
theorem dX4_wordHere_151 : decode cX4_wordHere 151 = .ok (.ldc 165, 2) := by decide +kernel
theorem dX4_wordHere_153 : decode cX4_wordHere 153 = .ok (.invokevirtual 157, 3) := by decide +kernel
theorem dX4_wordHere_156 : decode cX4_wordHere 156 = .ok (.ifCond .eq 8, 3) := by decide +kernel
theorem dX4_wordHere_159 : decode cX4_wordHere 159 = .ok (.bipush (-41), 2) := by decide +kernel
theorem dX4_wordHere_161 : decode cX4_wordHere 161 = .ok (.goto 5, 3) := by decide +kernel
theorem dX4_wordHere_164 : decode cX4_wordHere 164 = .ok (.bipush (-47), 2) := by decide +kernel
theorem dX4_wordHere_166 : decode cX4_wordHere 166 = .ok (.ireturn, 1) := by decide +kernel
theorem dX4_wordHere_167 : decode cX4_wordHere 167 = .ok (.aload_n 0, 1) := by decide +kernel
theorem dX4_wordHere_168 : decode cX4_wordHere 168 = .ok (.ldc 167, 2) := by decide +kernel
theorem dX4_wordHere_170 : decode cX4_wordHere 170 = .ok (.invokevirtual 157, 3) := by decide +kernel
theorem dX4_wordHere_173 : decode cX4_wordHere 173 = .ok (.ifCond .eq 8, 3) := by decide +kernel
theorem dX4_wordHere_176 : decode cX4_wordHere 176 = .ok (.bipush (-2), 2) := by decide +kernel
theorem dX4_wordHere_178 : decode cX4_wordHere 178 = .ok (.goto 5, 3) := by decide +kernel
theorem dX4_wordHere_181 : decode cX4_wordHere 181 = .ok (.bipush (-47), 2) := by decide +kernel
theorem dX4_wordHere_183 : decode cX4_wordHere 183 = .ok (.ireturn, 1) := by decide +kernel
theorem dX4_wordHere_184 : decode cX4_wordHere 184 = .ok (.aload_n 0, 1) := by decide +kernel
theorem dX4_wordHere_185 : decode cX4_wordHere 185 = .ok (.ldc 169, 2) := by decide +kernel
theorem dX4_wordHere_187 : decode cX4_wordHere 187 = .ok (.invokevirtual 157, 3) := by decide +kernel
theorem dX4_wordHere_190 : decode cX4_wordHere 190 = .ok (.ifCond .eq 8, 3) := by decide +kernel
theorem dX4_wordHere_193 : decode cX4_wordHere 193 = .ok (.bipush (-14), 2) := by decide +kernel
theorem dX4_wordHere_195 : decode cX4_wordHere 195 = .ok (.goto 5, 3) := by decide +kernel
theorem dX4_wordHere_198 : decode cX4_wordHere 198 = .ok (.bipush (-47), 2) := by decide +kernel
theorem dX4_wordHere_200 : decode cX4_wordHere 200 = .ok (.ireturn, 1) := by decide +kernel
theorem dX4_wordHere_201 : decode cX4_wordHere 201 = .ok (.aload_n 0, 1) := by decide +kernel
theorem dX4_wordHere_202 : decode cX4_wordHere 202 = .ok (.ldc 171, 2) := by decide +kernel
theorem dX4_wordHere_204 : decode cX4_wordHere 204 = .ok (.invokevirtual 157, 3) := by decide +kernel
theorem dX4_wordHere_207 : decode cX4_wordHere 207 = .ok (.ifCond .eq 8, 3) := by decide +kernel
theorem dX4_wordHere_210 : decode cX4_wordHere 210 = .ok (.bipush (-25), 2) := by decide +kernel
theorem dX4_wordHere_212 : decode cX4_wordHere 212 = .ok (.goto 5, 3) := by decide +kernel
theorem dX4_wordHere_215 : decode cX4_wordHere 215 = .ok (.bipush (-47), 2) := by decide +kernel
theorem dX4_wordHere_217 : decode cX4_wordHere 217 = .ok (.ireturn, 1) := by decide +kernel
theorem dX4_wordHere_218 : decode cX4_wordHere 218 = .ok (.aload_n 0, 1) := by decide +kernel
theorem dX4_wordHere_219 : decode cX4_wordHere 219 = .ok (.ldc 173, 2) := by decide +kernel
theorem dX4_wordHere_221 : decode cX4_wordHere 221 = .ok (.invokevirtual 157, 3) := by decide +kernel
theorem dX4_wordHere_224 : decode cX4_wordHere 224 = .ok (.ifCond .eq 8, 3) := by decide +kernel
theorem dX4_wordHere_227 : decode cX4_wordHere 227 = .ok (.bipush (-5), 2) := by decide +kernel
theorem dX4_wordHere_229 : decode cX4_wordHere 229 = .ok (.goto 19, 3) := by decide +kernel
theorem dX4_wordHere_232 : decode cX4_wordHere 232 = .ok (.aload_n 0, 1) := by decide +kernel
theorem dX4_wordHere_233 : decode cX4_wordHere 233 = .ok (.ldc 175, 2) := by decide +kernel
theorem dX4_wordHere_235 : decode cX4_wordHere 235 = .ok (.invokevirtual 157, 3) := by decide +kernel
theorem dX4_wordHere_238 : decode cX4_wordHere 238 = .ok (.ifCond .eq 8, 3) := by decide +kernel
theorem dX4_wordHere_241 : decode cX4_wordHere 241 = .ok (.bipush (-4), 2) := by decide +kernel
theorem dX4_wordHere_243 : decode cX4_wordHere 243 = .ok (.goto 5, 3) := by decide +kernel
theorem dX4_wordHere_246 : decode cX4_wordHere 246 = .ok (.bipush (-47), 2) := by decide +kernel
theorem dX4_wordHere_248 : decode cX4_wordHere 248 = .ok (.ireturn, 1) := by decide +kernel
theorem dX4_wordHere_249 : decode cX4_wordHere 249 = .ok (.aload_n 0, 1) := by decide +kernel
theorem dX4_wordHere_250 : decode cX4_wordHere 250 = .ok (.ldc 177, 2) := by decide +kernel
theorem dX4_wordHere_252 : decode cX4_wordHere 252 = .ok (.invokevirtual 157, 3) := by decide +kernel
theorem dX4_wordHere_255 : decode cX4_wordHere 255 = .ok (.ifCond .eq 8, 3) := by decide +kernel
theorem dX4_wordHere_258 : decode cX4_wordHere 258 = .ok (.bipush (-40), 2) := by decide +kernel
theorem dX4_wordHere_260 : decode cX4_wordHere 260 = .ok (.goto 5, 3) := by decide +kernel
theorem dX4_wordHere_263 : decode cX4_wordHere 263 = .ok (.bipush (-47), 2) := by decide +kernel
theorem dX4_wordHere_265 : decode cX4_wordHere 265 = .ok (.ireturn, 1) := by decide +kernel
theorem ce_X4_wordHere : CeV RX4 yX4_wordHere cX4_wordHere 1 (some .int) 0 := ⟨tb_597, tp_6, tb_9, tb_598, rfl, by decide, by decide, by decide +kernel⟩
theorem dX4_readNumber_0 : decode cX4_readNumber 0 = .ok (.iconst 0, 1) := by decide +kernel
theorem dX4_readNumber_1 : decode cX4_readNumber 1 = .ok (.istore_n 1, 1) := by decide +kernel
theorem dX4_readNumber_2 : decode cX4_readNumber 2 = .ok (.aload_n 0, 1) := by decide +kernel
theorem dX4_readNumber_3 : decode cX4_readNumber 3 = .ok (.aload_n 0, 1) := by decide +kernel
theorem dX4_readNumber_4 : decode cX4_readNumber 4 = .ok (.getfield 29, 3) := by decide +kernel
theorem dX4_readNumber_7 : decode cX4_readNumber 7 = .ok (.aload_n 0, 1) := by decide +kernel
theorem dX4_readNumber_8 : decode cX4_readNumber 8 = .ok (.getfield 65, 3) := by decide +kernel
theorem dX4_readNumber_11 : decode cX4_readNumber 11 = .ok (.iadd, 1) := by decide +kernel
theorem dX4_readNumber_12 : decode cX4_readNumber 12 = .ok (.invokevirtual 132, 3) := by decide +kernel
theorem dX4_readNumber_15 : decode cX4_readNumber 15 = .ok (.invokestatic 135, 3) := by decide +kernel
theorem dX4_readNumber_18 : decode cX4_readNumber 18 = .ok (.ifCond .eq 56, 3) := by decide +kernel
theorem dX4_readNumber_21 : decode cX4_readNumber 21 = .ok (.aload_n 0, 1) := by decide +kernel
theorem dX4_readNumber_22 : decode cX4_readNumber 22 = .ok (.getfield 65, 3) := by decide +kernel
theorem dX4_readNumber_25 : decode cX4_readNumber 25 = .ok (.sipush 400, 3) := by decide +kernel
theorem dX4_readNumber_28 : decode cX4_readNumber 28 = .ok (.if_icmp .ge 46, 3) := by decide +kernel
theorem dX4_readNumber_31 : decode cX4_readNumber 31 = .ok (.aload_n 0, 1) := by decide +kernel
theorem dX4_readNumber_32 : decode cX4_readNumber 32 = .ok (.getfield 65, 3) := by decide +kernel
theorem dX4_readNumber_35 : decode cX4_readNumber 35 = .ok (.iconst 5, 1) := by decide +kernel
theorem dX4_readNumber_36 : decode cX4_readNumber 36 = .ok (.if_icmp .ge 25, 3) := by decide +kernel
theorem dX4_readNumber_39 : decode cX4_readNumber 39 = .ok (.bipush 10, 2) := by decide +kernel
theorem dX4_readNumber_41 : decode cX4_readNumber 41 = .ok (.iload_n 1, 1) := by decide +kernel
theorem dX4_readNumber_42 : decode cX4_readNumber 42 = .ok (.imul, 1) := by decide +kernel
theorem dX4_readNumber_43 : decode cX4_readNumber 43 = .ok (.aload_n 0, 1) := by decide +kernel
theorem dX4_readNumber_44 : decode cX4_readNumber 44 = .ok (.aload_n 0, 1) := by decide +kernel
theorem dX4_readNumber_45 : decode cX4_readNumber 45 = .ok (.getfield 29, 3) := by decide +kernel
theorem dX4_readNumber_48 : decode cX4_readNumber 48 = .ok (.aload_n 0, 1) := by decide +kernel
theorem dX4_readNumber_49 : decode cX4_readNumber 49 = .ok (.getfield 65, 3) := by decide +kernel
theorem dX4_readNumber_52 : decode cX4_readNumber 52 = .ok (.iadd, 1) := by decide +kernel
theorem dX4_readNumber_53 : decode cX4_readNumber 53 = .ok (.invokevirtual 132, 3) := by decide +kernel
theorem dX4_readNumber_56 : decode cX4_readNumber 56 = .ok (.iadd, 1) := by decide +kernel
theorem dX4_readNumber_57 : decode cX4_readNumber 57 = .ok (.bipush 48, 2) := by decide +kernel
theorem dX4_readNumber_59 : decode cX4_readNumber 59 = .ok (.isub, 1) := by decide +kernel
theorem dX4_readNumber_60 : decode cX4_readNumber 60 = .ok (.istore_n 1, 1) := by decide +kernel
theorem dX4_readNumber_61 : decode cX4_readNumber 61 = .ok (.aload_n 0, 1) := by decide +kernel
theorem dX4_readNumber_62 : decode cX4_readNumber 62 = .ok (.dup, 1) := by decide +kernel
theorem dX4_readNumber_63 : decode cX4_readNumber 63 = .ok (.getfield 65, 3) := by decide +kernel
theorem dX4_readNumber_66 : decode cX4_readNumber 66 = .ok (.iconst 1, 1) := by decide +kernel
theorem dX4_readNumber_67 : decode cX4_readNumber 67 = .ok (.iadd, 1) := by decide +kernel
theorem dX4_readNumber_68 : decode cX4_readNumber 68 = .ok (.putfield 65, 3) := by decide +kernel
theorem dX4_readNumber_71 : decode cX4_readNumber 71 = .ok (.goto (-69), 3) := by decide +kernel
theorem dX4_readNumber_74 : decode cX4_readNumber 74 = .ok (.aload_n 0, 1) := by decide +kernel
theorem dX4_readNumber_75 : decode cX4_readNumber 75 = .ok (.aload_n 0, 1) := by decide +kernel
theorem dX4_readNumber_76 : decode cX4_readNumber 76 = .ok (.getfield 65, 3) := by decide +kernel
theorem dX4_readNumber_79 : decode cX4_readNumber 79 = .ok (.iconst 5, 1) := by decide +kernel
theorem dX4_readNumber_80 : decode cX4_readNumber 80 = .ok (.if_icmp .le 8, 3) := by decide +kernel
theorem dX4_readNumber_83 : decode cX4_readNumber 83 = .ok (.bipush (-46), 2) := by decide +kernel
theorem dX4_readNumber_85 : decode cX4_readNumber 85 = .ok (.goto 4, 3) := by decide +kernel
theorem dX4_readNumber_88 : decode cX4_readNumber 88 = .ok (.iload_n 1, 1) := by decide +kernel
theorem dX4_readNumber_89 : decode cX4_readNumber 89 = .ok (.putfield 83, 3) := by decide +kernel
theorem dX4_readNumber_92 : decode cX4_readNumber 92 = .ok (.return_, 1) := by decide +kernel
theorem ce_X4_readNumber : CeV RX4 yX4_readNumber cX4_readNumber 2 none 0 := ⟨tb_586, tp_4, tb_9, tb_587, rfl, by decide, by decide, by decide +kernel⟩
theorem dX4_readToken_0 : decode cX4_readToken 0 = .ok (.aload_n 0, 1) := by decide +kernel
theorem dX4_readToken_1 : decode cX4_readToken 1 = .ok (.getfield 29, 3) := by decide +kernel
theorem dX4_readToken_4 : decode cX4_readToken 4 = .ok (.aload_n 0, 1) := by decide +kernel
theorem dX4_readToken_5 : decode cX4_readToken 5 = .ok (.getfield 25, 3) := by decide +kernel
theorem dX4_readToken_8 : decode cX4_readToken 8 = .ok (.if_icmp .ge 30, 3) := by decide +kernel
theorem dX4_readToken_11 : decode cX4_readToken 11 = .ok (.aload_n 0, 1) := by decide +kernel
theorem dX4_readToken_12 : decode cX4_readToken 12 = .ok (.getfield 9, 3) := by decide +kernel
theorem dX4_readToken_15 : decode cX4_readToken 15 = .ok (.aload_n 0, 1) := by decide +kernel
theorem dX4_readToken_16 : decode cX4_readToken 16 = .ok (.getfield 29, 3) := by decide +kernel
theorem dX4_readToken_19 : decode cX4_readToken 19 = .ok (.baload, 1) := by decide +kernel
theorem dX4_readToken_20 : decode cX4_readToken 20 = .ok (.bipush 32, 2) := by decide +kernel
theorem dX4_readToken_22 : decode cX4_readToken 22 = .ok (.if_icmp .ne 16, 3) := by decide +kernel
theorem dX4_readToken_25 : decode cX4_readToken 25 = .ok (.aload_n 0, 1) := by decide +kernel
theorem dX4_readToken_26 : decode cX4_readToken 26 = .ok (.dup, 1) := by decide +kernel
theorem dX4_readToken_27 : decode cX4_readToken 27 = .ok (.getfield 29, 3) := by decide +kernel
theorem dX4_readToken_30 : decode cX4_readToken 30 = .ok (.iconst 1, 1) := by decide +kernel
theorem dX4_readToken_31 : decode cX4_readToken 31 = .ok (.iadd, 1) := by decide +kernel
theorem dX4_readToken_32 : decode cX4_readToken 32 = .ok (.putfield 29, 3) := by decide +kernel
theorem dX4_readToken_35 : decode cX4_readToken 35 = .ok (.goto (-35), 3) := by decide +kernel
theorem dX4_readToken_38 : decode cX4_readToken 38 = .ok (.aload_n 0, 1) := by decide +kernel
theorem dX4_readToken_39 : decode cX4_readToken 39 = .ok (.iconst 0, 1) := by decide +kernel
theorem dX4_readToken_40 : decode cX4_readToken 40 = .ok (.putfield 65, 3) := by decide +kernel
theorem dX4_readToken_43 : decode cX4_readToken 43 = .ok (.aload_n 0, 1) := by decide +kernel
theorem dX4_readToken_44 : decode cX4_readToken 44 = .ok (.getfield 29, 3) := by decide +kernel
theorem dX4_readToken_47 : decode cX4_readToken 47 = .ok (.aload_n 0, 1) := by decide +kernel
theorem dX4_readToken_48 : decode cX4_readToken 48 = .ok (.getfield 25, 3) := by decide +kernel
theorem dX4_readToken_51 : decode cX4_readToken 51 = .ok (.if_icmp .lt 12, 3) := by decide +kernel
theorem dX4_readToken_54 : decode cX4_readToken 54 = .ok (.aload_n 0, 1) := by decide +kernel
theorem dX4_readToken_55 : decode cX4_readToken 55 = .ok (.bipush (-45), 2) := by decide +kernel
theorem dX4_readToken_57 : decode cX4_readToken 57 = .ok (.putfield 83, 3) := by decide +kernel
theorem dX4_readToken_60 : decode cX4_readToken 60 = .ok (.goto 141, 3) := by decide +kernel
theorem dX4_readToken_63 : decode cX4_readToken 63 = .ok (.aload_n 0, 1) := by decide +kernel
theorem dX4_readToken_64 : decode cX4_readToken 64 = .ok (.aload_n 0, 1) := by decide +kernel
theorem dX4_readToken_65 : decode cX4_readToken 65 = .ok (.getfield 29, 3) := by decide +kernel
theorem dX4_readToken_68 : decode cX4_readToken 68 = .ok (.invokevirtual 132, 3) := by decide +kernel
theorem dX4_readToken_71 : decode cX4_readToken 71 = .ok (.invokestatic 135, 3) := by decide +kernel
theorem dX4_readToken_74 : decode cX4_readToken 74 = .ok (.ifCond .eq 10, 3) := by decide +kernel
theorem dX4_readToken_77 : decode cX4_readToken 77 = .ok (.aload_n 0, 1) := by decide +kernel
theorem dX4_readToken_78 : decode cX4_readToken 78 = .ok (.invokevirtual 139, 3) := by decide +kernel
theorem dX4_readToken_81 : decode cX4_readToken 81 = .ok (.goto 120, 3) := by decide +kernel
theorem dX4_readToken_84 : decode cX4_readToken 84 = .ok (.aload_n 0, 1) := by decide +kernel
theorem dX4_readToken_85 : decode cX4_readToken 85 = .ok (.aload_n 0, 1) := by decide +kernel
theorem dX4_readToken_86 : decode cX4_readToken 86 = .ok (.getfield 29, 3) := by decide +kernel
theorem dX4_readToken_89 : decode cX4_readToken 89 = .ok (.invokevirtual 132, 3) := by decide +kernel
theorem dX4_readToken_92 : decode cX4_readToken 92 = .ok (.invokestatic 142, 3) := by decide +kernel
theorem dX4_readToken_95 : decode cX4_readToken 95 = .ok (.ifCond .eq 71, 3) := by decide +kernel
theorem dX4_readToken_98 : decode cX4_readToken 98 = .ok (.aload_n 0, 1) := by decide +kernel
theorem dX4_readToken_99 : decode cX4_readToken 99 = .ok (.aload_n 0, 1) := by decide +kernel
theorem dX4_readToken_100 : decode cX4_readToken 100 = .ok (.getfield 29, 3) := by decide +kernel
theorem dX4_readToken_103 : decode cX4_readToken 103 = .ok (.aload_n 0, 1) := by decide +kernel
theorem dX4_readToken_104 : decode cX4_readToken 104 = .ok (.getfield 65, 3) := by decide +kernel
theorem dX4_readToken_107 : decode cX4_readToken 107 = .ok (.iadd, 1) := by decide +kernel
theorem dX4_readToken_108 : decode cX4_readToken 108 = .ok (.invokevirtual 132, 3) := by decide +kernel
theorem dX4_readToken_111 : decode cX4_readToken 111 = .ok (.invokestatic 142, 3) := by decide +kernel
theorem dX4_readToken_114 : decode cX4_readToken 114 = .ok (.ifCond .eq 26, 3) := by decide +kernel
theorem dX4_readToken_117 : decode cX4_readToken 117 = .ok (.aload_n 0, 1) := by decide +kernel
theorem dX4_readToken_118 : decode cX4_readToken 118 = .ok (.getfield 65, 3) := by decide +kernel
theorem dX4_readToken_121 : decode cX4_readToken 121 = .ok (.sipush 400, 3) := by decide +kernel
theorem dX4_readToken_124 : decode cX4_readToken 124 = .ok (.if_icmp .ge 16, 3) := by decide +kernel
theorem dX4_readToken_127 : decode cX4_readToken 127 = .ok (.aload_n 0, 1) := by decide +kernel
theorem dX4_readToken_128 : decode cX4_readToken 128 = .ok (.dup, 1) := by decide +kernel
theorem dX4_readToken_129 : decode cX4_readToken 129 = .ok (.getfield 65, 3) := by decide +kernel
theorem dX4_readToken_132 : decode cX4_readToken 132 = .ok (.iconst 1, 1) := by decide +kernel
theorem dX4_readToken_133 : decode cX4_readToken 133 = .ok (.iadd, 1) := by decide +kernel
theorem dX4_readToken_134 : decode cX4_readToken 134 = .ok (.putfield 65, 3) := by decide +kernel
theorem dX4_readToken_137 : decode cX4_readToken 137 = .ok (.goto (-39), 3) := by decide +kernel
theorem dX4_readToken_140 : decode cX4_readToken 140 = .ok (.aload_n 0, 1) := by decide +kernel
theorem dX4_readToken_141 : decode cX4_readToken 141 = .ok (.aload_n 0, 1) := by decide +kernel
theorem dX4_readToken_142 : decode cX4_readToken 142 = .ok (.getfield 65, 3) := by decide +kernel
theorem dX4_readToken_145 : decode cX4_readToken 145 = .ok (.iconst 1, 1) := by decide +kernel
theorem dX4_readToken_146 : decode cX4_readToken 146 = .ok (.if_icmp .ne 10, 3) := by decide +kernel
theorem dX4_readToken_149 : decode cX4_readToken 149 = .ok (.aload_n 0, 1) := by decide +kernel
theorem dX4_readToken_150 : decode cX4_readToken 150 = .ok (.invokevirtual 145, 3) := by decide +kernel
theorem dX4_readToken_153 : decode cX4_readToken 153 = .ok (.goto 7, 3) := by decide +kernel
theorem dX4_readToken_156 : decode cX4_readToken 156 = .ok (.aload_n 0, 1) := by decide +kernel
theorem dX4_readToken_157 : decode cX4_readToken 157 = .ok (.invokevirtual 149, 3) := by decide +kernel
theorem dX4_readToken_160 : decode cX4_readToken 160 = .ok (.putfield 83, 3) := by decide +kernel
theorem dX4_readToken_163 : decode cX4_readToken 163 = .ok (.goto 38, 3) := by decide +kernel
theorem dX4_readToken_166 : decode cX4_readToken 166 = .ok (.aload_n 0, 1) := by decide +kernel
theorem dX4_readToken_167 : decode cX4_readToken 167 = .ok (.aload_n 0, 1) := by decide +kernel
theorem dX4_readToken_168 : decode cX4_readToken 168 = .ok (.invokevirtual 152, 3) := by decide +kernel
theorem dX4_readToken_171 : decode cX4_readToken 171 = .ok (.putfield 83, 3) := by decide +kernel
theorem dX4_readToken_174 : decode cX4_readToken 174 = .ok (.aload_n 0, 1) := by decide +kernel
theorem dX4_readToken_175 : decode cX4_readToken 175 = .ok (.aload_n 0, 1) := by decide +kernel
theorem dX4_readToken_176 : decode cX4_readToken 176 = .ok (.getfield 83, 3) := by decide +kernel
theorem dX4_readToken_179 : decode cX4_readToken 179 = .ok (.bipush (-20), 2) := by decide +kernel
theorem dX4_readToken_181 : decode cX4_readToken 181 = .ok (.if_icmp .eq 12, 3) := by decide +kernel
theorem dX4_readToken_184 : decode cX4_readToken 184 = .ok (.aload_n 0, 1) := by decide +kernel
theorem dX4_readToken_185 : decode cX4_readToken 185 = .ok (.getfield 83, 3) := by decide +kernel
theorem dX4_readToken_188 : decode cX4_readToken 188 = .ok (.bipush (-22), 2) := by decide +kernel
theorem dX4_readToken_190 : decode cX4_readToken 190 = .ok (.if_icmp .ne 7, 3) := by decide +kernel
theorem dX4_readToken_193 : decode cX4_readToken 193 = .ok (.iconst 2, 1) := by decide +kernel
theorem dX4_readToken_194 : decode cX4_readToken 194 = .ok (.goto 4, 3) := by decide +kernel
theorem dX4_readToken_197 : decode cX4_readToken 197 = .ok (.iconst 1, 1) := by decide +kernel
theorem dX4_readToken_198 : decode cX4_readToken 198 = .ok (.putfield 65, 3) := by decide +kernel
theorem dX4_readToken_201 : decode cX4_readToken 201 = .ok (.return_, 1) := by decide +kernel
theorem ce_X4_readToken : CeV RX4 yX4_readToken cX4_readToken 1 none 0 := ⟨tb_575, tp_2, tb_9, tb_576, rfl, by decide, by decide, by decide +kernel⟩
theorem dX4_popDownTo_0 : decode cX4_popDownTo 0 = .ok (.aload_n 0, 1) := by decide +kernel
theorem dX4_popDownTo_1 : decode cX4_popDownTo 1 = .ok (.getfield 32, 3) := by decide +kernel
theorem dX4_popDownTo_4 : decode cX4_popDownTo 4 = .ok (.ifCond .le 94, 3) := by decide +kernel
theorem dX4_popDownTo_7 : decode cX4_popDownTo 7 = .ok (.aload_n 0, 1) := by decide +kernel
theorem dX4_popDownTo_8 : decode cX4_popDownTo 8 = .ok (.getfield 15, 3) := by decide +kernel
theorem dX4_popDownTo_11 : decode cX4_popDownTo 11 = .ok (.aload_n 0, 1) := by decide +kernel
theorem dX4_popDownTo_12 : decode cX4_popDownTo 12 = .ok (.getfield 32, 3) := by decide +kernel
theorem dX4_popDownTo_15 : decode cX4_popDownTo 15 = .ok (.iconst 1, 1) := by decide +kernel
theorem dX4_popDownTo_16 : decode cX4_popDownTo 16 = .ok (.isub, 1) := by decide +kernel
theorem dX4_popDownTo_17 : decode cX4_popDownTo 17 = .ok (.iaload, 1) := by decide +kernel
theorem dX4_popDownTo_18 : decode cX4_popDownTo 18 = .ok (.bipush (-42), 2) := by decide +kernel
theorem dX4_popDownTo_20 : decode cX4_popDownTo 20 = .ok (.if_icmp .eq 78, 3) := by decide +kernel
theorem dX4_popDownTo_23 : decode cX4_popDownTo 23 = .ok (.aload_n 0, 1) := by decide +kernel
theorem dX4_popDownTo_24 : decode cX4_popDownTo 24 = .ok (.getfield 15, 3) := by decide +kernel
theorem dX4_popDownTo_27 : decode cX4_popDownTo 27 = .ok (.aload_n 0, 1) := by decide +kernel
theorem dX4_popDownTo_28 : decode cX4_popDownTo 28 = .ok (.getfield 32, 3) := by decide +kernel
theorem dX4_popDownTo_31 : decode cX4_popDownTo 31 = .ok (.iconst 1, 1) := by decide +kernel
theorem dX4_popDownTo_32 : decode cX4_popDownTo 32 = .ok (.isub, 1) := by decide +kernel
theorem dX4_popDownTo_33 : decode cX4_popDownTo 33 = .ok (.iaload, 1) := by decide +kernel
theorem dX4_popDownTo_34 : decode cX4_popDownTo 34 = .ok (.invokestatic 125, 3) := by decide +kernel
theorem dX4_popDownTo_37 : decode cX4_popDownTo 37 = .ok (.iload_n 1, 1) := by decide +kernel
theorem dX4_popDownTo_38 : decode cX4_popDownTo 38 = .ok (.if_icmp .lt 60, 3) := by decide +kernel
theorem dX4_popDownTo_41 : decode cX4_popDownTo 41 = .ok (.aload_n 0, 1) := by decide +kernel
theorem dX4_popDownTo_42 : decode cX4_popDownTo 42 = .ok (.dup, 1) := by decide +kernel
theorem dX4_popDownTo_43 : decode cX4_popDownTo 43 = .ok (.getfield 32, 3) := by decide +kernel
theorem dX4_popDownTo_46 : decode cX4_popDownTo 46 = .ok (.iconst 1, 1) := by decide +kernel
theorem dX4_popDownTo_47 : decode cX4_popDownTo 47 = .ok (.isub, 1) := by decide +kernel
theorem dX4_popDownTo_48 : decode cX4_popDownTo 48 = .ok (.putfield 32, 3) := by decide +kernel
theorem dX4_popDownTo_51 : decode cX4_popDownTo 51 = .ok (.aload_n 0, 1) := by decide +kernel
theorem dX4_popDownTo_52 : decode cX4_popDownTo 52 = .ok (.dup, 1) := by decide +kernel
theorem dX4_popDownTo_53 : decode cX4_popDownTo 53 = .ok (.getfield 35, 3) := by decide +kernel
theorem dX4_popDownTo_56 : decode cX4_popDownTo 56 = .ok (.aload_n 0, 1) := by decide +kernel
theorem dX4_popDownTo_57 : decode cX4_popDownTo 57 = .ok (.getfield 15, 3) := by decide +kernel
theorem dX4_popDownTo_60 : decode cX4_popDownTo 60 = .ok (.aload_n 0, 1) := by decide +kernel
theorem dX4_popDownTo_61 : decode cX4_popDownTo 61 = .ok (.getfield 32, 3) := by decide +kernel
theorem dX4_popDownTo_64 : decode cX4_popDownTo 64 = .ok (.iaload, 1) := by decide +kernel
theorem dX4_popDownTo_65 : decode cX4_popDownTo 65 = .ok (.bipush (-14), 2) := by decide +kernel
theorem dX4_popDownTo_67 : decode cX4_popDownTo 67 = .ok (.if_icmp .ne 7, 3) := by decide +kernel
theorem dX4_popDownTo_70 : decode cX4_popDownTo 70 = .ok (.iconst 1, 1) := by decide +kernel
theorem dX4_popDownTo_71 : decode cX4_popDownTo 71 = .ok (.goto 4, 3) := by decide +kernel
theorem dX4_popDownTo_74 : decode cX4_popDownTo 74 = .ok (.iconst 0, 1) := by decide +kernel
theorem dX4_popDownTo_75 : decode cX4_popDownTo 75 = .ok (.isub, 1) := by decide +kernel
theorem dX4_popDownTo_76 : decode cX4_popDownTo 76 = .ok (.putfield 35, 3) := by decide +kernel
theorem dX4_popDownTo_79 : decode cX4_popDownTo 79 = .ok (.aload_n 0, 1) := by decide +kernel
theorem dX4_popDownTo_80 : decode cX4_popDownTo 80 = .ok (.getfield 50, 3) := by decide +kernel
theorem dX4_popDownTo_83 : decode cX4_popDownTo 83 = .ok (.aload_n 0, 1) := by decide +kernel
theorem dX4_popDownTo_84 : decode cX4_popDownTo 84 = .ok (.getfield 15, 3) := by decide +kernel
theorem dX4_popDownTo_87 : decode cX4_popDownTo 87 = .ok (.aload_n 0, 1) := by decide +kernel
theorem dX4_popDownTo_88 : decode cX4_popDownTo 88 = .ok (.getfield 32, 3) := by decide +kernel
theorem dX4_popDownTo_91 : decode cX4_popDownTo 91 = .ok (.iaload, 1) := by decide +kernel
theorem dX4_popDownTo_92 : decode cX4_popDownTo 92 = .ok (.invokevirtual 106, 3) := by decide +kernel
theorem dX4_popDownTo_95 : decode cX4_popDownTo 95 = .ok (.goto (-95), 3) := by decide +kernel
theorem dX4_popDownTo_98 : decode cX4_popDownTo 98 = .ok (.return_, 1) := by decide +kernel
theorem ce_X4_popDownTo : CeV RX4 yX4_popDownTo cX4_popDownTo 2 none 1 := ⟨tb_718, tp_19, tb_9, tb_719, rfl, by decide, by decide, by decide +kernel⟩
theorem dX4_takeSign_0 : decode cX4_takeSign 0 = .ok (.aload_n 0, 1) := by decide +kernel
theorem dX4_takeSign_1 : decode cX4_takeSign 1 = .ok (.aload_n 0, 1) := by decide +kernel
theorem dX4_takeSign_2 : decode cX4_takeSign 2 = .ok (.getfield 83, 3) := by decide +kernel
theorem dX4_takeSign_5 : decode cX4_takeSign 5 = .ok (.invokestatic 125, 3) := by decide +kernel
theorem dX4_takeSign_8 : decode cX4_takeSign 8 = .ok (.invokevirtual 116, 3) := by decide +kernel
theorem dX4_takeSign_11 : decode cX4_takeSign 11 = .ok (.aload_n 0, 1) := by decide +kernel
theorem dX4_takeSign_12 : decode cX4_takeSign 12 = .ok (.aload_n 0, 1) := by decide +kernel
theorem dX4_takeSign_13 : decode cX4_takeSign 13 = .ok (.getfield 83, 3) := by decide +kernel
theorem dX4_takeSign_16 : decode cX4_takeSign 16 = .ok (.invokevirtual 99, 3) := by decide +kernel
theorem dX4_takeSign_19 : decode cX4_takeSign 19 = .ok (.aload_n 0, 1) := by decide +kernel
theorem dX4_takeSign_20 : decode cX4_takeSign 20 = .ok (.iload_n 1, 1) := by decide +kernel
theorem dX4_takeSign_21 : decode cX4_takeSign 21 = .ok (.putfield 96, 3) := by decide +kernel
theorem dX4_takeSign_24 : decode cX4_takeSign 24 = .ok (.aload_n 0, 1) := by decide +kernel
theorem dX4_takeSign_25 : decode cX4_takeSign 25 = .ok (.iload_n 2, 1) := by decide +kernel
theorem dX4_takeSign_26 : decode cX4_takeSign 26 = .ok (.putfield 47, 3) := by decide +kernel
theorem dX4_takeSign_29 : decode cX4_takeSign 29 = .ok (.return_, 1) := by decide +kernel
theorem ce_X4_takeSign : CeV RX4 yX4_takeSign cX4_takeSign 3 none 2 := ⟨tb_711, tp_18, tb_9, tb_712, rfl, by decide, by decide, by decide +kernel⟩
theorem dX4_closeBracket_0 : decode cX4_closeBracket 0 = .ok (.aload_n 0, 1) := by decide +kernel
theorem dX4_closeBracket_1 : decode cX4_closeBracket 1 = .ok (.bipush (-25), 2) := by decide +kernel
theorem dX4_closeBracket_3 : decode cX4_closeBracket 3 = .ok (.invokestatic 125, 3) := by decide +kernel
theorem dX4_closeBracket_6 : decode cX4_closeBracket 6 = .ok (.invokevirtual 116, 3) := by decide +kernel
theorem dX4_closeBracket_9 : decode cX4_closeBracket 9 = .ok (.aload_n 0, 1) := by decide +kernel
theorem dX4_closeBracket_10 : decode cX4_closeBracket 10 = .ok (.getfield 32, 3) := by decide +kernel
theorem dX4_closeBracket_13 : decode cX4_closeBracket 13 = .ok (.ifCond .le 13, 3) := by decide +kernel
theorem dX4_closeBracket_16 : decode cX4_closeBracket 16 = .ok (.aload_n 0, 1) := by decide +kernel
theorem dX4_closeBracket_17 : decode cX4_closeBracket 17 = .ok (.dup, 1) := by decide +kernel
theorem dX4_closeBracket_18 : decode cX4_closeBracket 18 = .ok (.getfield 32, 3) := by decide +kernel
theorem dX4_closeBracket_21 : decode cX4_closeBracket 21 = .ok (.iconst 1, 1) := by decide +kernel
theorem dX4_closeBracket_22 : decode cX4_closeBracket 22 = .ok (.isub, 1) := by decide +kernel
theorem dX4_closeBracket_23 : decode cX4_closeBracket 23 = .ok (.putfield 32, 3) := by decide +kernel
theorem dX4_closeBracket_26 : decode cX4_closeBracket 26 = .ok (.aload_n 0, 1) := by decide +kernel
theorem dX4_closeBracket_27 : decode cX4_closeBracket 27 = .ok (.dup, 1) := by decide +kernel
theorem dX4_closeBracket_28 : decode cX4_closeBracket 28 = .ok (.getfield 35, 3) := by decide +kernel
theorem dX4_closeBracket_31 : decode cX4_closeBracket 31 = .ok (.iconst 1, 1) := by decide +kernel
theorem dX4_closeBracket_32 : decode cX4_closeBracket 32 = .ok (.isub, 1) := by decide +kernel
theorem dX4_closeBracket_33 : decode cX4_closeBracket 33 = .ok (.putfield 35, 3) := by decide +kernel
theorem dX4_closeBracket_36 : decode cX4_closeBracket 36 = .ok (.aload_n 0, 1) := by decide +kernel
theorem dX4_closeBracket_37 : decode cX4_closeBracket 37 = .ok (.dup, 1) := by decide +kernel
theorem dX4_closeBracket_38 : decode cX4_closeBracket 38 = .ok (.getfield 38, 3) := by decide +kernel
theorem dX4_closeBracket_41 : decode cX4_closeBracket 41 = .ok (.iconst 1, 1) := by decide +kernel
theorem dX4_closeBracket_42 : decode cX4_closeBracket 42 = .ok (.isub, 1) := by decide +kernel
theorem dX4_closeBracket_43 : decode cX4_closeBracket 43 = .ok (.putfield 38, 3) := by decide +kernel
theorem dX4_closeBracket_46 : decode cX4_closeBracket 46 = .ok (.aload_n 0, 1) := by decide +kernel
theorem dX4_closeBracket_47 : decode cX4_closeBracket 47 = .ok (.iconst 3, 1) := by decide +kernel
theorem dX4_closeBracket_48 : decode cX4_closeBracket 48 = .ok (.putfield 96, 3) := by decide +kernel
theorem dX4_closeBracket_51 : decode cX4_closeBracket 51 = .ok (.return_, 1) := by decide +kernel
theorem ce_X4_closeBracket : CeV RX4 yX4_closeBracket cX4_closeBracket 1 none 0 := ⟨tb_722, tp_20, tb_9, tb_723, rfl, by decide, by decide, by decide +kernel⟩
theorem dX4_takeClauseEnd_0 : decode cX4_takeClauseEnd 0 = .ok (.aload_n 0, 1) := by decide +kernel
theorem dX4_takeClauseEnd_1 : decode cX4_takeClauseEnd 1 = .ok (.bipush (-25), 2) := by decide +kernel
theorem dX4_takeClauseEnd_3 : decode cX4_takeClauseEnd 3 = .ok (.invokestatic 125, 3) := by decide +kernel
theorem dX4_takeClauseEnd_6 : decode cX4_takeClauseEnd 6 = .ok (.invokevirtual 116, 3) := by decide +kernel
theorem dX4_takeClauseEnd_9 : decode cX4_takeClauseEnd 9 = .ok (.aload_n 0, 1) := by decide +kernel
theorem dX4_takeClauseEnd_10 : decode cX4_takeClauseEnd 10 = .ok (.getfield 96, 3) := by decide +kernel
theorem dX4_takeClauseEnd_13 : decode cX4_takeClauseEnd 13 = .ok (.ifCond .ne 10, 3) := by decide +kernel
theorem dX4_takeClauseEnd_16 : decode cX4_takeClauseEnd 16 = .ok (.aload_n 0, 1) := by decide +kernel
theorem dX4_takeClauseEnd_17 : decode cX4_takeClauseEnd 17 = .ok (.getfield 50, 3) := by decide +kernel
theorem dX4_takeClauseEnd_20 : decode cX4_takeClauseEnd 20 = .ok (.invokevirtual 119, 3) := by decide +kernel
theorem dX4_takeClauseEnd_23 : decode cX4_takeClauseEnd 23 = .ok (.aload_n 0, 1) := by decide +kernel
theorem dX4_takeClauseEnd_24 : decode cX4_takeClauseEnd 24 = .ok (.getfield 50, 3) := by decide +kernel
theorem dX4_takeClauseEnd_27 : decode cX4_takeClauseEnd 27 = .ok (.invokevirtual 129, 3) := by decide +kernel
theorem dX4_takeClauseEnd_30 : decode cX4_takeClauseEnd 30 = .ok (.aload_n 0, 1) := by decide +kernel
theorem dX4_takeClauseEnd_31 : decode cX4_takeClauseEnd 31 = .ok (.aload_n 0, 1) := by decide +kernel
theorem dX4_takeClauseEnd_32 : decode cX4_takeClauseEnd 32 = .ok (.getfield 83, 3) := by decide +kernel
theorem dX4_takeClauseEnd_35 : decode cX4_takeClauseEnd 35 = .ok (.bipush (-44), 2) := by decide +kernel
theorem dX4_takeClauseEnd_37 : decode cX4_takeClauseEnd 37 = .ok (.if_icmp .ne 7, 3) := by decide +kernel
theorem dX4_takeClauseEnd_40 : decode cX4_takeClauseEnd 40 = .ok (.iconst 0, 1) := by decide +kernel
theorem dX4_takeClauseEnd_41 : decode cX4_takeClauseEnd 41 = .ok (.goto 4, 3) := by decide +kernel
theorem dX4_takeClauseEnd_44 : decode cX4_takeClauseEnd 44 = .ok (.iconst 5, 1) := by decide +kernel
theorem dX4_takeClauseEnd_45 : decode cX4_takeClauseEnd 45 = .ok (.putfield 47, 3) := by decide +kernel
theorem dX4_takeClauseEnd_48 : decode cX4_takeClauseEnd 48 = .ok (.return_, 1) := by decide +kernel
theorem ce_X4_takeClauseEnd : CeV RX4 yX4_takeClauseEnd cX4_takeClauseEnd 1 none 0 := ⟨tb_730, tp_21, tb_9, tb_731, rfl, by decide, by decide, by decide +kernel⟩
theorem dX4_takeTurn_0 : decode cX4_takeTurn 0 = .ok (.aload_n 0, 1) := by decide +kernel
theorem dX4_takeTurn_1 : decode cX4_takeTurn 1 = .ok (.getfield 83, 3) := by decide +kernel
theorem dX4_takeTurn_4 : decode cX4_takeTurn 4 = .ok (.bipush (-40), 2) := by decide +kernel
theorem dX4_takeTurn_6 : decode cX4_takeTurn 6 = .ok (.if_icmp .eq 11, 3) := by decide +kernel
theorem dX4_takeTurn_9 : decode cX4_takeTurn 9 = .ok (.aload_n 0, 1) := by decide +kernel
theorem dX4_takeTurn_10 : decode cX4_takeTurn 10 = .ok (.iconst 0, 1) := by decide +kernel
theorem dX4_takeTurn_11 : decode cX4_takeTurn 11 = .ok (.invokevirtual 86, 3) := by decide +kernel
theorem dX4_takeTurn_14 : decode cX4_takeTurn 14 = .ok (.goto 28, 3) := by decide +kernel
theorem dX4_takeTurn_17 : decode cX4_takeTurn 17 = .ok (.aload_n 0, 1) := by decide +kernel
theorem dX4_takeTurn_18 : decode cX4_takeTurn 18 = .ok (.getfield 50, 3) := by decide +kernel
theorem dX4_takeTurn_21 : decode cX4_takeTurn 21 = .ok (.getfield 90, 3) := by decide +kernel
theorem dX4_takeTurn_24 : decode cX4_takeTurn 24 = .ok (.bipush 12, 2) := by decide +kernel
theorem dX4_takeTurn_26 : decode cX4_takeTurn 26 = .ok (.if_icmp .lt 11, 3) := by decide +kernel
theorem dX4_takeTurn_29 : decode cX4_takeTurn 29 = .ok (.aload_n 0, 1) := by decide +kernel
theorem dX4_takeTurn_30 : decode cX4_takeTurn 30 = .ok (.iconst 4, 1) := by decide +kernel
theorem dX4_takeTurn_31 : decode cX4_takeTurn 31 = .ok (.invokevirtual 86, 3) := by decide +kernel
theorem dX4_takeTurn_34 : decode cX4_takeTurn 34 = .ok (.goto 8, 3) := by decide +kernel
theorem dX4_takeTurn_37 : decode cX4_takeTurn 37 = .ok (.aload_n 0, 1) := by decide +kernel
theorem dX4_takeTurn_38 : decode cX4_takeTurn 38 = .ok (.iconst 1, 1) := by decide +kernel
theorem dX4_takeTurn_39 : decode cX4_takeTurn 39 = .ok (.putfield 47, 3) := by decide +kernel
theorem dX4_takeTurn_42 : decode cX4_takeTurn 42 = .ok (.return_, 1) := by decide +kernel
theorem ce_X4_takeTurn : CeV RX4 yX4_takeTurn cX4_takeTurn 1 none 0 := ⟨tb_671, tp_10, tb_9, tb_672, rfl, by decide, by decide, by decide +kernel⟩
theorem dX4_takeMirror_0 : decode cX4_takeMirror 0 = .ok (.aload_n 0, 1) := by decide +kernel
theorem dX4_takeMirror_1 : decode cX4_takeMirror 1 = .ok (.getfield 83, 3) := by decide +kernel
theorem dX4_takeMirror_4 : decode cX4_takeMirror 4 = .ok (.ifCond .ge 20, 3) := by decide +kernel
theorem dX4_takeMirror_7 : decode cX4_takeMirror 7 = .ok (.aload_n 0, 1) := by decide +kernel
theorem dX4_takeMirror_8 : decode cX4_takeMirror 8 = .ok (.getfield 83, 3) := by decide +kernel
theorem dX4_takeMirror_11 : decode cX4_takeMirror 11 = .ok (.bipush (-46), 2) := by decide +kernel
theorem dX4_takeMirror_13 : decode cX4_takeMirror 13 = .ok (.if_icmp .eq 11, 3) := by decide +kernel
theorem dX4_takeMirror_16 : decode cX4_takeMirror 16 = .ok (.aload_n 0, 1) := by decide +kernel
theorem dX4_takeMirror_17 : decode cX4_takeMirror 17 = .ok (.iconst 0, 1) := by decide +kernel
theorem dX4_takeMirror_18 : decode cX4_takeMirror 18 = .ok (.invokevirtual 86, 3) := by decide +kernel
theorem dX4_takeMirror_21 : decode cX4_takeMirror 21 = .ok (.goto 48, 3) := by decide +kernel
theorem dX4_takeMirror_24 : decode cX4_takeMirror 24 = .ok (.aload_n 0, 1) := by decide +kernel
theorem dX4_takeMirror_25 : decode cX4_takeMirror 25 = .ok (.getfield 83, 3) := by decide +kernel
theorem dX4_takeMirror_28 : decode cX4_takeMirror 28 = .ok (.ifCond .lt 12, 3) := by decide +kernel
theorem dX4_takeMirror_31 : decode cX4_takeMirror 31 = .ok (.aload_n 0, 1) := by decide +kernel
theorem dX4_takeMirror_32 : decode cX4_takeMirror 32 = .ok (.getfield 83, 3) := by decide +kernel
theorem dX4_takeMirror_35 : decode cX4_takeMirror 35 = .ok (.bipush 24, 2) := by decide +kernel
theorem dX4_takeMirror_37 : decode cX4_takeMirror 37 = .ok (.if_icmp .lt 11, 3) := by decide +kernel
theorem dX4_takeMirror_40 : decode cX4_takeMirror 40 = .ok (.aload_n 0, 1) := by decide +kernel
theorem dX4_takeMirror_41 : decode cX4_takeMirror 41 = .ok (.iconst 1, 1) := by decide +kernel
theorem dX4_takeMirror_42 : decode cX4_takeMirror 42 = .ok (.invokevirtual 86, 3) := by decide +kernel
theorem dX4_takeMirror_45 : decode cX4_takeMirror 45 = .ok (.goto 24, 3) := by decide +kernel
theorem dX4_takeMirror_48 : decode cX4_takeMirror 48 = .ok (.aload_n 0, 1) := by decide +kernel
theorem dX4_takeMirror_49 : decode cX4_takeMirror 49 = .ok (.getfield 50, 3) := by decide +kernel
theorem dX4_takeMirror_52 : decode cX4_takeMirror 52 = .ok (.aload_n 0, 1) := by decide +kernel
theorem dX4_takeMirror_53 : decode cX4_takeMirror 53 = .ok (.getfield 83, 3) := by decide +kernel
theorem dX4_takeMirror_56 : decode cX4_takeMirror 56 = .ok (.invokevirtual 93, 3) := by decide +kernel
theorem dX4_takeMirror_59 : decode cX4_takeMirror 59 = .ok (.aload_n 0, 1) := by decide +kernel
theorem dX4_takeMirror_60 : decode cX4_takeMirror 60 = .ok (.iconst 0, 1) := by decide +kernel
theorem dX4_takeMirror_61 : decode cX4_takeMirror 61 = .ok (.putfield 96, 3) := by decide +kernel
theorem dX4_takeMirror_64 : decode cX4_takeMirror 64 = .ok (.aload_n 0, 1) := by decide +kernel
theorem dX4_takeMirror_65 : decode cX4_takeMirror 65 = .ok (.iconst 3, 1) := by decide +kernel
theorem dX4_takeMirror_66 : decode cX4_takeMirror 66 = .ok (.putfield 47, 3) := by decide +kernel
theorem dX4_takeMirror_69 : decode cX4_takeMirror 69 = .ok (.return_, 1) := by decide +kernel
theorem ce_X4_takeMirror : CeV RX4 yX4_takeMirror cX4_takeMirror 1 none 0 := ⟨tb_679, tp_12, tb_9, tb_680, rfl, by decide, by decide, by decide +kernel⟩
theorem dX4_takeValue_0 : decode cX4_takeValue 0 = .ok (.aload_n 0, 1) := by decide +kernel
theorem dX4_takeValue_1 : decode cX4_takeValue 1 = .ok (.getfield 83, 3) := by decide +kernel
theorem dX4_takeValue_4 : decode cX4_takeValue 4 = .ok (.bipush (-46), 2) := by decide +kernel
theorem dX4_takeValue_6 : decode cX4_takeValue 6 = .ok (.if_icmp .ne 11, 3) := by decide +kernel
theorem dX4_takeValue_9 : decode cX4_takeValue 9 = .ok (.aload_n 0, 1) := by decide +kernel
theorem dX4_takeValue_10 : decode cX4_takeValue 10 = .ok (.iconst 1, 1) := by decide +kernel
theorem dX4_takeValue_11 : decode cX4_takeValue 11 = .ok (.invokevirtual 86, 3) := by decide +kernel
theorem dX4_takeValue_14 : decode cX4_takeValue 14 = .ok (.goto 43, 3) := by decide +kernel
theorem dX4_takeValue_17 : decode cX4_takeValue 17 = .ok (.aload_n 0, 1) := by decide +kernel
theorem dX4_takeValue_18 : decode cX4_takeValue 18 = .ok (.getfield 83, 3) := by decide +kernel
theorem dX4_takeValue_21 : decode cX4_takeValue 21 = .ok (.bipush (-14), 2) := by decide +kernel
theorem dX4_takeValue_23 : decode cX4_takeValue 23 = .ok (.if_icmp .gt 11, 3) := by decide +kernel
theorem dX4_takeValue_26 : decode cX4_takeValue 26 = .ok (.aload_n 0, 1) := by decide +kernel
theorem dX4_takeValue_27 : decode cX4_takeValue 27 = .ok (.iconst 0, 1) := by decide +kernel
theorem dX4_takeValue_28 : decode cX4_takeValue 28 = .ok (.invokevirtual 86, 3) := by decide +kernel
theorem dX4_takeValue_31 : decode cX4_takeValue 31 = .ok (.goto 26, 3) := by decide +kernel
theorem dX4_takeValue_34 : decode cX4_takeValue 34 = .ok (.aload_n 0, 1) := by decide +kernel
theorem dX4_takeValue_35 : decode cX4_takeValue 35 = .ok (.invokevirtual 102, 3) := by decide +kernel
theorem dX4_takeValue_38 : decode cX4_takeValue 38 = .ok (.ifCond .eq 19, 3) := by decide +kernel
theorem dX4_takeValue_41 : decode cX4_takeValue 41 = .ok (.aload_n 0, 1) := by decide +kernel
theorem dX4_takeValue_42 : decode cX4_takeValue 42 = .ok (.getfield 50, 3) := by decide +kernel
theorem dX4_takeValue_45 : decode cX4_takeValue 45 = .ok (.aload_n 0, 1) := by decide +kernel
theorem dX4_takeValue_46 : decode cX4_takeValue 46 = .ok (.getfield 83, 3) := by decide +kernel
theorem dX4_takeValue_49 : decode cX4_takeValue 49 = .ok (.invokevirtual 106, 3) := by decide +kernel
theorem dX4_takeValue_52 : decode cX4_takeValue 52 = .ok (.aload_n 0, 1) := by decide +kernel
theorem dX4_takeValue_53 : decode cX4_takeValue 53 = .ok (.iconst 4, 1) := by decide +kernel
theorem dX4_takeValue_54 : decode cX4_takeValue 54 = .ok (.putfield 47, 3) := by decide +kernel
theorem dX4_takeValue_57 : decode cX4_takeValue 57 = .ok (.return_, 1) := by decide +kernel
theorem ce_X4_takeValue : CeV RX4 yX4_takeValue cX4_takeValue 1 none 0 := ⟨tb_691, tp_14, tb_9, tb_692, rfl, by decide, by decide, by decide +kernel⟩
theorem dX4_takeFact_0 : decode cX4_takeFact 0 = .ok (.aload_n 0, 1) := by decide +kernel
theorem dX4_takeFact_1 : decode cX4_takeFact 1 = .ok (.getfield 83, 3) := by decide +kernel
theorem dX4_takeFact_4 : decode cX4_takeFact 4 = .ok (.bipush (-14), 2) := by decide +kernel
theorem dX4_takeFact_6 : decode cX4_takeFact 6 = .ok (.if_icmp .eq 24, 3) := by decide +kernel
theorem dX4_takeFact_9 : decode cX4_takeFact 9 = .ok (.aload_n 0, 1) := by decide +kernel
theorem dX4_takeFact_10 : decode cX4_takeFact 10 = .ok (.getfield 83, 3) := by decide +kernel
theorem dX4_takeFact_13 : decode cX4_takeFact 13 = .ok (.bipush (-42), 2) := by decide +kernel
theorem dX4_takeFact_15 : decode cX4_takeFact 15 = .ok (.if_icmp .eq 15, 3) := by decide +kernel
theorem dX4_takeFact_18 : decode cX4_takeFact 18 = .ok (.aload_n 0, 1) := by decide +kernel
theorem dX4_takeFact_19 : decode cX4_takeFact 19 = .ok (.iconst 1, 1) := by decide +kernel
theorem dX4_takeFact_20 : decode cX4_takeFact 20 = .ok (.putfield 96, 3) := by decide +kernel
theorem dX4_takeFact_23 : decode cX4_takeFact 23 = .ok (.aload_n 0, 1) := by decide +kernel
theorem dX4_takeFact_24 : decode cX4_takeFact 24 = .ok (.invokevirtual 77, 3) := by decide +kernel
theorem dX4_takeFact_27 : decode cX4_takeFact 27 = .ok (.goto 61, 3) := by decide +kernel
theorem dX4_takeFact_30 : decode cX4_takeFact 30 = .ok (.aload_n 0, 1) := by decide +kernel
theorem dX4_takeFact_31 : decode cX4_takeFact 31 = .ok (.getfield 35, 3) := by decide +kernel
theorem dX4_takeFact_34 : decode cX4_takeFact 34 = .ok (.bipush 10, 2) := by decide +kernel
theorem dX4_takeFact_36 : decode cX4_takeFact 36 = .ok (.if_icmp .lt 11, 3) := by decide +kernel
theorem dX4_takeFact_39 : decode cX4_takeFact 39 = .ok (.aload_n 0, 1) := by decide +kernel
theorem dX4_takeFact_40 : decode cX4_takeFact 40 = .ok (.iconst 2, 1) := by decide +kernel
theorem dX4_takeFact_41 : decode cX4_takeFact 41 = .ok (.invokevirtual 86, 3) := by decide +kernel
theorem dX4_takeFact_44 : decode cX4_takeFact 44 = .ok (.goto 44, 3) := by decide +kernel
theorem dX4_takeFact_47 : decode cX4_takeFact 47 = .ok (.aload_n 0, 1) := by decide +kernel
theorem dX4_takeFact_48 : decode cX4_takeFact 48 = .ok (.dup, 1) := by decide +kernel
theorem dX4_takeFact_49 : decode cX4_takeFact 49 = .ok (.getfield 35, 3) := by decide +kernel
theorem dX4_takeFact_52 : decode cX4_takeFact 52 = .ok (.iconst 1, 1) := by decide +kernel
theorem dX4_takeFact_53 : decode cX4_takeFact 53 = .ok (.iadd, 1) := by decide +kernel
theorem dX4_takeFact_54 : decode cX4_takeFact 54 = .ok (.putfield 35, 3) := by decide +kernel
theorem dX4_takeFact_57 : decode cX4_takeFact 57 = .ok (.aload_n 0, 1) := by decide +kernel
theorem dX4_takeFact_58 : decode cX4_takeFact 58 = .ok (.dup, 1) := by decide +kernel
theorem dX4_takeFact_59 : decode cX4_takeFact 59 = .ok (.getfield 38, 3) := by decide +kernel
theorem dX4_takeFact_62 : decode cX4_takeFact 62 = .ok (.aload_n 0, 1) := by decide +kernel
theorem dX4_takeFact_63 : decode cX4_takeFact 63 = .ok (.getfield 83, 3) := by decide +kernel
theorem dX4_takeFact_66 : decode cX4_takeFact 66 = .ok (.bipush (-42), 2) := by decide +kernel
theorem dX4_takeFact_68 : decode cX4_takeFact 68 = .ok (.if_icmp .ne 7, 3) := by decide +kernel
theorem dX4_takeFact_71 : decode cX4_takeFact 71 = .ok (.iconst 1, 1) := by decide +kernel
theorem dX4_takeFact_72 : decode cX4_takeFact 72 = .ok (.goto 4, 3) := by decide +kernel
theorem dX4_takeFact_75 : decode cX4_takeFact 75 = .ok (.iconst 0, 1) := by decide +kernel
theorem dX4_takeFact_76 : decode cX4_takeFact 76 = .ok (.iadd, 1) := by decide +kernel
theorem dX4_takeFact_77 : decode cX4_takeFact 77 = .ok (.putfield 38, 3) := by decide +kernel
theorem dX4_takeFact_80 : decode cX4_takeFact 80 = .ok (.aload_n 0, 1) := by decide +kernel
theorem dX4_takeFact_81 : decode cX4_takeFact 81 = .ok (.aload_n 0, 1) := by decide +kernel
theorem dX4_takeFact_82 : decode cX4_takeFact 82 = .ok (.getfield 83, 3) := by decide +kernel
theorem dX4_takeFact_85 : decode cX4_takeFact 85 = .ok (.invokevirtual 99, 3) := by decide +kernel
theorem dX4_takeFact_88 : decode cX4_takeFact 88 = .ok (.return_, 1) := by decide +kernel
theorem ce_X4_takeFact : CeV RX4 yX4_takeFact cX4_takeFact 1 none 0 := ⟨tb_687, tp_13, tb_9, tb_688, rfl, by decide, by decide, by decide +kernel⟩
theorem dX4_takeBehind_0 : decode cX4_takeBehind 0 = .ok (.aload_n 0, 1) := by decide +kernel
theorem dX4_takeBehind_1 : decode cX4_takeBehind 1 = .ok (.getfield 96, 3) := by decide +kernel
theorem dX4_takeBehind_4 : decode cX4_takeBehind 4 = .ok (.iconst 2, 1) := by decide +kernel
theorem dX4_takeBehind_5 : decode cX4_takeBehind 5 = .ok (.if_icmp .eq 11, 3) := by decide +kernel
theorem dX4_takeBehind_8 : decode cX4_takeBehind 8 = .ok (.aload_n 0, 1) := by decide +kernel
theorem dX4_takeBehind_9 : decode cX4_takeBehind 9 = .ok (.getfield 96, 3) := by decide +kernel
theorem dX4_takeBehind_12 : decode cX4_takeBehind 12 = .ok (.iconst 3, 1) := by decide +kernel
theorem dX4_takeBehind_13 : decode cX4_takeBehind 13 = .ok (.if_icmp .ne 7, 3) := by decide +kernel
theorem dX4_takeBehind_16 : decode cX4_takeBehind 16 = .ok (.iconst 1, 1) := by decide +kernel
theorem dX4_takeBehind_17 : decode cX4_takeBehind 17 = .ok (.goto 4, 3) := by decide +kernel
theorem dX4_takeBehind_20 : decode cX4_takeBehind 20 = .ok (.iconst 0, 1) := by decide +kernel
theorem dX4_takeBehind_21 : decode cX4_takeBehind 21 = .ok (.istore_n 1, 1) := by decide +kernel
theorem dX4_takeBehind_22 : decode cX4_takeBehind 22 = .ok (.aload_n 0, 1) := by decide +kernel
theorem dX4_takeBehind_23 : decode cX4_takeBehind 23 = .ok (.getfield 83, 3) := by decide +kernel
theorem dX4_takeBehind_26 : decode cX4_takeBehind 26 = .ok (.bipush (-15), 2) := by decide +kernel
theorem dX4_takeBehind_28 : decode cX4_takeBehind 28 = .ok (.if_icmp .gt 32, 3) := by decide +kernel
theorem dX4_takeBehind_31 : decode cX4_takeBehind 31 = .ok (.aload_n 0, 1) := by decide +kernel
theorem dX4_takeBehind_32 : decode cX4_takeBehind 32 = .ok (.getfield 83, 3) := by decide +kernel
theorem dX4_takeBehind_35 : decode cX4_takeBehind 35 = .ok (.bipush (-18), 2) := by decide +kernel
theorem dX4_takeBehind_37 : decode cX4_takeBehind 37 = .ok (.if_icmp .lt 23, 3) := by decide +kernel
theorem dX4_takeBehind_40 : decode cX4_takeBehind 40 = .ok (.aload_n 0, 1) := by decide +kernel
theorem dX4_takeBehind_41 : decode cX4_takeBehind 41 = .ok (.getfield 96, 3) := by decide +kernel
theorem dX4_takeBehind_44 : decode cX4_takeBehind 44 = .ok (.iconst 3, 1) := by decide +kernel
theorem dX4_takeBehind_45 : decode cX4_takeBehind 45 = .ok (.if_icmp .eq 15, 3) := by decide +kernel
theorem dX4_takeBehind_48 : decode cX4_takeBehind 48 = .ok (.aload_n 0, 1) := by decide +kernel
theorem dX4_takeBehind_49 : decode cX4_takeBehind 49 = .ok (.aload_n 0, 1) := by decide +kernel
theorem dX4_takeBehind_50 : decode cX4_takeBehind 50 = .ok (.getfield 96, 3) := by decide +kernel
theorem dX4_takeBehind_53 : decode cX4_takeBehind 53 = .ok (.iconst 3, 1) := by decide +kernel
theorem dX4_takeBehind_54 : decode cX4_takeBehind 54 = .ok (.invokevirtual 109, 3) := by decide +kernel
theorem dX4_takeBehind_57 : decode cX4_takeBehind 57 = .ok (.goto 184, 3) := by decide +kernel
theorem dX4_takeBehind_60 : decode cX4_takeBehind 60 = .ok (.aload_n 0, 1) := by decide +kernel
theorem dX4_takeBehind_61 : decode cX4_takeBehind 61 = .ok (.getfield 83, 3) := by decide +kernel
theorem dX4_takeBehind_64 : decode cX4_takeBehind 64 = .ok (.bipush (-19), 2) := by decide +kernel
theorem dX4_takeBehind_66 : decode cX4_takeBehind 66 = .ok (.if_icmp .gt 36, 3) := by decide +kernel
theorem dX4_takeBehind_69 : decode cX4_takeBehind 69 = .ok (.aload_n 0, 1) := by decide +kernel
theorem dX4_takeBehind_70 : decode cX4_takeBehind 70 = .ok (.getfield 83, 3) := by decide +kernel
theorem dX4_takeBehind_73 : decode cX4_takeBehind 73 = .ok (.bipush (-23), 2) := by decide +kernel
theorem dX4_takeBehind_75 : decode cX4_takeBehind 75 = .ok (.if_icmp .lt 27, 3) := by decide +kernel
theorem dX4_takeBehind_78 : decode cX4_takeBehind 78 = .ok (.aload_n 0, 1) := by decide +kernel
theorem dX4_takeBehind_79 : decode cX4_takeBehind 79 = .ok (.getfield 96, 3) := by decide +kernel
theorem dX4_takeBehind_82 : decode cX4_takeBehind 82 = .ok (.iconst 1, 1) := by decide +kernel
theorem dX4_takeBehind_83 : decode cX4_takeBehind 83 = .ok (.if_icmp .ne 19, 3) := by decide +kernel
theorem dX4_takeBehind_86 : decode cX4_takeBehind 86 = .ok (.aload_n 0, 1) := by decide +kernel
theorem dX4_takeBehind_87 : decode cX4_takeBehind 87 = .ok (.invokevirtual 102, 3) := by decide +kernel
theorem dX4_takeBehind_90 : decode cX4_takeBehind 90 = .ok (.ifCond .eq 151, 3) := by decide +kernel
theorem dX4_takeBehind_93 : decode cX4_takeBehind 93 = .ok (.aload_n 0, 1) := by decide +kernel
theorem dX4_takeBehind_94 : decode cX4_takeBehind 94 = .ok (.iconst 2, 1) := by decide +kernel
theorem dX4_takeBehind_95 : decode cX4_takeBehind 95 = .ok (.iconst 3, 1) := by decide +kernel
theorem dX4_takeBehind_96 : decode cX4_takeBehind 96 = .ok (.invokevirtual 109, 3) := by decide +kernel
theorem dX4_takeBehind_99 : decode cX4_takeBehind 99 = .ok (.goto 142, 3) := by decide +kernel
theorem dX4_takeBehind_102 : decode cX4_takeBehind 102 = .ok (.aload_n 0, 1) := by decide +kernel
theorem dX4_takeBehind_103 : decode cX4_takeBehind 103 = .ok (.getfield 83, 3) := by decide +kernel
theorem dX4_takeBehind_106 : decode cX4_takeBehind 106 = .ok (.bipush (-24), 2) := by decide +kernel
theorem dX4_takeBehind_108 : decode cX4_takeBehind 108 = .ok (.if_icmp .eq 12, 3) := by decide +kernel
theorem dX4_takeBehind_111 : decode cX4_takeBehind 111 = .ok (.aload_n 0, 1) := by decide +kernel
theorem dX4_takeBehind_112 : decode cX4_takeBehind 112 = .ok (.getfield 83, 3) := by decide +kernel
theorem dX4_takeBehind_115 : decode cX4_takeBehind 115 = .ok (.bipush (-25), 2) := by decide +kernel
theorem dX4_takeBehind_117 : decode cX4_takeBehind 117 = .ok (.if_icmp .ne 16, 3) := by decide +kernel
theorem dX4_takeBehind_120 : decode cX4_takeBehind 120 = .ok (.iload_n 1, 1) := by decide +kernel
theorem dX4_takeBehind_121 : decode cX4_takeBehind 121 = .ok (.ifCond .eq 12, 3) := by decide +kernel
theorem dX4_takeBehind_124 : decode cX4_takeBehind 124 = .ok (.aload_n 0, 1) := by decide +kernel
theorem dX4_takeBehind_125 : decode cX4_takeBehind 125 = .ok (.iconst 1, 1) := by decide +kernel
theorem dX4_takeBehind_126 : decode cX4_takeBehind 126 = .ok (.iconst 2, 1) := by decide +kernel
theorem dX4_takeBehind_127 : decode cX4_takeBehind 127 = .ok (.invokevirtual 109, 3) := by decide +kernel
theorem dX4_takeBehind_130 : decode cX4_takeBehind 130 = .ok (.goto 111, 3) := by decide +kernel
theorem dX4_takeBehind_133 : decode cX4_takeBehind 133 = .ok (.aload_n 0, 1) := by decide +kernel
theorem dX4_takeBehind_134 : decode cX4_takeBehind 134 = .ok (.getfield 83, 3) := by decide +kernel
theorem dX4_takeBehind_137 : decode cX4_takeBehind 137 = .ok (.bipush (-43), 2) := by decide +kernel
theorem dX4_takeBehind_139 : decode cX4_takeBehind 139 = .ok (.if_icmp .ne 21, 3) := by decide +kernel
theorem dX4_takeBehind_142 : decode cX4_takeBehind 142 = .ok (.iload_n 1, 1) := by decide +kernel
theorem dX4_takeBehind_143 : decode cX4_takeBehind 143 = .ok (.ifCond .eq 17, 3) := by decide +kernel
theorem dX4_takeBehind_146 : decode cX4_takeBehind 146 = .ok (.aload_n 0, 1) := by decide +kernel
theorem dX4_takeBehind_147 : decode cX4_takeBehind 147 = .ok (.getfield 38, 3) := by decide +kernel
theorem dX4_takeBehind_150 : decode cX4_takeBehind 150 = .ok (.ifCond .le 10, 3) := by decide +kernel
theorem dX4_takeBehind_153 : decode cX4_takeBehind 153 = .ok (.aload_n 0, 1) := by decide +kernel
theorem dX4_takeBehind_154 : decode cX4_takeBehind 154 = .ok (.invokevirtual 113, 3) := by decide +kernel
theorem dX4_takeBehind_157 : decode cX4_takeBehind 157 = .ok (.goto 84, 3) := by decide +kernel
theorem dX4_takeBehind_160 : decode cX4_takeBehind 160 = .ok (.aload_n 0, 1) := by decide +kernel
theorem dX4_takeBehind_161 : decode cX4_takeBehind 161 = .ok (.getfield 83, 3) := by decide +kernel
theorem dX4_takeBehind_164 : decode cX4_takeBehind 164 = .ok (.bipush (-41), 2) := by decide +kernel
theorem dX4_takeBehind_166 : decode cX4_takeBehind 166 = .ok (.if_icmp .ne 30, 3) := by decide +kernel
theorem dX4_takeBehind_169 : decode cX4_takeBehind 169 = .ok (.aload_n 0, 1) := by decide +kernel
theorem dX4_takeBehind_170 : decode cX4_takeBehind 170 = .ok (.getfield 96, 3) := by decide +kernel
theorem dX4_takeBehind_173 : decode cX4_takeBehind 173 = .ok (.ifCond .ne 23, 3) := by decide +kernel
theorem dX4_takeBehind_176 : decode cX4_takeBehind 176 = .ok (.aload_n 0, 1) := by decide +kernel
theorem dX4_takeBehind_177 : decode cX4_takeBehind 177 = .ok (.iconst 0, 1) := by decide +kernel
theorem dX4_takeBehind_178 : decode cX4_takeBehind 178 = .ok (.invokevirtual 116, 3) := by decide +kernel
theorem dX4_takeBehind_181 : decode cX4_takeBehind 181 = .ok (.aload_n 0, 1) := by decide +kernel
theorem dX4_takeBehind_182 : decode cX4_takeBehind 182 = .ok (.getfield 50, 3) := by decide +kernel
theorem dX4_takeBehind_185 : decode cX4_takeBehind 185 = .ok (.invokevirtual 119, 3) := by decide +kernel
theorem dX4_takeBehind_188 : decode cX4_takeBehind 188 = .ok (.aload_n 0, 1) := by decide +kernel
theorem dX4_takeBehind_189 : decode cX4_takeBehind 189 = .ok (.iconst 2, 1) := by decide +kernel
theorem dX4_takeBehind_190 : decode cX4_takeBehind 190 = .ok (.putfield 47, 3) := by decide +kernel
theorem dX4_takeBehind_193 : decode cX4_takeBehind 193 = .ok (.goto 48, 3) := by decide +kernel
theorem dX4_takeBehind_196 : decode cX4_takeBehind 196 = .ok (.aload_n 0, 1) := by decide +kernel
theorem dX4_takeBehind_197 : decode cX4_takeBehind 197 = .ok (.getfield 83, 3) := by decide +kernel
theorem dX4_takeBehind_200 : decode cX4_takeBehind 200 = .ok (.bipush (-44), 2) := by decide +kernel
theorem dX4_takeBehind_202 : decode cX4_takeBehind 202 = .ok (.if_icmp .eq 12, 3) := by decide +kernel
theorem dX4_takeBehind_205 : decode cX4_takeBehind 205 = .ok (.aload_n 0, 1) := by decide +kernel
theorem dX4_takeBehind_206 : decode cX4_takeBehind 206 = .ok (.getfield 83, 3) := by decide +kernel
theorem dX4_takeBehind_209 : decode cX4_takeBehind 209 = .ok (.bipush (-45), 2) := by decide +kernel
theorem dX4_takeBehind_211 : decode cX4_takeBehind 211 = .ok (.if_icmp .ne 25, 3) := by decide +kernel
theorem dX4_takeBehind_214 : decode cX4_takeBehind 214 = .ok (.aload_n 0, 1) := by decide +kernel
theorem dX4_takeBehind_215 : decode cX4_takeBehind 215 = .ok (.getfield 96, 3) := by decide +kernel
theorem dX4_takeBehind_218 : decode cX4_takeBehind 218 = .ok (.iconst 1, 1) := by decide +kernel
theorem dX4_takeBehind_219 : decode cX4_takeBehind 219 = .ok (.if_icmp .eq 17, 3) := by decide +kernel
theorem dX4_takeBehind_222 : decode cX4_takeBehind 222 = .ok (.aload_n 0, 1) := by decide +kernel
theorem dX4_takeBehind_223 : decode cX4_takeBehind 223 = .ok (.getfield 38, 3) := by decide +kernel
theorem dX4_takeBehind_226 : decode cX4_takeBehind 226 = .ok (.ifCond .ne 10, 3) := by decide +kernel
theorem dX4_takeBehind_229 : decode cX4_takeBehind 229 = .ok (.aload_n 0, 1) := by decide +kernel
theorem dX4_takeBehind_230 : decode cX4_takeBehind 230 = .ok (.invokevirtual 122, 3) := by decide +kernel
theorem dX4_takeBehind_233 : decode cX4_takeBehind 233 = .ok (.goto 8, 3) := by decide +kernel
theorem dX4_takeBehind_236 : decode cX4_takeBehind 236 = .ok (.aload_n 0, 1) := by decide +kernel
theorem dX4_takeBehind_237 : decode cX4_takeBehind 237 = .ok (.iconst 0, 1) := by decide +kernel
theorem dX4_takeBehind_238 : decode cX4_takeBehind 238 = .ok (.invokevirtual 86, 3) := by decide +kernel
theorem dX4_takeBehind_241 : decode cX4_takeBehind 241 = .ok (.return_, 1) := by decide +kernel
theorem ce_X4_takeBehind : CeV RX4 yX4_takeBehind cX4_takeBehind 2 none 0 := ⟨tb_707, tp_17, tb_9, tb_708, rfl, by decide, by decide, by decide +kernel⟩
theorem dX4_takeToken_0 : decode cX4_takeToken 0 = .ok (.aload_n 0, 1) := by decide +kernel
theorem dX4_takeToken_1 : decode cX4_takeToken 1 = .ok (.getfield 47, 3) := by decide +kernel
theorem dX4_takeToken_4 : decode cX4_takeToken 4 = .ok (.tableswitch 60 0 3 #[32, 39, 46, 53], 32) := by decide +kernel
theorem dX4_takeToken_36 : decode cX4_takeToken 36 = .ok (.aload_n 0, 1) := by decide +kernel
theorem dX4_takeToken_37 : decode cX4_takeToken 37 = .ok (.invokevirtual 68, 3) := by decide +kernel
theorem dX4_takeToken_40 : decode cX4_takeToken 40 = .ok (.goto 28, 3) := by decide +kernel
theorem dX4_takeToken_43 : decode cX4_takeToken 43 = .ok (.aload_n 0, 1) := by decide +kernel
theorem dX4_takeToken_44 : decode cX4_takeToken 44 = .ok (.invokevirtual 71, 3) := by decide +kernel
theorem dX4_takeToken_47 : decode cX4_takeToken 47 = .ok (.goto 21, 3) := by decide +kernel
theorem dX4_takeToken_50 : decode cX4_takeToken 50 = .ok (.aload_n 0, 1) := by decide +kernel
theorem dX4_takeToken_51 : decode cX4_takeToken 51 = .ok (.invokevirtual 74, 3) := by decide +kernel
theorem dX4_takeToken_54 : decode cX4_takeToken 54 = .ok (.goto 14, 3) := by decide +kernel
theorem dX4_takeToken_57 : decode cX4_takeToken 57 = .ok (.aload_n 0, 1) := by decide +kernel
theorem dX4_takeToken_58 : decode cX4_takeToken 58 = .ok (.invokevirtual 77, 3) := by decide +kernel
theorem dX4_takeToken_61 : decode cX4_takeToken 61 = .ok (.goto 7, 3) := by decide +kernel
theorem dX4_takeToken_64 : decode cX4_takeToken 64 = .ok (.aload_n 0, 1) := by decide +kernel
theorem dX4_takeToken_65 : decode cX4_takeToken 65 = .ok (.invokevirtual 80, 3) := by decide +kernel
theorem dX4_takeToken_68 : decode cX4_takeToken 68 = .ok (.return_, 1) := by decide +kernel
theorem ce_X4_takeToken : CeV RX4 yX4_takeToken cX4_takeToken 1 none 0 := ⟨tb_667, tp_9, tb_9, tb_668, rfl, by decide, by decide, by decide +kernel⟩
