theorem dX9_isWithin_0 : decode cX9_isWithin 0 = .ok (.iload_n 0, 1) := by decide +kernel
theorem dX9_isWithin_1 : decode cX9_isWithin 1 = .ok (.iload_n 1, 1) := by decide +kernel
theorem dX9_isWithin_2 : decode cX9_isWithin 2 = .ok (.if_icmp .lt 12, 3) := by decide +kernel
theorem dX9_isWithin_5 : decode cX9_isWithin 5 = .ok (.iload_n 0, 1) := by decide +kernel
theorem dX9_isWithin_6 : decode cX9_isWithin 6 = .ok (.iload_n 2, 1) := by decide +kernel
theorem dX9_isWithin_7 : decode cX9_isWithin 7 = .ok (.if_icmp .gt 7, 3) := by decide +kernel
theorem dX9_isWithin_10 : decode cX9_isWithin 10 = .ok (.iconst 1, 1) := by decide +kernel
theorem dX9_isWithin_11 : decode cX9_isWithin 11 = .ok (.goto 4, 3) := by decide +kernel
theorem dX9_isWithin_14 : decode cX9_isWithin 14 = .ok (.iconst 0, 1) := by decide +kernel
theorem dX9_isWithin_15 : decode cX9_isWithin 15 = .ok (.ireturn, 1) := by decide +kernel
theorem ce_X9_isWithin : CeS yX9_isWithin cX9_isWithin 3 (some .boolean) 3 := ⟨tb_452, tb_1, tb_453, by decide, by decide, by decide +kernel⟩
set_option maxHeartbeats 4000000 in
set_option maxRecDepth 20000 in
theorem C_X9_isWithin (l : Launch) (D : va_G) (A : Nat → Prop) (ad : Nat → Nat) (ns : List Nat) (I : MI) (L : ML) (G : MG) (n : Int32) (lo : Int32) (hi : Int32) : Met l yX9_isWithin (wd yX9_isWithin cX9_isWithin 3 (some .boolean)) ({ frames := 0, cells := 0, slots := 0, locals := 0 }) (va_Pc [.int n, .int lo, .int hi] (PM D A ad ns I L G)) (va_Qi (fun r u => u = (ad, ns, I, L, G) ∧ Bo r (lo.toInt ≤ n.toInt ∧ n.toInt ≤ hi.toInt)) (BM D A) A) 0 0 A := by
  refine m_ofW (by decide) (Nat.le_of_ble_eq_true rfl) ?_
  intro p e s m below meth c ls args hC hE hM hA hS hl
  obtain ⟨hx, hb, hml, hown, hts, hr, hlocks, hin⟩ := hC
  have k0 : (0 : Int32).toInt = 0 := by decide
  have k1 : (1 : Int32).toInt = 1 := by decide
  have hl : lv_has ls 3 [(0, .int (n)), (1, .int (lo)), (2, .int (hi))] := hl
  refine lv_iload_n hx hb dX9_isWithin_0 rfl (lv_at hl 0 rfl) ?_
  refine lv_iload_n hx hb dX9_isWithin_1 rfl (lv_at hl 1 rfl) ?_
  refine lv_icmp_lt (tgt := 14) hx hb dX9_isWithin_2 (by decide) (fun c1 => ?_) (fun c1 => ?_)
  · have hc1 := c1
    have q1 := q_lt hc1
    refine lv_iconst (v := (0)) hx hb dX9_isWithin_14 (by decide) ?_
    exact m_zret hx hb hr rfl hlocks hM hS (Nat.le_of_ble_eq_true rfl) (Nat.le_of_ble_eq_true rfl) ⟨rfl, Bo.n (by omega)⟩ dX9_isWithin_15
  · have hc1 := c1
    have q1 := q_nlt hc1
    refine lv_iload_n hx hb dX9_isWithin_5 rfl (lv_at hl 0 rfl) ?_
    refine lv_iload_n hx hb dX9_isWithin_6 rfl (lv_at hl 2 rfl) ?_
    refine lv_icmp_gt (tgt := 14) hx hb dX9_isWithin_7 (by decide) (fun c2 => ?_) (fun c2 => ?_)
    · have hc2 := c2
      have q2 := q_lt hc2
      refine lv_iconst (v := (0)) hx hb dX9_isWithin_14 (by decide) ?_
      exact m_zret hx hb hr rfl hlocks hM hS (Nat.le_of_ble_eq_true rfl) (Nat.le_of_ble_eq_true rfl) ⟨rfl, Bo.n (by omega)⟩ dX9_isWithin_15
    · have hc2 := c2
      have q2 := q_nlt hc2
      refine lv_iconst (v := (1)) hx hb dX9_isWithin_10 (by decide) ?_
      refine lv_goto (tgt := 15) hx hb dX9_isWithin_11 (by decide) ?_
      exact m_zret hx hb hr rfl hlocks hM hS (Nat.le_of_ble_eq_true rfl) (Nat.le_of_ble_eq_true rfl) ⟨rfl, Bo.y (by omega)⟩ dX9_isWithin_15
theorem dX8_isBegun_0 : decode cX8_isBegun 0 = .ok (.aload_n 0, 1) := by decide +kernel
theorem dX8_isBegun_1 : decode cX8_isBegun 1 = .ok (.getfield 36, 3) := by decide +kernel
theorem dX8_isBegun_4 : decode cX8_isBegun 4 = .ok (.ifCond .le 7, 3) := by decide +kernel
theorem dX8_isBegun_7 : decode cX8_isBegun 7 = .ok (.iconst 1, 1) := by decide +kernel
theorem dX8_isBegun_8 : decode cX8_isBegun 8 = .ok (.goto 4, 3) := by decide +kernel
theorem dX8_isBegun_11 : decode cX8_isBegun 11 = .ok (.iconst 0, 1) := by decide +kernel
theorem dX8_isBegun_12 : decode cX8_isBegun 12 = .ok (.ireturn, 1) := by decide +kernel
theorem ce_X8_isBegun : CeV RX8 yX8_isBegun cX8_isBegun 1 (some .boolean) 0 := ⟨tb_485, tb_486, tb_2, tb_487, rfl, by decide, by decide, by decide +kernel⟩
set_option maxHeartbeats 4000000 in
set_option maxRecDepth 20000 in
theorem C_X8_isBegun (l : Launch) (D : va_G) (A : Nat → Prop) (ad : Nat → Nat) (ns : List Nat) (I : MI) (L : ML) (G : MG) (b : Nat) (hT : TOK ns G b) : Met l yX8_isBegun (wd yX8_isBegun cX8_isBegun 1 (some .boolean)) ({ frames := 0, cells := 0, slots := 0, locals := 0 }) (va_Pc [.ref (ad b)] (PM D A ad ns I L G)) (va_Qi (fun r u => u = (ad, ns, I, L, G) ∧ Bo r (0 < (I b 0).toInt)) (BM D A) A) 0 0 A := by
  refine m_ofW (by decide) (Nat.le_of_ble_eq_true rfl) ?_
  intro p e s m below meth c ls args hC hE hM hA hS hl
  obtain ⟨hx, hb, hml, hown, hts, hr, hlocks, hin⟩ := hC
  have k0 : (0 : Int32).toInt = 0 := by decide
  have k1 : (1 : Int32).toInt = 1 := by decide
  have hl : lv_has ls 1 [(0, .ref (ad (b)))] := hl
  refine lv_aload_n hx hb dX8_isBegun_0 rfl (lv_at hl 0 rfl) ?_
  refine m_geti (b) 0 hx hb hts hown hE oc8 hM hT.l (kT _ hT.1).1 (by decide) rfl tb_34 dX8_isBegun_1 ?_
  refine lv_if_le (tgt := 11) hx hb dX8_isBegun_4 (by decide) (fun c1 => ?_) (fun c1 => ?_)
  · have hc1 := c1
    have q1 := q_le hc1
    refine lv_iconst (v := (0)) hx hb dX8_isBegun_11 (by decide) ?_
    exact m_zret hx hb hr rfl hlocks hM hS (Nat.le_of_ble_eq_true rfl) (Nat.le_of_ble_eq_true rfl) ⟨rfl, Bo.n (by omega)⟩ dX8_isBegun_12
  · have hc1 := c1
    have q1 := q_nle hc1
    refine lv_iconst (v := (1)) hx hb dX8_isBegun_7 (by decide) ?_
    refine lv_goto (tgt := 12) hx hb dX8_isBegun_8 (by decide) ?_
    exact m_zret hx hb hr rfl hlocks hM hS (Nat.le_of_ble_eq_true rfl) (Nat.le_of_ble_eq_true rfl) ⟨rfl, Bo.y (by omega)⟩ dX8_isBegun_12
theorem dX8_hasCell_0 : decode cX8_hasCell 0 = .ok (.iload_n 1, 1) := by decide +kernel
theorem dX8_hasCell_1 : decode cX8_hasCell 1 = .ok (.ifCond .lt 27, 3) := by decide +kernel
theorem dX8_hasCell_4 : decode cX8_hasCell 4 = .ok (.iload_n 1, 1) := by decide +kernel
theorem dX8_hasCell_5 : decode cX8_hasCell 5 = .ok (.aload_n 0, 1) := by decide +kernel
theorem dX8_hasCell_6 : decode cX8_hasCell 6 = .ok (.getfield 36, 3) := by decide +kernel
theorem dX8_hasCell_9 : decode cX8_hasCell 9 = .ok (.if_icmp .ge 19, 3) := by decide +kernel
theorem dX8_hasCell_12 : decode cX8_hasCell 12 = .ok (.iload_n 2, 1) := by decide +kernel
theorem dX8_hasCell_13 : decode cX8_hasCell 13 = .ok (.ifCond .lt 15, 3) := by decide +kernel
theorem dX8_hasCell_16 : decode cX8_hasCell 16 = .ok (.iload_n 2, 1) := by decide +kernel
theorem dX8_hasCell_17 : decode cX8_hasCell 17 = .ok (.aload_n 0, 1) := by decide +kernel
theorem dX8_hasCell_18 : decode cX8_hasCell 18 = .ok (.getfield 40, 3) := by decide +kernel
theorem dX8_hasCell_21 : decode cX8_hasCell 21 = .ok (.if_icmp .ge 7, 3) := by decide +kernel
theorem dX8_hasCell_24 : decode cX8_hasCell 24 = .ok (.iconst 1, 1) := by decide +kernel
theorem dX8_hasCell_25 : decode cX8_hasCell 25 = .ok (.goto 4, 3) := by decide +kernel
theorem dX8_hasCell_28 : decode cX8_hasCell 28 = .ok (.iconst 0, 1) := by decide +kernel
theorem dX8_hasCell_29 : decode cX8_hasCell 29 = .ok (.ireturn, 1) := by decide +kernel
theorem ce_X8_hasCell : CeV RX8 yX8_hasCell cX8_hasCell 3 (some .boolean) 2 := ⟨tb_470, tb_471, tb_2, tb_472, rfl, by decide, by decide, by decide +kernel⟩
set_option maxHeartbeats 4000000 in
set_option maxRecDepth 20000 in
theorem C_X8_hasCell (l : Launch) (D : va_G) (A : Nat → Prop) (ad : Nat → Nat) (ns : List Nat) (I : MI) (L : ML) (G : MG) (b : Nat) (x : Int32) (y : Int32) (hT : TOK ns G b) : Met l yX8_hasCell (wd yX8_hasCell cX8_hasCell 3 (some .boolean)) ({ frames := 0, cells := 0, slots := 0, locals := 0 }) (va_Pc [.ref (ad b), .int x, .int y] (PM D A ad ns I L G)) (va_Qi (fun r u => u = (ad, ns, I, L, G) ∧ Bo r (0 ≤ x.toInt ∧ x.toInt < (I b 0).toInt ∧ 0 ≤ y.toInt ∧ y.toInt < (I b 1).toInt)) (BM D A) A) 0 0 A := by
  refine m_ofW (by decide) (Nat.le_of_ble_eq_true rfl) ?_
  intro p e s m below meth c ls args hC hE hM hA hS hl
  obtain ⟨hx, hb, hml, hown, hts, hr, hlocks, hin⟩ := hC
  have k0 : (0 : Int32).toInt = 0 := by decide
  have k1 : (1 : Int32).toInt = 1 := by decide
  have hl : lv_has ls 3 [(0, .ref (ad (b))), (1, .int (x)), (2, .int (y))] := hl
  refine lv_iload_n hx hb dX8_hasCell_0 rfl (lv_at hl 1 rfl) ?_
  refine lv_if_lt (tgt := 28) hx hb dX8_hasCell_1 (by decide) (fun c1 => ?_) (fun c1 => ?_)
  · have hc1 := c1
    have q1 := q_lt hc1
    refine lv_iconst (v := (0)) hx hb dX8_hasCell_28 (by decide) ?_
    exact m_zret hx hb hr rfl hlocks hM hS (Nat.le_of_ble_eq_true rfl) (Nat.le_of_ble_eq_true rfl) ⟨rfl, Bo.n (by omega)⟩ dX8_hasCell_29
  · have hc1 := c1
    have q1 := q_nlt hc1
    refine lv_iload_n hx hb dX8_hasCell_4 rfl (lv_at hl 1 rfl) ?_
    refine lv_aload_n hx hb dX8_hasCell_5 rfl (lv_at hl 0 rfl) ?_
    refine m_geti (b) 0 hx hb hts hown hE oc8 hM hT.l (kT _ hT.1).1 (by decide) rfl tb_34 dX8_hasCell_6 ?_
    refine lv_icmp_ge (tgt := 28) hx hb dX8_hasCell_9 (by decide) (fun c2 => ?_) (fun c2 => ?_)
    · have hc2 := c2
      have q2 := q_le hc2
      refine lv_iconst (v := (0)) hx hb dX8_hasCell_28 (by decide) ?_
      exact m_zret hx hb hr rfl hlocks hM hS (Nat.le_of_ble_eq_true rfl) (Nat.le_of_ble_eq_true rfl) ⟨rfl, Bo.n (by omega)⟩ dX8_hasCell_29
    · have hc2 := c2
      have q2 := q_nle hc2
      refine lv_iload_n hx hb dX8_hasCell_12 rfl (lv_at hl 2 rfl) ?_
      refine lv_if_lt (tgt := 28) hx hb dX8_hasCell_13 (by decide) (fun c3 => ?_) (fun c3 => ?_)
      · have hc3 := c3
        have q3 := q_lt hc3
        refine lv_iconst (v := (0)) hx hb dX8_hasCell_28 (by decide) ?_
        exact m_zret hx hb hr rfl hlocks hM hS (Nat.le_of_ble_eq_true rfl) (Nat.le_of_ble_eq_true rfl) ⟨rfl, Bo.n (by omega)⟩ dX8_hasCell_29
      · have hc3 := c3
        have q3 := q_nlt hc3
        refine lv_iload_n hx hb dX8_hasCell_16 rfl (lv_at hl 2 rfl) ?_
        refine lv_aload_n hx hb dX8_hasCell_17 rfl (lv_at hl 0 rfl) ?_
        refine m_geti (b) 1 hx hb hts hown hE oc8 hM hT.l (kT _ hT.1).1 (by decide) rfl tb_37 dX8_hasCell_18 ?_
        refine lv_icmp_ge (tgt := 28) hx hb dX8_hasCell_21 (by decide) (fun c4 => ?_) (fun c4 => ?_)
        · have hc4 := c4
          have q4 := q_le hc4
          refine lv_iconst (v := (0)) hx hb dX8_hasCell_28 (by decide) ?_
          exact m_zret hx hb hr rfl hlocks hM hS (Nat.le_of_ble_eq_true rfl) (Nat.le_of_ble_eq_true rfl) ⟨rfl, Bo.n (by omega)⟩ dX8_hasCell_29
        · have hc4 := c4
          have q4 := q_nle hc4
          refine lv_iconst (v := (1)) hx hb dX8_hasCell_24 (by decide) ?_
          refine lv_goto (tgt := 29) hx hb dX8_hasCell_25 (by decide) ?_
          exact m_zret hx hb hr rfl hlocks hM hS (Nat.le_of_ble_eq_true rfl) (Nat.le_of_ble_eq_true rfl) ⟨rfl, Bo.y (by omega)⟩ dX8_hasCell_29
theorem dX8_hasRectangle_0 : decode cX8_hasRectangle 0 = .ok (.aload_n 0, 1) := by decide +kernel
theorem dX8_hasRectangle_1 : decode cX8_hasRectangle 1 = .ok (.iload_n 1, 1) := by decide +kernel
theorem dX8_hasRectangle_2 : decode cX8_hasRectangle 2 = .ok (.iload_n 2, 1) := by decide +kernel
theorem dX8_hasRectangle_3 : decode cX8_hasRectangle 3 = .ok (.invokevirtual 79, 3) := by decide +kernel
theorem dX8_hasRectangle_6 : decode cX8_hasRectangle 6 = .ok (.ifCond .eq 28, 3) := by decide +kernel
theorem dX8_hasRectangle_9 : decode cX8_hasRectangle 9 = .ok (.aload_n 0, 1) := by decide +kernel
theorem dX8_hasRectangle_10 : decode cX8_hasRectangle 10 = .ok (.iload_n 3, 1) := by decide +kernel
theorem dX8_hasRectangle_11 : decode cX8_hasRectangle 11 = .ok (.iload 4, 2) := by decide +kernel
theorem dX8_hasRectangle_13 : decode cX8_hasRectangle 13 = .ok (.invokevirtual 79, 3) := by decide +kernel
theorem dX8_hasRectangle_16 : decode cX8_hasRectangle 16 = .ok (.ifCond .eq 18, 3) := by decide +kernel
theorem dX8_hasRectangle_19 : decode cX8_hasRectangle 19 = .ok (.iload_n 1, 1) := by decide +kernel
theorem dX8_hasRectangle_20 : decode cX8_hasRectangle 20 = .ok (.iload_n 3, 1) := by decide +kernel
theorem dX8_hasRectangle_21 : decode cX8_hasRectangle 21 = .ok (.if_icmp .gt 13, 3) := by decide +kernel
theorem dX8_hasRectangle_24 : decode cX8_hasRectangle 24 = .ok (.iload_n 2, 1) := by decide +kernel
theorem dX8_hasRectangle_25 : decode cX8_hasRectangle 25 = .ok (.iload 4, 2) := by decide +kernel
theorem dX8_hasRectangle_27 : decode cX8_hasRectangle 27 = .ok (.if_icmp .gt 7, 3) := by decide +kernel
theorem dX8_hasRectangle_30 : decode cX8_hasRectangle 30 = .ok (.iconst 1, 1) := by decide +kernel
theorem dX8_hasRectangle_31 : decode cX8_hasRectangle 31 = .ok (.goto 4, 3) := by decide +kernel
theorem dX8_hasRectangle_34 : decode cX8_hasRectangle 34 = .ok (.iconst 0, 1) := by decide +kernel
theorem dX8_hasRectangle_35 : decode cX8_hasRectangle 35 = .ok (.ireturn, 1) := by decide +kernel
theorem ce_X8_hasRectangle : CeV RX8 yX8_hasRectangle cX8_hasRectangle 5 (some .boolean) 4 := ⟨tb_466, tb_467, tb_2, tb_468, rfl, by decide, by decide, by decide +kernel⟩
set_option maxHeartbeats 4000000 in
set_option maxRecDepth 20000 in
theorem C_X8_hasRectangle (l : Launch) (D : va_G) (A : Nat → Prop) (ad : Nat → Nat) (ns : List Nat) (I : MI) (L : ML) (G : MG) (b : Nat) (x : Int32) (y : Int32) (v : Int32) (w : Int32) (hT : TOK ns G b) : Met l yX8_hasRectangle (wd yX8_hasRectangle cX8_hasRectangle 5 (some .boolean)) ({ frames := 1, cells := 0, slots := 0, locals := 22 }) (va_Pc [.ref (ad b), .int x, .int y, .int v, .int w] (PM D A ad ns I L G)) (va_Qi (fun r u => u = (ad, ns, I, L, G) ∧ Bo r ((0 ≤ x.toInt ∧ x.toInt < (I b 0).toInt ∧ 0 ≤ y.toInt ∧ y.toInt < (I b 1).toInt) ∧ (0 ≤ v.toInt ∧ v.toInt < (I b 0).toInt ∧ 0 ≤ w.toInt ∧ w.toInt < (I b 1).toInt) ∧ x.toInt ≤ v.toInt ∧ y.toInt ≤ w.toInt)) (BM D A) A) 0 0 A := by
  refine m_ofW (by decide) (Nat.le_of_ble_eq_true rfl) ?_
  intro p e s m below meth c ls args hC hE hM hA hS hl
  obtain ⟨hx, hb, hml, hown, hts, hr, hlocks, hin⟩ := hC
  have k0 : (0 : Int32).toInt = 0 := by decide
  have k1 : (1 : Int32).toInt = 1 := by decide
  have hl : lv_has ls 5 [(0, .ref (ad (b))), (1, .int (x)), (2, .int (y)), (3, .int (v)), (4, .int (w))] := hl
  refine lv_aload_n hx hb dX8_hasRectangle_0 rfl (lv_at hl 0 rfl) ?_
  refine lv_iload_n hx hb dX8_hasRectangle_1 rfl (lv_at hl 1 rfl) ?_
  refine lv_iload_n hx hb dX8_hasRectangle_2 rfl (lv_at hl 2 rfl) ?_
  refine m_calli (m_runV (b) (As := [.int (x), .int (y)]) (rest := []) hx hb hml hown hts hE hM hS hA ce_X8_hasCell tb_469 (C_X8_hasCell l D A ad ns I L G (b) (x) (y) hT) rfl rfl ⟨Nat.le_of_ble_eq_true rfl, Nat.le_of_ble_eq_true rfl⟩ hT.l (kT _ hT.1).1 rfl (by decide) rfl hl.1 rfl (Nat.le_of_ble_eq_true rfl) dX8_hasRectangle_3 ⟨Nat.le_of_ble_eq_true rfl, Nat.le_of_ble_eq_true rfl⟩) hS (fun r1 u H locs hw hM hS => ?_)
  obtain ⟨rfl, b_r1⟩ := hw
  have hM : Mem D A ad ns I L G H := hM
  refine lv_if_eq (tgt := 34) hx hb dX8_hasRectangle_6 (by decide) (fun c2 => ?_) (fun c2 => ?_)
  · have hc2 := c2
    have q2 := b_r1.f hc2
    refine lv_iconst (v := (0)) hx hb dX8_hasRectangle_34 (by decide) ?_
    exact m_zret hx hb hr rfl hlocks hM hS (Nat.le_of_ble_eq_true rfl) (Nat.le_of_ble_eq_true rfl) ⟨rfl, Bo.n (by omega)⟩ dX8_hasRectangle_35
  · have hc2 := c2
    have q2 := b_r1.t hc2
    refine lv_aload_n hx hb dX8_hasRectangle_9 rfl (lv_at hl 0 rfl) ?_
    refine lv_iload_n hx hb dX8_hasRectangle_10 rfl (lv_at hl 3 rfl) ?_
    refine lv_iload hx hb dX8_hasRectangle_11 (lv_at hl 4 rfl) ?_
    refine m_calli (m_runV (b) (As := [.int (v), .int (w)]) (rest := []) hx hb hml hown hts hE hM hS hA ce_X8_hasCell tb_469 (C_X8_hasCell l D A ad ns I L G (b) (v) (w) hT) rfl rfl ⟨Nat.le_of_ble_eq_true rfl, Nat.le_of_ble_eq_true rfl⟩ hT.l (kT _ hT.1).1 rfl (by decide) rfl hl.1 rfl (Nat.le_of_ble_eq_true rfl) dX8_hasRectangle_13 ⟨Nat.le_of_ble_eq_true rfl, Nat.le_of_ble_eq_true rfl⟩) hS (fun r3 u H locs hw hM hS => ?_)
    obtain ⟨rfl, b_r3⟩ := hw
    have hM : Mem D A ad ns I L G H := hM
    refine lv_if_eq (tgt := 34) hx hb dX8_hasRectangle_16 (by decide) (fun c4 => ?_) (fun c4 => ?_)
    · have hc4 := c4
      have q4 := b_r3.f hc4
      refine lv_iconst (v := (0)) hx hb dX8_hasRectangle_34 (by decide) ?_
      exact m_zret hx hb hr rfl hlocks hM hS (Nat.le_of_ble_eq_true rfl) (Nat.le_of_ble_eq_true rfl) ⟨rfl, Bo.n (by omega)⟩ dX8_hasRectangle_35
    · have hc4 := c4
      have q4 := b_r3.t hc4
      refine lv_iload_n hx hb dX8_hasRectangle_19 rfl (lv_at hl 1 rfl) ?_
      refine lv_iload_n hx hb dX8_hasRectangle_20 rfl (lv_at hl 3 rfl) ?_
      refine lv_icmp_gt (tgt := 34) hx hb dX8_hasRectangle_21 (by decide) (fun c5 => ?_) (fun c5 => ?_)
      · have hc5 := c5
        have q5 := q_lt hc5
        refine lv_iconst (v := (0)) hx hb dX8_hasRectangle_34 (by decide) ?_
        exact m_zret hx hb hr rfl hlocks hM hS (Nat.le_of_ble_eq_true rfl) (Nat.le_of_ble_eq_true rfl) ⟨rfl, Bo.n (by omega)⟩ dX8_hasRectangle_35
      · have hc5 := c5
        have q5 := q_nlt hc5
        refine lv_iload_n hx hb dX8_hasRectangle_24 rfl (lv_at hl 2 rfl) ?_
        refine lv_iload hx hb dX8_hasRectangle_25 (lv_at hl 4 rfl) ?_
        refine lv_icmp_gt (tgt := 34) hx hb dX8_hasRectangle_27 (by decide) (fun c6 => ?_) (fun c6 => ?_)
        · have hc6 := c6
          have q6 := q_lt hc6
          refine lv_iconst (v := (0)) hx hb dX8_hasRectangle_34 (by decide) ?_
          exact m_zret hx hb hr rfl hlocks hM hS (Nat.le_of_ble_eq_true rfl) (Nat.le_of_ble_eq_true rfl) ⟨rfl, Bo.n (by omega)⟩ dX8_hasRectangle_35
        · have hc6 := c6
          have q6 := q_nlt hc6
          refine lv_iconst (v := (1)) hx hb dX8_hasRectangle_30 (by decide) ?_
          refine lv_goto (tgt := 35) hx hb dX8_hasRectangle_31 (by decide) ?_
          exact m_zret hx hb hr rfl hlocks hM hS (Nat.le_of_ble_eq_true rfl) (Nat.le_of_ble_eq_true rfl) ⟨rfl, Bo.y (by omega)⟩ dX8_hasRectangle_35
theorem dX8_hasMirror_0 : decode cX8_hasMirror 0 = .ok (.iload_n 1, 1) := by decide +kernel
theorem dX8_hasMirror_1 : decode cX8_hasMirror 1 = .ok (.ifCond .lt 15, 3) := by decide +kernel
theorem dX8_hasMirror_4 : decode cX8_hasMirror 4 = .ok (.iload_n 1, 1) := by decide +kernel
theorem dX8_hasMirror_5 : decode cX8_hasMirror 5 = .ok (.aload_n 0, 1) := by decide +kernel
theorem dX8_hasMirror_6 : decode cX8_hasMirror 6 = .ok (.getfield 61, 3) := by decide +kernel
theorem dX8_hasMirror_9 : decode cX8_hasMirror 9 = .ok (.if_icmp .ge 7, 3) := by decide +kernel
theorem dX8_hasMirror_12 : decode cX8_hasMirror 12 = .ok (.iconst 1, 1) := by decide +kernel
theorem dX8_hasMirror_13 : decode cX8_hasMirror 13 = .ok (.goto 4, 3) := by decide +kernel
theorem dX8_hasMirror_16 : decode cX8_hasMirror 16 = .ok (.iconst 0, 1) := by decide +kernel
theorem dX8_hasMirror_17 : decode cX8_hasMirror 17 = .ok (.ireturn, 1) := by decide +kernel
theorem ce_X8_hasMirror : CeV RX8 yX8_hasMirror cX8_hasMirror 2 (some .boolean) 1 := ⟨tb_509, tb_510, tb_2, tb_511, rfl, by decide, by decide, by decide +kernel⟩
set_option maxHeartbeats 4000000 in
set_option maxRecDepth 20000 in
theorem C_X8_hasMirror (l : Launch) (D : va_G) (A : Nat → Prop) (ad : Nat → Nat) (ns : List Nat) (I : MI) (L : ML) (G : MG) (b : Nat) (k : Int32) (hT : TOK ns G b) : Met l yX8_hasMirror (wd yX8_hasMirror cX8_hasMirror 2 (some .boolean)) ({ frames := 0, cells := 0, slots := 0, locals := 0 }) (va_Pc [.ref (ad b), .int k] (PM D A ad ns I L G)) (va_Qi (fun r u => u = (ad, ns, I, L, G) ∧ Bo r (0 ≤ k.toInt ∧ k.toInt < (I b 8).toInt)) (BM D A) A) 0 0 A := by
  refine m_ofW (by decide) (Nat.le_of_ble_eq_true rfl) ?_
  intro p e s m below meth c ls args hC hE hM hA hS hl
  obtain ⟨hx, hb, hml, hown, hts, hr, hlocks, hin⟩ := hC
  have k0 : (0 : Int32).toInt = 0 := by decide
  have k1 : (1 : Int32).toInt = 1 := by decide
  have hl : lv_has ls 2 [(0, .ref (ad (b))), (1, .int (k))] := hl
  refine lv_iload_n hx hb dX8_hasMirror_0 rfl (lv_at hl 1 rfl) ?_
  refine lv_if_lt (tgt := 16) hx hb dX8_hasMirror_1 (by decide) (fun c1 => ?_) (fun c1 => ?_)
  · have hc1 := c1
    have q1 := q_lt hc1
    refine lv_iconst (v := (0)) hx hb dX8_hasMirror_16 (by decide) ?_
    exact m_zret hx hb hr rfl hlocks hM hS (Nat.le_of_ble_eq_true rfl) (Nat.le_of_ble_eq_true rfl) ⟨rfl, Bo.n (by omega)⟩ dX8_hasMirror_17
  · have hc1 := c1
    have q1 := q_nlt hc1
    refine lv_iload_n hx hb dX8_hasMirror_4 rfl (lv_at hl 1 rfl) ?_
    refine lv_aload_n hx hb dX8_hasMirror_5 rfl (lv_at hl 0 rfl) ?_
    refine m_geti (b) 8 hx hb hts hown hE oc8 hM hT.l (kT _ hT.1).1 (by decide) rfl tb_59 dX8_hasMirror_6 ?_
    refine lv_icmp_ge (tgt := 16) hx hb dX8_hasMirror_9 (by decide) (fun c2 => ?_) (fun c2 => ?_)
    · have hc2 := c2
      have q2 := q_le hc2
      refine lv_iconst (v := (0)) hx hb dX8_hasMirror_16 (by decide) ?_
      exact m_zret hx hb hr rfl hlocks hM hS (Nat.le_of_ble_eq_true rfl) (Nat.le_of_ble_eq_true rfl) ⟨rfl, Bo.n (by omega)⟩ dX8_hasMirror_17
    · have hc2 := c2
      have q2 := q_nle hc2
      refine lv_iconst (v := (1)) hx hb dX8_hasMirror_12 (by decide) ?_
      refine lv_goto (tgt := 17) hx hb dX8_hasMirror_13 (by decide) ?_
      exact m_zret hx hb hr rfl hlocks hM hS (Nat.le_of_ble_eq_true rfl) (Nat.le_of_ble_eq_true rfl) ⟨rfl, Bo.y (by omega)⟩ dX8_hasMirror_17
theorem dX8_hasYard_0 : decode cX8_hasYard 0 = .ok (.iload_n 1, 1) := by decide +kernel
theorem dX8_hasYard_1 : decode cX8_hasYard 1 = .ok (.ifCond .lt 15, 3) := by decide +kernel
theorem dX8_hasYard_4 : decode cX8_hasYard 4 = .ok (.iload_n 1, 1) := by decide +kernel
theorem dX8_hasYard_5 : decode cX8_hasYard 5 = .ok (.aload_n 0, 1) := by decide +kernel
theorem dX8_hasYard_6 : decode cX8_hasYard 6 = .ok (.getfield 64, 3) := by decide +kernel
theorem dX8_hasYard_9 : decode cX8_hasYard 9 = .ok (.if_icmp .ge 7, 3) := by decide +kernel
theorem dX8_hasYard_12 : decode cX8_hasYard 12 = .ok (.iconst 1, 1) := by decide +kernel
theorem dX8_hasYard_13 : decode cX8_hasYard 13 = .ok (.goto 4, 3) := by decide +kernel
theorem dX8_hasYard_16 : decode cX8_hasYard 16 = .ok (.iconst 0, 1) := by decide +kernel
theorem dX8_hasYard_17 : decode cX8_hasYard 17 = .ok (.ireturn, 1) := by decide +kernel
theorem ce_X8_hasYard : CeV RX8 yX8_hasYard cX8_hasYard 2 (some .boolean) 1 := ⟨tb_894, tb_895, tb_2, tb_896, rfl, by decide, by decide, by decide +kernel⟩
set_option maxHeartbeats 4000000 in
set_option maxRecDepth 20000 in
theorem C_X8_hasYard (l : Launch) (D : va_G) (A : Nat → Prop) (ad : Nat → Nat) (ns : List Nat) (I : MI) (L : ML) (G : MG) (b : Nat) (k : Int32) (hT : TOK ns G b) : Met l yX8_hasYard (wd yX8_hasYard cX8_hasYard 2 (some .boolean)) ({ frames := 0, cells := 0, slots := 0, locals := 0 }) (va_Pc [.ref (ad b), .int k] (PM D A ad ns I L G)) (va_Qi (fun r u => u = (ad, ns, I, L, G) ∧ Bo r (0 ≤ k.toInt ∧ k.toInt < (I b 9).toInt)) (BM D A) A) 0 0 A := by
  refine m_ofW (by decide) (Nat.le_of_ble_eq_true rfl) ?_
  intro p e s m below meth c ls args hC hE hM hA hS hl
  obtain ⟨hx, hb, hml, hown, hts, hr, hlocks, hin⟩ := hC
  have k0 : (0 : Int32).toInt = 0 := by decide
  have k1 : (1 : Int32).toInt = 1 := by decide
  have hl : lv_has ls 2 [(0, .ref (ad (b))), (1, .int (k))] := hl
  refine lv_iload_n hx hb dX8_hasYard_0 rfl (lv_at hl 1 rfl) ?_
  refine lv_if_lt (tgt := 16) hx hb dX8_hasYard_1 (by decide) (fun c1 => ?_) (fun c1 => ?_)
  · have hc1 := c1
    have q1 := q_lt hc1
    refine lv_iconst (v := (0)) hx hb dX8_hasYard_16 (by decide) ?_
    exact m_zret hx hb hr rfl hlocks hM hS (Nat.le_of_ble_eq_true rfl) (Nat.le_of_ble_eq_true rfl) ⟨rfl, Bo.n (by omega)⟩ dX8_hasYard_17
  · have hc1 := c1
    have q1 := q_nlt hc1
    refine lv_iload_n hx hb dX8_hasYard_4 rfl (lv_at hl 1 rfl) ?_
    refine lv_aload_n hx hb dX8_hasYard_5 rfl (lv_at hl 0 rfl) ?_
    refine m_geti (b) 9 hx hb hts hown hE oc8 hM hT.l (kT _ hT.1).1 (by decide) rfl tb_63 dX8_hasYard_6 ?_
    refine lv_icmp_ge (tgt := 16) hx hb dX8_hasYard_9 (by decide) (fun c2 => ?_) (fun c2 => ?_)
    · have hc2 := c2
      have q2 := q_le hc2
      refine lv_iconst (v := (0)) hx hb dX8_hasYard_16 (by decide) ?_
      exact m_zret hx hb hr rfl hlocks hM hS (Nat.le_of_ble_eq_true rfl) (Nat.le_of_ble_eq_true rfl) ⟨rfl, Bo.n (by omega)⟩ dX8_hasYard_17
    · have hc2 := c2
      have q2 := q_nle hc2
      refine lv_iconst (v := (1)) hx hb dX8_hasYard_12 (by decide) ?_
      refine lv_goto (tgt := 17) hx hb dX8_hasYard_13 (by decide) ?_
      exact m_zret hx hb hr rfl hlocks hM hS (Nat.le_of_ble_eq_true rfl) (Nat.le_of_ble_eq_true rfl) ⟨rfl, Bo.y (by omega)⟩ dX8_hasYard_17
