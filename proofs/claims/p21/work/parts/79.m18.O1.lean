set_option maxHeartbeats 4000000 in
set_option maxRecDepth 20000 in
theorem V_X9_getWithDust_t (l : Launch) (D : va_G) (A : Nat → Prop) (ad : Nat → Nat) (ns : List Nat) (I : MI) (L : ML) (G : MG) (a0 : Int32) (a1 : Int32) (a2 : Int32) (a3 : Int32) (hG : SGC ns G) (hI : INV I) (hlit : Lit 100 I a0) (ha0 : 0 ≤ a0.toInt ∧ a0.toInt ≤ 23) (ha1 : 0 ≤ a1.toInt ∧ a1.toInt ≤ 23) (ha2 : 0 ≤ a2.toInt ∧ a2.toInt ≤ 7) : Met l yX9_getWithDust (wd yX9_getWithDust cX9_getWithDust 5 (some .int)) ({ frames := 4, cells := 0, slots := 0, locals := 107 }) (va_Pc [.ref (ad (0)), .int a0, .int a1, .int a2, .int a3] (PM D A ad ns I L G)) (va_Qi (fun r u => ∃ I2 L2, u = (ad, ns, I2, L2, G) ∧ INV I2 ∧ Kp [(11, 15), (107, 108)] [(10, 2), (10, 3), (10, 4), (10, 5), (10, 6), (10, 7), (10, 11), (10, 12)] I I2 ∧ (EqV (stV (cF 100 I) 14 (a1).toNatClampNeg a3) (cF 100 I2))) (BM D A) A) 0 0 A := by
  refine m_ofW (by decide) (Nat.le_of_ble_eq_true rfl) ?_
  intro p e s m below meth c ls args hC hE hM hA hS hl
  obtain ⟨hx, hb, hml, hown, hts, hr, hlocks, hin⟩ := hC
  have k0 : (0 : Int32).toInt = 0 := by decide
  have k7 : (7 : Int32).toInt = 7 := by decide
  have hK : Kp [(11, 15), (107, 108)] [(10, 2), (10, 3), (10, 4), (10, 5), (10, 6), (10, 7), (10, 11), (10, 12)] I I := Kp.rf
  have hl : lv_has ls 5 [(0, .ref (ad (0))), (1, .int (a0)), (2, .int (a1)), (3, .int (a2)), (4, .int (a3))] := hl
  refine lv_aload_n hx hb dX9_getWithDust_0 rfl (lv_at hl 0 rfl) ?_
  refine m_getr (0) 0 (100) hx hb hts hown hE oc9 hM (hG.1 0 (by decide)) rfl (by decide) rfl (hG.2 (0, 0, 100) (by decide)) (by decide) tb_398 dX9_getWithDust_1 ?_
  refine lv_iload_n hx hb dX9_getWithDust_4 rfl (lv_at hl 2 rfl) ?_
  refine lv_bipush (v := (7)) hx hb dX9_getWithDust_5 (by decide) ?_
  refine lv_iload hx hb dX9_getWithDust_7 (lv_at hl 4 rfl) ?_
  refine m_callv (m_runV (100) (As := [.int (a1), .int (7), .int (a3)]) (rest := []) hx hb hml hown hts hE hM hS hA ce_X8_setMirror tb_503 (V_X8_setMirror_100_t l D A ad ns I L G (a1) (7) (a3) hG hI (by first | omega | decide) (by first | omega | decide)) rfl rfl ⟨Nat.le_of_ble_eq_true rfl, Nat.le_of_ble_eq_true rfl⟩ (hG.1 100 (by decide)) rfl rfl (by decide) rfl hl.1 rfl (Nat.le_of_ble_eq_true rfl) dX9_getWithDust_9 ⟨Nat.le_of_ble_eq_true rfl, Nat.le_of_ble_eq_true rfl⟩) hS (fun u H locs hw hM hS => ?_)
  obtain ⟨I1, L2, rfl, hI, hkI1, xI1⟩ := hw
  have hM : Mem D A ad ns I1 L2 G H := hM
  have hK := hK.trans hkI1 rfl
  refine lv_aload_n hx hb dX9_getWithDust_12 rfl (lv_at hl 0 rfl) ?_
  refine m_getr (0) 3 (10) hx hb hts hown hE oc9 hM (hG.1 0 (by decide)) rfl (by decide) rfl (hG.2 (0, 3, 10) (by decide)) (by decide) tb_401 dX9_getWithDust_13 ?_
  refine lv_aload_n hx hb dX9_getWithDust_16 rfl (lv_at hl 0 rfl) ?_
  refine m_getr (0) 0 (100) hx hb hts hown hE oc9 hM (hG.1 0 (by decide)) rfl (by decide) rfl (hG.2 (0, 0, 100) (by decide)) (by decide) tb_398 dX9_getWithDust_17 ?_
  refine lv_iload_n hx hb dX9_getWithDust_20 rfl (lv_at hl 1 rfl) ?_
  refine m_callv (m_runV (10) (As := [.ref (ad (100)), .int (a0)]) (rest := []) hx hb hml hown hts hE hM hS hA ce_X1_shine tb_907 (V_X1_shine_100 l D A ad ns I1 L2 G (a0) hG hI (hlit.kp hK rfl) (by first | omega | decide)) rfl rfl ⟨Nat.le_of_ble_eq_true rfl, Nat.le_of_ble_eq_true rfl⟩ (hG.1 10 (by decide)) rfl rfl (by decide) rfl hl.1 rfl (Nat.le_of_ble_eq_true rfl) dX9_getWithDust_21 ⟨Nat.le_of_ble_eq_true rfl, Nat.le_of_ble_eq_true rfl⟩) hS (fun u H locs hw hM hS => ?_)
  obtain ⟨I3, L4, rfl, hI, hkI3⟩ := hw
  have hM : Mem D A ad ns I3 L4 G H := hM
  have hK := hK.trans hkI3 rfl
  refine lv_aload_n hx hb dX9_getWithDust_24 rfl (lv_at hl 0 rfl) ?_
  refine m_getr (0) 3 (10) hx hb hts hown hE oc9 hM (hG.1 0 (by decide)) rfl (by decide) rfl (hG.2 (0, 3, 10) (by decide)) (by decide) tb_401 dX9_getWithDust_25 ?_
  refine m_getr (10) 0 (11) hx hb hts hown hE oc1 hM (hG.1 10 (by decide)) rfl (by decide) rfl (hG.2 (10, 0, 11) (by decide)) (by decide) tb_133 dX9_getWithDust_28 ?_
  refine lv_iload_n hx hb dX9_getWithDust_31 rfl (lv_at hl 3 rfl) ?_
  refine m_iald (11) hx hb hE hM (hG.1 11 (by decide)) rfl (vp_in_iff.mpr (by omega)) dX9_getWithDust_32 ?_
  exact m_iret hx hb hr hlocks hM hS (Nat.le_of_ble_eq_true rfl) (Nat.le_of_ble_eq_true rfl) ⟨_, _, rfl, hI, hK, ((EqV.rf.st xI1).nk hkI3 rfl)⟩ dX9_getWithDust_33
set_option maxHeartbeats 4000000 in
set_option maxRecDepth 20000 in
theorem V_X9_leastDustOneByOne_t (l : Launch) (D : va_G) (A : Nat → Prop) (ad : Nat → Nat) (ns : List Nat) (I : MI) (L : ML) (G : MG) (a0 : Int32) (a1 : Int32) (a2 : Int32) (a3 : Int32) (hG : SGC ns G) (hI : INV I) (hlit : Lit 100 I a0) (ha0 : 0 ≤ a0.toInt ∧ a0.toInt ≤ 23) (ha1 : 0 ≤ a1.toInt ∧ a1.toInt ≤ 23) (ha2 : 0 ≤ a2.toInt ∧ a2.toInt ≤ 7) : Met l yX9_leastDustOneByOne (wd yX9_leastDustOneByOne cX9_leastDustOneByOne 6 (some .int)) ({ frames := 5, cells := 0, slots := 0, locals := 131 }) (va_Pc [.ref (ad (0)), .int a0, .int a1, .int a2, .int a3] (PM D A ad ns I L G)) (va_Qi (fun r u => ∃ I2 L2, u = (ad, ns, I2, L2, G) ∧ INV I2 ∧ Kp [(11, 15), (107, 108)] [(10, 2), (10, 3), (10, 4), (10, 5), (10, 6), (10, 7), (10, 11), (10, 12)] I I2 ∧ (TRY1 100 14 (a1).toNatClampNeg I I2)) (BM D A) A) 0 0 A := by
  refine m_ofW (by decide) (Nat.le_of_ble_eq_true rfl) ?_
  intro p e s m below meth c ls args hC hE hM hA hS hl
  obtain ⟨hx, hb, hml, hown, hts, hr, hlocks, hin⟩ := hC
  have km2 : (-2 : Int32).toInt = -2 := by decide
  have k0 : (0 : Int32).toInt = 0 := by decide
  have k1 : (1 : Int32).toInt = 1 := by decide
  have k1000 : (1000 : Int32).toInt = 1000 := by decide
  have hK : Kp [(11, 15), (107, 108)] [(10, 2), (10, 3), (10, 4), (10, 5), (10, 6), (10, 7), (10, 11), (10, 12)] I I := Kp.rf
  have hl : lv_has ls 6 [(0, .ref (ad (0))), (1, .int (a0)), (2, .int (a1)), (3, .int (a2)), (4, .int (a3))] := hl
  refine lv_iconst (v := (1)) hx hb dX9_leastDustOneByOne_0 (by decide) ?_
  refine lv_istore (lv' := [(5, .int (1)), (0, .ref (ad (0))), (1, .int (a0)), (2, .int (a1)), (3, .int (a2)), (4, .int (a3))]) hx hb dX9_leastDustOneByOne_1 hl (by decide) rfl (fun ls hl => ?_)
  have loop3 : ∀ (n : Nat) (x5_3 : Int32) (Ia3 : MI) (La3 : ML) (H : Heap) (locs : List Loc) (ls : Array Slot), INV Ia3 → Kp [(11, 15), (107, 108)] [(10, 2), (10, 3), (10, 4), (10, 5), (10, 6), (10, 7), (10, 11), (10, 12)] I Ia3 → (1 ≤ x5_3.toInt ∧ x5_3.toInt ≤ 1001) → (TRY1 100 14 (a1).toNatClampNeg I Ia3) → (1001 - x5_3.toInt).toNat < n → Mem D A ad ns Ia3 La3 G H → va_S A s.heap H locs → lv_has ls 6 [(5, .int (x5_3)), (0, .ref (ad (0))), (1, .int (a0)), (2, .int (a1)), (3, .int (a2)), (4, .int (a3))] → W p l e ({ frames := 5, cells := 0, slots := 0, locals := 131 } : Room) s m args below meth c H locs 0 0 (MQ below (va_Qi (fun r u => ∃ I2 L2, u = (ad, ns, I2, L2, G) ∧ INV I2 ∧ Kp [(11, 15), (107, 108)] [(10, 2), (10, 3), (10, 4), (10, 5), (10, 6), (10, 7), (10, 11), (10, 12)] I I2 ∧ (TRY1 100 14 (a1).toNatClampNeg I I2)) (BM D A) A) args s 0 0 A) (F0 m 3 ls []) := by
    intro n
    induction n with
    | zero =>
      intro x5_3 Ia3 La3 H locs ls hI hK hr5_3 hd3 hmu
      exact absurd hmu (Nat.not_lt_zero _)
    | succ n ih3 =>
      intro x5_3 Ia3 La3 H locs ls hI hK hr5_3 hd3 hmu3 hM hS hl
      refine lv_iload hx hb dX9_leastDustOneByOne_3 (lv_at hl 0 rfl) ?_
      refine lv_sipush (v := (1000)) hx hb dX9_leastDustOneByOne_5 (by decide) ?_
      refine lv_icmp_gt (tgt := 34) hx hb dX9_leastDustOneByOne_8 (by decide) (fun c1 => ?_) (fun c1 => ?_)
      · have hc1 := c1
        have q1 := q_lt hc1
        refine lv_bipush (v := (-2)) hx hb dX9_leastDustOneByOne_34 (by decide) ?_
        exact m_iret hx hb hr hlocks hM hS (Nat.le_of_ble_eq_true rfl) (Nat.le_of_ble_eq_true rfl) ⟨_, _, rfl, hI, hK, hd3⟩ dX9_leastDustOneByOne_36
      · have hc1 := c1
        have q1 := q_nlt hc1
        refine lv_aload_n hx hb dX9_leastDustOneByOne_11 rfl (lv_at hl 1 rfl) ?_
        refine lv_iload_n hx hb dX9_leastDustOneByOne_12 rfl (lv_at hl 2 rfl) ?_
        refine lv_iload_n hx hb dX9_leastDustOneByOne_13 rfl (lv_at hl 3 rfl) ?_
        refine lv_iload_n hx hb dX9_leastDustOneByOne_14 rfl (lv_at hl 4 rfl) ?_
        refine lv_iload hx hb dX9_leastDustOneByOne_15 (lv_at hl 0 rfl) ?_
        refine m_calli (m_runV (0) (As := [.int (a0), .int (a1), .int (a2), .int (x5_3)]) (rest := []) hx hb hml hown hts hE hM hS hA ce_X9_getWithDust tb_1130 (V_X9_getWithDust_t l D A ad ns Ia3 La3 G (a0) (a1) (a2) (x5_3) hG hI (hlit.kp hK rfl) (by first | omega | decide) (by first | omega | decide) (by first | omega | decide)) rfl rfl ⟨Nat.le_of_ble_eq_true rfl, Nat.le_of_ble_eq_true rfl⟩ (hG.1 0 (by decide)) rfl rfl (by decide) rfl hl.1 rfl (Nat.le_of_ble_eq_true rfl) dX9_leastDustOneByOne_17 ⟨Nat.le_of_ble_eq_true rfl, Nat.le_of_ble_eq_true rfl⟩) hS (fun r2 u H locs hw hM hS => ?_)
        obtain ⟨I3, L4, rfl, hI, hkI3, xr2⟩ := hw
        have hM : Mem D A ad ns I3 L4 G H := hM
        have hK := hK.trans hkI3 rfl
        refine lv_iload hx hb dX9_leastDustOneByOne_20 (lv_at hl 5 rfl) ?_
        refine lv_icmp_gt (tgt := 28) hx hb dX9_leastDustOneByOne_22 (by decide) (fun c5 => ?_) (fun c5 => ?_)
        · have hc5 := c5
          have q5 := q_lt hc5
          obtain ⟨v6, ev6⟩ : ∃ z : Int32, z = x5_3 + Int32.ofInt (1) := ⟨_, rfl⟩
          have tv6 := a_inc ev6 (by decide) (by omega) (by omega)
          refine lv_iinc (v := v6) (lv' := [(5, .int (v6)), (0, .ref (ad (0))), (1, .int (a0)), (2, .int (a1)), (3, .int (a2)), (4, .int (a3))]) hx hb dX9_leastDustOneByOne_28 hl (k := 0) rfl ev6.symm (by decide) rfl (fun ls hl => ?_)
          refine lv_goto (tgt := 3) hx hb dX9_leastDustOneByOne_31 (by decide) ?_
          exact ih3 (v6) I3 L4 _ _ ls hI hK (by first | omega | decide) (hd3.step xr2) (by omega) hM hS (lv_sub hl [0, 1, 2, 3, 4, 5] rfl)
        · have hc5 := c5
          have q5 := q_nlt hc5
          refine lv_iload hx hb dX9_leastDustOneByOne_25 (lv_at hl 0 rfl) ?_
          exact m_iret hx hb hr hlocks hM hS (Nat.le_of_ble_eq_true rfl) (Nat.le_of_ble_eq_true rfl) ⟨_, _, rfl, hI, hK, (hd3.step xr2)⟩ dX9_leastDustOneByOne_27
  exact loop3 (_ + 1) (1) I L _ _ ls hI hK (by first | omega | decide) TRY1.rf (Nat.lt_succ_self _) hM hS (lv_sub hl [0, 1, 2, 3, 4, 5] rfl)
set_option maxHeartbeats 4000000 in
set_option maxRecDepth 20000 in
theorem V_X9_leastDustByHalves_t (l : Launch) (D : va_G) (A : Nat → Prop) (ad : Nat → Nat) (ns : List Nat) (I : MI) (L : ML) (G : MG) (a0 : Int32) (a1 : Int32) (a2 : Int32) (a3 : Int32) (hG : SGC ns G) (hI : INV I) (hlit : Lit 100 I a0) (ha0 : 0 ≤ a0.toInt ∧ a0.toInt ≤ 23) (ha1 : 0 ≤ a1.toInt ∧ a1.toInt ≤ 23) (ha2 : 0 ≤ a2.toInt ∧ a2.toInt ≤ 7) : Met l yX9_leastDustByHalves (wd yX9_leastDustByHalves cX9_leastDustByHalves 9 (some .int)) ({ frames := 5, cells := 0, slots := 0, locals := 131 }) (va_Pc [.ref (ad (0)), .int a0, .int a1, .int a2, .int a3] (PM D A ad ns I L G)) (va_Qi (fun r u => ∃ I2 L2, u = (ad, ns, I2, L2, G) ∧ INV I2 ∧ Kp [(11, 15), (107, 108)] [(10, 2), (10, 3), (10, 4), (10, 5), (10, 6), (10, 7), (10, 11), (10, 12)] I I2 ∧ (TRY1 100 14 (a1).toNatClampNeg I I2)) (BM D A) A) 0 0 A := by
  refine m_ofW (by decide) (Nat.le_of_ble_eq_true rfl) ?_
  intro p e s m below meth c ls args hC hE hM hA hS hl
  obtain ⟨hx, hb, hml, hown, hts, hr, hlocks, hin⟩ := hC
  have km2 : (-2 : Int32).toInt = -2 := by decide
  have k0 : (0 : Int32).toInt = 0 := by decide
  have k1 : (1 : Int32).toInt = 1 := by decide
  have k2 : (2 : Int32).toInt = 2 := by decide
  have k1000 : (1000 : Int32).toInt = 1000 := by decide
  have hK : Kp [(11, 15), (107, 108)] [(10, 2), (10, 3), (10, 4), (10, 5), (10, 6), (10, 7), (10, 11), (10, 12)] I I := Kp.rf
  have hl : lv_has ls 9 [(0, .ref (ad (0))), (1, .int (a0)), (2, .int (a1)), (3, .int (a2)), (4, .int (a3))] := hl
  refine lv_aload_n hx hb dX9_leastDustByHalves_0 rfl (lv_at hl 0 rfl) ?_
  refine lv_iload_n hx hb dX9_leastDustByHalves_1 rfl (lv_at hl 1 rfl) ?_
  refine lv_iload_n hx hb dX9_leastDustByHalves_2 rfl (lv_at hl 2 rfl) ?_
  refine lv_iload_n hx hb dX9_leastDustByHalves_3 rfl (lv_at hl 3 rfl) ?_
  refine lv_sipush (v := (1000)) hx hb dX9_leastDustByHalves_4 (by decide) ?_
  refine m_calli (m_runV (0) (As := [.int (a0), .int (a1), .int (a2), .int (1000)]) (rest := []) hx hb hml hown hts hE hM hS hA ce_X9_getWithDust tb_1130 (V_X9_getWithDust_t l D A ad ns I L G (a0) (a1) (a2) (1000) hG hI (hlit.kp hK rfl) (by first | omega | decide) (by first | omega | decide) (by first | omega | decide)) rfl rfl ⟨Nat.le_of_ble_eq_true rfl, Nat.le_of_ble_eq_true rfl⟩ (hG.1 0 (by decide)) rfl rfl (by decide) rfl hl.1 rfl (Nat.le_of_ble_eq_true rfl) dX9_leastDustByHalves_7 ⟨Nat.le_of_ble_eq_true rfl, Nat.le_of_ble_eq_true rfl⟩) hS (fun r1 u H locs hw hM hS => ?_)
  obtain ⟨I2, L3, rfl, hI, hkI2, xr1⟩ := hw
  have hM : Mem D A ad ns I2 L3 G H := hM
  have hK := hK.trans hkI2 rfl
  refine lv_iload hx hb dX9_leastDustByHalves_10 (lv_at hl 4 rfl) ?_
  refine lv_icmp_le (tgt := 18) hx hb dX9_leastDustByHalves_12 (by decide) (fun c4 => ?_) (fun c4 => ?_)
  · have hc4 := c4
    have q4 := q_le hc4
    refine lv_iconst (v := (0)) hx hb dX9_leastDustByHalves_18 (by decide) ?_
    refine lv_istore (lv' := [(5, .int (0)), (0, .ref (ad (0))), (1, .int (a0)), (2, .int (a1)), (3, .int (a2)), (4, .int (a3))]) hx hb dX9_leastDustByHalves_19 hl (by decide) rfl (fun ls hl => ?_)
    refine lv_sipush (v := (1000)) hx hb dX9_leastDustByHalves_21 (by decide) ?_
    refine lv_istore (lv' := [(6, .int (1000)), (5, .int (0)), (0, .ref (ad (0))), (1, .int (a0)), (2, .int (a1)), (3, .int (a2)), (4, .int (a3))]) hx hb dX9_leastDustByHalves_24 hl (by decide) rfl (fun ls hl => ?_)
    refine lv_iconst (v := (0)) hx hb dX9_leastDustByHalves_26 (by decide) ?_
    refine lv_istore (lv' := [(7, .int (0)), (6, .int (1000)), (5, .int (0)), (0, .ref (ad (0))), (1, .int (a0)), (2, .int (a1)), (3, .int (a2)), (4, .int (a3))]) hx hb dX9_leastDustByHalves_27 hl (by decide) rfl (fun ls hl => ?_)
    have loop29 : ∀ (n : Nat) (x7_29 : Int32) (x6_29 : Int32) (x5_29 : Int32) (Ia29 : MI) (La29 : ML) (H : Heap) (locs : List Loc) (ls : Array Slot), INV Ia29 → Kp [(11, 15), (107, 108)] [(10, 2), (10, 3), (10, 4), (10, 5), (10, 6), (10, 7), (10, 11), (10, 12)] I Ia29 → (0 ≤ x7_29.toInt ∧ x7_29.toInt ≤ 1000) → (0 ≤ x6_29.toInt ∧ x6_29.toInt ≤ 1000) → (0 ≤ x5_29.toInt ∧ x5_29.toInt ≤ 1000) → (TRY1 100 14 (a1).toNatClampNeg I Ia29) → (1000 - x7_29.toInt).toNat < n → Mem D A ad ns Ia29 La29 G H → va_S A s.heap H locs → lv_has ls 9 [(7, .int (x7_29)), (6, .int (x6_29)), (5, .int (x5_29)), (0, .ref (ad (0))), (1, .int (a0)), (2, .int (a1)), (3, .int (a2)), (4, .int (a3))] → W p l e ({ frames := 5, cells := 0, slots := 0, locals := 131 } : Room) s m args below meth c H locs 0 0 (MQ below (va_Qi (fun r u => ∃ I2 L2, u = (ad, ns, I2, L2, G) ∧ INV I2 ∧ Kp [(11, 15), (107, 108)] [(10, 2), (10, 3), (10, 4), (10, 5), (10, 6), (10, 7), (10, 11), (10, 12)] I I2 ∧ (TRY1 100 14 (a1).toNatClampNeg I I2)) (BM D A) A) args s 0 0 A) (F0 m 29 ls []) := by
      intro n
      induction n with
      | zero =>
        intro x7_29 x6_29 x5_29 Ia29 La29 H locs ls hI hK hr7_29 hr6_29 hr5_29 hd29 hmu
        exact absurd hmu (Nat.not_lt_zero _)
      | succ n ih29 =>
        intro x7_29 x6_29 x5_29 Ia29 La29 H locs ls hI hK hr7_29 hr6_29 hr5_29 hd29 hmu29 hM hS hl
        refine lv_iload hx hb dX9_leastDustByHalves_29 (lv_at hl 1 rfl) ?_
        refine lv_iload hx hb dX9_leastDustByHalves_31 (lv_at hl 2 rfl) ?_
        refine lv_isub hx hb dX9_leastDustByHalves_33 ?_
        refine lv_topi (fun v5 ev5 => ?_)
        have tv5 := a_sub ev5 (by omega) (by omega)
        refine lv_iconst (v := (1)) hx hb dX9_leastDustByHalves_34 (by decide) ?_
        refine lv_icmp_le (tgt := 86) hx hb dX9_leastDustByHalves_35 (by decide) (fun c6 => ?_) (fun c6 => ?_)
        · have hc6 := c6
          have q6 := q_le hc6
          refine lv_iload hx hb dX9_leastDustByHalves_86 (lv_at hl 1 rfl) ?_
          exact m_iret hx hb hr hlocks hM hS (Nat.le_of_ble_eq_true rfl) (Nat.le_of_ble_eq_true rfl) ⟨_, _, rfl, hI, hK, hd29⟩ dX9_leastDustByHalves_88
        · have hc6 := c6
          have q6 := q_nle hc6
          refine lv_iload hx hb dX9_leastDustByHalves_38 (lv_at hl 0 rfl) ?_
          refine lv_sipush (v := (1000)) hx hb dX9_leastDustByHalves_40 (by decide) ?_
          refine lv_icmp_ge (tgt := 86) hx hb dX9_leastDustByHalves_43 (by decide) (fun c7 => ?_) (fun c7 => ?_)
          · have hc7 := c7
            have q7 := q_le hc7
            refine lv_iload hx hb dX9_leastDustByHalves_86 (lv_at hl 1 rfl) ?_
            exact m_iret hx hb hr hlocks hM hS (Nat.le_of_ble_eq_true rfl) (Nat.le_of_ble_eq_true rfl) ⟨_, _, rfl, hI, hK, hd29⟩ dX9_leastDustByHalves_88
          · have hc7 := c7
            have q7 := q_nle hc7
            refine lv_iload hx hb dX9_leastDustByHalves_46 (lv_at hl 2 rfl) ?_
            refine lv_iload hx hb dX9_leastDustByHalves_48 (lv_at hl 1 rfl) ?_
            refine lv_iadd hx hb dX9_leastDustByHalves_50 ?_
            refine lv_topi (fun v8 ev8 => ?_)
            have tv8 := a_add ev8 (by omega) (by omega)
            refine lv_iconst (v := (2)) hx hb dX9_leastDustByHalves_51 (by decide) ?_
            refine lv_idiv hx hb dX9_leastDustByHalves_52 (by decide) ?_
            refine lv_topi (fun v9 ev9 => ?_)
            have tv9 := a_div (c := 2) ev9 (by decide) (by decide) (by omega)
            refine lv_istore (lv' := [(8, .int (v9)), (7, .int (x7_29)), (6, .int (x6_29)), (5, .int (x5_29)), (0, .ref (ad (0))), (1, .int (a0)), (2, .int (a1)), (3, .int (a2)), (4, .int (a3))]) hx hb dX9_leastDustByHalves_53 hl (by decide) rfl (fun ls hl => ?_)
            refine lv_aload_n hx hb dX9_leastDustByHalves_55 rfl (lv_at hl 4 rfl) ?_
            refine lv_iload_n hx hb dX9_leastDustByHalves_56 rfl (lv_at hl 5 rfl) ?_
            refine lv_iload_n hx hb dX9_leastDustByHalves_57 rfl (lv_at hl 6 rfl) ?_
            refine lv_iload_n hx hb dX9_leastDustByHalves_58 rfl (lv_at hl 7 rfl) ?_
            refine lv_iload hx hb dX9_leastDustByHalves_59 (lv_at hl 0 rfl) ?_
            refine m_calli (m_runV (0) (As := [.int (a0), .int (a1), .int (a2), .int (v9)]) (rest := []) hx hb hml hown hts hE hM hS hA ce_X9_getWithDust tb_1130 (V_X9_getWithDust_t l D A ad ns Ia29 La29 G (a0) (a1) (a2) (v9) hG hI (hlit.kp hK rfl) (by first | omega | decide) (by first | omega | decide) (by first | omega | decide)) rfl rfl ⟨Nat.le_of_ble_eq_true rfl, Nat.le_of_ble_eq_true rfl⟩ (hG.1 0 (by decide)) rfl rfl (by decide) rfl hl.1 rfl (Nat.le_of_ble_eq_true rfl) dX9_leastDustByHalves_61 ⟨Nat.le_of_ble_eq_true rfl, Nat.le_of_ble_eq_true rfl⟩) hS (fun r10 u H locs hw hM hS => ?_)
            obtain ⟨I11, L12, rfl, hI, hkI11, xr10⟩ := hw
            have hM : Mem D A ad ns I11 L12 G H := hM
            have hK := hK.trans hkI11 rfl
            refine lv_iload hx hb dX9_leastDustByHalves_64 (lv_at hl 8 rfl) ?_
            refine lv_icmp_gt (tgt := 76) hx hb dX9_leastDustByHalves_66 (by decide) (fun c13 => ?_) (fun c13 => ?_)
            · have hc13 := c13
              have q13 := q_lt hc13
              refine lv_iload hx hb dX9_leastDustByHalves_76 (lv_at hl 0 rfl) ?_
              refine lv_istore (lv' := [(5, .int (v9)), (8, .int (v9)), (7, .int (x7_29)), (6, .int (x6_29)), (0, .ref (ad (0))), (1, .int (a0)), (2, .int (a1)), (3, .int (a2)), (4, .int (a3))]) hx hb dX9_leastDustByHalves_78 hl (by decide) rfl (fun ls hl => ?_)
              obtain ⟨v14, ev14⟩ : ∃ z : Int32, z = x7_29 + Int32.ofInt (1) := ⟨_, rfl⟩
              have tv14 := a_inc ev14 (by decide) (by omega) (by omega)
              refine lv_iinc (v := v14) (lv' := [(7, .int (v14)), (5, .int (v9)), (8, .int (v9)), (6, .int (x6_29)), (0, .ref (ad (0))), (1, .int (a0)), (2, .int (a1)), (3, .int (a2)), (4, .int (a3))]) hx hb dX9_leastDustByHalves_80 hl (k := 2) rfl ev14.symm (by decide) rfl (fun ls hl => ?_)
              refine lv_goto (tgt := 29) hx hb dX9_leastDustByHalves_83 (by decide) ?_
              exact ih29 (v14) (x6_29) (v9) I11 L12 _ _ ls hI hK (by first | omega | decide) (by first | omega | decide) (by first | omega | decide) (hd29.step xr10) (by omega) hM hS (lv_sub hl [0, 3, 1, 4, 5, 6, 7, 8] rfl)
            · have hc13 := c13
              have q13 := q_nlt hc13
              refine lv_iload hx hb dX9_leastDustByHalves_69 (lv_at hl 0 rfl) ?_
              refine lv_istore (lv' := [(6, .int (v9)), (8, .int (v9)), (7, .int (x7_29)), (5, .int (x5_29)), (0, .ref (ad (0))), (1, .int (a0)), (2, .int (a1)), (3, .int (a2)), (4, .int (a3))]) hx hb dX9_leastDustByHalves_71 hl (by decide) rfl (fun ls hl => ?_)
              refine lv_goto (tgt := 80) hx hb dX9_leastDustByHalves_73 (by decide) ?_
              obtain ⟨v15, ev15⟩ : ∃ z : Int32, z = x7_29 + Int32.ofInt (1) := ⟨_, rfl⟩
              have tv15 := a_inc ev15 (by decide) (by omega) (by omega)
              refine lv_iinc (v := v15) (lv' := [(7, .int (v15)), (6, .int (v9)), (8, .int (v9)), (5, .int (x5_29)), (0, .ref (ad (0))), (1, .int (a0)), (2, .int (a1)), (3, .int (a2)), (4, .int (a3))]) hx hb dX9_leastDustByHalves_80 hl (k := 2) rfl ev15.symm (by decide) rfl (fun ls hl => ?_)
              refine lv_goto (tgt := 29) hx hb dX9_leastDustByHalves_83 (by decide) ?_
              exact ih29 (v15) (v9) (x5_29) I11 L12 _ _ ls hI hK (by first | omega | decide) (by first | omega | decide) (by first | omega | decide) (hd29.step xr10) (by omega) hM hS (lv_sub hl [0, 1, 3, 4, 5, 6, 7, 8] rfl)
    exact loop29 (_ + 1) (0) (1000) (0) I2 L3 _ _ ls hI hK (by first | omega | decide) (by first | omega | decide) (by first | omega | decide) (TRY1.rf.step xr1) (Nat.lt_succ_self _) hM hS (lv_sub hl [0, 1, 2, 3, 4, 5, 6, 7] rfl)
  · have hc4 := c4
    have q4 := q_nle hc4
    refine lv_bipush (v := (-2)) hx hb dX9_leastDustByHalves_15 (by decide) ?_
    exact m_iret hx hb hr hlocks hM hS (Nat.le_of_ble_eq_true rfl) (Nat.le_of_ble_eq_true rfl) ⟨_, _, rfl, hI, hK, (TRY1.rf.step xr1)⟩ dX9_leastDustByHalves_17
set_option maxHeartbeats 4000000 in
set_option maxRecDepth 20000 in
theorem V_X9_leastDust_t (l : Launch) (D : va_G) (A : Nat → Prop) (ad : Nat → Nat) (ns : List Nat) (I : MI) (L : ML) (G : MG) (a0 : Int32) (a1 : Int32) (a2 : Int32) (a3 : Int32) (hG : SGC ns G) (hI : INV I) (hlit : Lit 100 I a0) (ha0 : 0 ≤ a0.toInt ∧ a0.toInt ≤ 23) (ha1 : 0 ≤ a1.toInt ∧ a1.toInt ≤ 23) (ha2 : 0 ≤ a2.toInt ∧ a2.toInt ≤ 7) : Met l yX9_leastDust (wd yX9_leastDust cX9_leastDust 5 (some .int)) ({ frames := 6, cells := 0, slots := 0, locals := 159 }) (va_Pc [.ref (ad (0)), .int a0, .int a1, .int a2, .int a3] (PM D A ad ns I L G)) (va_Qi (fun r u => ∃ I2 L2, u = (ad, ns, I2, L2, G) ∧ INV I2 ∧ Kp [(11, 15), (107, 108)] [(10, 2), (10, 3), (10, 4), (10, 5), (10, 6), (10, 7), (10, 11), (10, 12)] I I2 ∧ (TRY1 100 14 (a1).toNatClampNeg I I2)) (BM D A) A) 0 0 A := by
  refine m_ofW (by decide) (Nat.le_of_ble_eq_true rfl) ?_
  intro p e s m below meth c ls args hC hE hM hA hS hl
  obtain ⟨hx, hb, hml, hown, hts, hr, hlocks, hin⟩ := hC
  have km2 : (-2 : Int32).toInt = -2 := by decide
  have k0 : (0 : Int32).toInt = 0 := by decide
  have hK : Kp [(11, 15), (107, 108)] [(10, 2), (10, 3), (10, 4), (10, 5), (10, 6), (10, 7), (10, 11), (10, 12)] I I := Kp.rf
  have hl : lv_has ls 5 [(0, .ref (ad (0))), (1, .int (a0)), (2, .int (a1)), (3, .int (a2)), (4, .int (a3))] := hl
  refine lv_aload_n hx hb dX9_leastDust_0 rfl (lv_at hl 0 rfl) ?_
  refine lv_iload_n hx hb dX9_leastDust_1 rfl (lv_at hl 1 rfl) ?_
  refine lv_iload_n hx hb dX9_leastDust_2 rfl (lv_at hl 2 rfl) ?_
  refine lv_iload_n hx hb dX9_leastDust_3 rfl (lv_at hl 3 rfl) ?_
  refine lv_iconst (v := (0)) hx hb dX9_leastDust_4 (by decide) ?_
  refine m_calli (m_runV (0) (As := [.int (a0), .int (a1), .int (a2), .int (0)]) (rest := []) hx hb hml hown hts hE hM hS hA ce_X9_getWithDust tb_1130 (V_X9_getWithDust_t l D A ad ns I L G (a0) (a1) (a2) (0) hG hI (hlit.kp hK rfl) (by first | omega | decide) (by first | omega | decide) (by first | omega | decide)) rfl rfl ⟨Nat.le_of_ble_eq_true rfl, Nat.le_of_ble_eq_true rfl⟩ (hG.1 0 (by decide)) rfl rfl (by decide) rfl hl.1 rfl (Nat.le_of_ble_eq_true rfl) dX9_leastDust_5 ⟨Nat.le_of_ble_eq_true rfl, Nat.le_of_ble_eq_true rfl⟩) hS (fun r1 u H locs hw hM hS => ?_)
  obtain ⟨I2, L3, rfl, hI, hkI2, xr1⟩ := hw
  have hM : Mem D A ad ns I2 L3 G H := hM
  have hK := hK.trans hkI2 rfl
  refine lv_iload hx hb dX9_leastDust_8 (lv_at hl 4 rfl) ?_
  refine lv_icmp_gt (tgt := 15) hx hb dX9_leastDust_10 (by decide) (fun c4 => ?_) (fun c4 => ?_)
  · have hc4 := c4
    have q4 := q_lt hc4
    refine lv_aload_n hx hb dX9_leastDust_15 rfl (lv_at hl 0 rfl) ?_
    refine m_getr (0) 3 (10) hx hb hts hown hE oc9 hM (hG.1 0 (by decide)) rfl (by decide) rfl (hG.2 (0, 3, 10) (by decide)) (by decide) tb_401 dX9_leastDust_16 ?_
    refine lv_iload_n hx hb dX9_leastDust_19 rfl (lv_at hl 2 rfl) ?_
    refine m_calli (m_runV (10) (As := [.int (a1)]) (rest := []) hx hb hml hown hts hE hM hS hA ce_X1_touches tb_1134 (V_X1_touches l D A ad ns I2 L3 G (a1) hG hI) rfl rfl ⟨Nat.le_of_ble_eq_true rfl, Nat.le_of_ble_eq_true rfl⟩ (hG.1 10 (by decide)) rfl rfl (by decide) rfl hl.1 rfl (Nat.le_of_ble_eq_true rfl) dX9_leastDust_20 ⟨Nat.le_of_ble_eq_true rfl, Nat.le_of_ble_eq_true rfl⟩) hS (fun r5 u H locs hw hM hS => ?_)
    obtain ⟨rfl, xr5⟩ := hw
    have hM : Mem D A ad ns I2 L3 G H := hM
    refine lv_if_ne (tgt := 29) hx hb dX9_leastDust_23 (by decide) (fun c6 => ?_) (fun c6 => ?_)
    · have hc6 := c6
      have q6 := q_ne hc6
      refine lv_aload_n hx hb dX9_leastDust_29 rfl (lv_at hl 0 rfl) ?_
      refine m_getr (0) 3 (10) hx hb hts hown hE oc9 hM (hG.1 0 (by decide)) rfl (by decide) rfl (hG.2 (0, 3, 10) (by decide)) (by decide) tb_401 dX9_leastDust_30 ?_
      refine m_geti (10) 6 hx hb hts hown hE oc1 hM (hG.1 10 (by decide)) rfl (by decide) rfl tb_145 dX9_leastDust_33 ?_
      have g7 := hI.get (10) 6 (lo := 0) (hi := 1) rfl
      refine lv_if_eq (tgt := 51) hx hb dX9_leastDust_36 (by decide) (fun c8 => ?_) (fun c8 => ?_)
      · have hc8 := c8
        have q8 := q_eq hc8
        refine lv_aload_n hx hb dX9_leastDust_51 rfl (lv_at hl 0 rfl) ?_
        refine lv_iload_n hx hb dX9_leastDust_52 rfl (lv_at hl 1 rfl) ?_
        refine lv_iload_n hx hb dX9_leastDust_53 rfl (lv_at hl 2 rfl) ?_
        refine lv_iload_n hx hb dX9_leastDust_54 rfl (lv_at hl 3 rfl) ?_
        refine lv_iload hx hb dX9_leastDust_55 (lv_at hl 4 rfl) ?_
        refine m_calli (m_runV (0) (As := [.int (a0), .int (a1), .int (a2), .int (a3)]) (rest := []) hx hb hml hown hts hE hM hS hA ce_X9_leastDustByHalves tb_1139 (V_X9_leastDustByHalves_t l D A ad ns I2 L3 G (a0) (a1) (a2) (a3) hG hI (hlit.kp hK rfl) (by first | omega | decide) (by first | omega | decide) (by first | omega | decide)) rfl rfl ⟨Nat.le_of_ble_eq_true rfl, Nat.le_of_ble_eq_true rfl⟩ (hG.1 0 (by decide)) rfl rfl (by decide) rfl hl.1 rfl (Nat.le_of_ble_eq_true rfl) dX9_leastDust_57 ⟨Nat.le_of_ble_eq_true rfl, Nat.le_of_ble_eq_true rfl⟩) hS (fun r9 u H locs hw hM hS => ?_)
        obtain ⟨I10, L11, rfl, hI, hkI10, xr9⟩ := hw
        have hM : Mem D A ad ns I10 L11 G H := hM
        have hK := hK.trans hkI10 rfl
        exact m_iret hx hb hr hlocks hM hS (Nat.le_of_ble_eq_true rfl) (Nat.le_of_ble_eq_true rfl) ⟨_, _, rfl, hI, hK, ((TRY1.rf.step xr1).tr xr9)⟩ dX9_leastDust_60
      · have hc8 := c8
        have q8 := q_ne hc8
        refine lv_aload_n hx hb dX9_leastDust_39 rfl (lv_at hl 0 rfl) ?_
        refine lv_iload_n hx hb dX9_leastDust_40 rfl (lv_at hl 1 rfl) ?_
        refine lv_iload_n hx hb dX9_leastDust_41 rfl (lv_at hl 2 rfl) ?_
        refine lv_iload_n hx hb dX9_leastDust_42 rfl (lv_at hl 3 rfl) ?_
        refine lv_iload hx hb dX9_leastDust_43 (lv_at hl 4 rfl) ?_
        refine m_calli (m_runV (0) (As := [.int (a0), .int (a1), .int (a2), .int (a3)]) (rest := []) hx hb hml hown hts hE hM hS hA ce_X9_leastDustOneByOne tb_1135 (V_X9_leastDustOneByOne_t l D A ad ns I2 L3 G (a0) (a1) (a2) (a3) hG hI (hlit.kp hK rfl) (by first | omega | decide) (by first | omega | decide) (by first | omega | decide)) rfl rfl ⟨Nat.le_of_ble_eq_true rfl, Nat.le_of_ble_eq_true rfl⟩ (hG.1 0 (by decide)) rfl rfl (by decide) rfl hl.1 rfl (Nat.le_of_ble_eq_true rfl) dX9_leastDust_45 ⟨Nat.le_of_ble_eq_true rfl, Nat.le_of_ble_eq_true rfl⟩) hS (fun r12 u H locs hw hM hS => ?_)
        obtain ⟨I13, L14, rfl, hI, hkI13, xr12⟩ := hw
        have hM : Mem D A ad ns I13 L14 G H := hM
        have hK := hK.trans hkI13 rfl
        refine lv_goto (tgt := 60) hx hb dX9_leastDust_48 (by decide) ?_
        exact m_iret hx hb hr hlocks hM hS (Nat.le_of_ble_eq_true rfl) (Nat.le_of_ble_eq_true rfl) ⟨_, _, rfl, hI, hK, ((TRY1.rf.step xr1).tr xr12)⟩ dX9_leastDust_60
    · have hc6 := c6
      have q6 := q_eq hc6
      refine lv_bipush (v := (-2)) hx hb dX9_leastDust_26 (by decide) ?_
      exact m_iret hx hb hr hlocks hM hS (Nat.le_of_ble_eq_true rfl) (Nat.le_of_ble_eq_true rfl) ⟨_, _, rfl, hI, hK, (TRY1.rf.step xr1)⟩ dX9_leastDust_28
  · have hc4 := c4
    have q4 := q_nlt hc4
    refine lv_iconst (v := (0)) hx hb dX9_leastDust_13 (by decide) ?_
    exact m_iret hx hb hr hlocks hM hS (Nat.le_of_ble_eq_true rfl) (Nat.le_of_ble_eq_true rfl) ⟨_, _, rfl, hI, hK, (TRY1.rf.step xr1)⟩ dX9_leastDust_14
set_option maxHeartbeats 4000000 in
set_option maxRecDepth 20000 in
theorem V_X9_dusty_t (l : Launch) (D : va_G) (A : Nat → Prop) (ad : Nat → Nat) (ns : List Nat) (I : MI) (L : ML) (G : MG) (a0 : Int32) (a1 : Int32) (a2 : Int32) (a3 : Int32) (hG : SGC ns G) (hI : INV I) : Met l yX9_dusty (wd yX9_dusty cX9_dusty 7 (some .int)) ({ frames := 7, cells := 0, slots := 0, locals := 183 }) (va_Pc [.ref (ad (0)), .int a0, .int a1, .int a2, .int a3] (PM D A ad ns I L G)) (va_Qi (fun r u => ∃ I2 L2, u = (ad, ns, I2, L2, G) ∧ INV I2 ∧ Kp [(11, 15), (107, 108)] [(10, 2), (10, 3), (10, 4), (10, 5), (10, 6), (10, 7), (10, 11), (10, 12)] I I2 ∧ (KV 100 I I2)) (BM D A) A) 0 0 A := by
  refine m_ofW (by decide) (Nat.le_of_ble_eq_true rfl) ?_
  intro p e s m below meth c ls args hC hE hM hA hS hl
  obtain ⟨hx, hb, hml, hown, hts, hr, hlocks, hin⟩ := hC
  have km1 : (-1 : Int32).toInt = -1 := by decide
  have k0 : (0 : Int32).toInt = 0 := by decide
  have k7 : (7 : Int32).toInt = 7 := by decide
  have k9999999 : (9999999 : Int32).toInt = 9999999 := by decide
  have hK : Kp [(11, 15), (107, 108)] [(10, 2), (10, 3), (10, 4), (10, 5), (10, 6), (10, 7), (10, 11), (10, 12)] I I := Kp.rf
  have hl : lv_has ls 7 [(0, .ref (ad (0))), (1, .int (a0)), (2, .int (a1)), (3, .int (a2)), (4, .int (a3))] := hl
  refine lv_aload_n hx hb dX9_dusty_0 rfl (lv_at hl 0 rfl) ?_
  refine m_getr (0) 0 (100) hx hb hts hown hE oc9 hM (hG.1 0 (by decide)) rfl (by decide) rfl (hG.2 (0, 0, 100) (by decide)) (by decide) tb_398 dX9_dusty_1 ?_
  refine lv_iload_n hx hb dX9_dusty_4 rfl (lv_at hl 1 rfl) ?_
  refine m_calli (m_runV (100) (As := [.int (a0)]) (rest := []) hx hb hml hown hts hE hM hS hA ce_X8_isLit tb_906 (V_X8_isLit_100 l D A ad ns I L G (a0) hG hI) rfl rfl ⟨Nat.le_of_ble_eq_true rfl, Nat.le_of_ble_eq_true rfl⟩ (hG.1 100 (by decide)) rfl rfl (by decide) rfl hl.1 rfl (Nat.le_of_ble_eq_true rfl) dX9_dusty_5 ⟨Nat.le_of_ble_eq_true rfl, Nat.le_of_ble_eq_true rfl⟩) hS (fun r1 u H locs hw hM hS => ?_)
  obtain ⟨rfl, xr1⟩ := hw
  have hM : Mem D A ad ns I L G H := hM
  have yr1 := bo01 xr1
  refine lv_if_eq (tgt := 44) hx hb dX9_dusty_8 (by decide) (fun c2 => ?_) (fun c2 => ?_)
  · have hc2 := c2
    have q2 := xr1.f hc2
    refine lv_iconst (v := (-1)) hx hb dX9_dusty_44 (by decide) ?_
    exact m_iret hx hb hr hlocks hM hS (Nat.le_of_ble_eq_true rfl) (Nat.le_of_ble_eq_true rfl) ⟨_, _, rfl, hI, hK, EqV.rf⟩ dX9_dusty_45
  · have hc2 := c2
    have q2 := xr1.t hc2
    have lh2 := q2.2.1
    refine lv_aload_n hx hb dX9_dusty_11 rfl (lv_at hl 0 rfl) ?_
    refine m_getr (0) 0 (100) hx hb hts hown hE oc9 hM (hG.1 0 (by decide)) rfl (by decide) rfl (hG.2 (0, 0, 100) (by decide)) (by decide) tb_398 dX9_dusty_12 ?_
    refine lv_iload_n hx hb dX9_dusty_15 rfl (lv_at hl 2 rfl) ?_
    refine m_calli (m_runV (100) (As := [.int (a1)]) (rest := []) hx hb hml hown hts hE hM hS hA ce_X8_hasMirror tb_508 (V_X8_hasMirror_100 l D A ad ns I L G (a1) hG hI) rfl rfl ⟨Nat.le_of_ble_eq_true rfl, Nat.le_of_ble_eq_true rfl⟩ (hG.1 100 (by decide)) rfl rfl (by decide) rfl hl.1 rfl (Nat.le_of_ble_eq_true rfl) dX9_dusty_16 ⟨Nat.le_of_ble_eq_true rfl, Nat.le_of_ble_eq_true rfl⟩) hS (fun r3 u H locs hw hM hS => ?_)
    obtain ⟨rfl, xr3⟩ := hw
    have hM : Mem D A ad ns I L G H := hM
    have yr3 := bo01 xr3
    have g4 := hI.get 100 8 (lo := 0) (hi := 24) rfl
    refine lv_if_eq (tgt := 44) hx hb dX9_dusty_19 (by decide) (fun c5 => ?_) (fun c5 => ?_)
    · have hc5 := c5
      have q5 := xr3.f hc5
      refine lv_iconst (v := (-1)) hx hb dX9_dusty_44 (by decide) ?_
      exact m_iret hx hb hr hlocks hM hS (Nat.le_of_ble_eq_true rfl) (Nat.le_of_ble_eq_true rfl) ⟨_, _, rfl, hI, hK, EqV.rf⟩ dX9_dusty_45
    · have hc5 := c5
      have q5 := xr3.t hc5
      refine lv_aload_n hx hb dX9_dusty_22 rfl (lv_at hl 0 rfl) ?_
      refine m_getr (0) 0 (100) hx hb hts hown hE oc9 hM (hG.1 0 (by decide)) rfl (by decide) rfl (hG.2 (0, 0, 100) (by decide)) (by decide) tb_398 dX9_dusty_23 ?_
      refine lv_iload_n hx hb dX9_dusty_26 rfl (lv_at hl 3 rfl) ?_
      refine m_calli (m_runV (100) (As := [.int (a2)]) (rest := []) hx hb hml hown hts hE hM hS hA ce_X8_hasYard tb_893 (V_X8_hasYard_100 l D A ad ns I L G (a2) hG hI) rfl rfl ⟨Nat.le_of_ble_eq_true rfl, Nat.le_of_ble_eq_true rfl⟩ (hG.1 100 (by decide)) rfl rfl (by decide) rfl hl.1 rfl (Nat.le_of_ble_eq_true rfl) dX9_dusty_27 ⟨Nat.le_of_ble_eq_true rfl, Nat.le_of_ble_eq_true rfl⟩) hS (fun r6 u H locs hw hM hS => ?_)
      obtain ⟨rfl, xr6⟩ := hw
      have hM : Mem D A ad ns I L G H := hM
      have yr6 := bo01 xr6
      have g7 := hI.get 100 9 (lo := 0) (hi := 8) rfl
      refine lv_if_eq (tgt := 44) hx hb dX9_dusty_30 (by decide) (fun c8 => ?_) (fun c8 => ?_)
      · have hc8 := c8
        have q8 := xr6.f hc8
        refine lv_iconst (v := (-1)) hx hb dX9_dusty_44 (by decide) ?_
        exact m_iret hx hb hr hlocks hM hS (Nat.le_of_ble_eq_true rfl) (Nat.le_of_ble_eq_true rfl) ⟨_, _, rfl, hI, hK, EqV.rf⟩ dX9_dusty_45
      · have hc8 := c8
        have q8 := xr6.t hc8
        refine lv_iload hx hb dX9_dusty_33 (lv_at hl 4 rfl) ?_
        refine lv_iconst (v := (0)) hx hb dX9_dusty_35 (by decide) ?_
        refine lv_ldc (v := (9999999)) hx hb hown (hts _ tb_524) dX9_dusty_36 ?_
        refine m_calli (m_runS (As := [.int (a3), .int (0), .int (9999999)]) (rest := []) hx hb hml hown hts hE hM hS hA ce_X9_isWithin tb_451 (V_X9_isWithin l D A ad ns I L G (a3) (0) (9999999) hI) rfl rfl ⟨Nat.le_of_ble_eq_true rfl, Nat.le_of_ble_eq_true rfl⟩  rfl hl.1 rfl (Nat.le_of_ble_eq_true rfl) dX9_dusty_38 ⟨Nat.le_of_ble_eq_true rfl, Nat.le_of_ble_eq_true rfl⟩) hS (fun r9 u H locs hw hM hS => ?_)
        obtain ⟨rfl, xr9⟩ := hw
        have hM : Mem D A ad ns I L G H := hM
        have yr9 := bo01 xr9
        refine lv_if_ne (tgt := 46) hx hb dX9_dusty_41 (by decide) (fun c10 => ?_) (fun c10 => ?_)
        · have hc10 := c10
          have q10 := xr9.t hc10
          refine lv_aload_n hx hb dX9_dusty_46 rfl (lv_at hl 0 rfl) ?_
          refine m_getr (0) 0 (100) hx hb hts hown hE oc9 hM (hG.1 0 (by decide)) rfl (by decide) rfl (hG.2 (0, 0, 100) (by decide)) (by decide) tb_398 dX9_dusty_47 ?_
          refine lv_iload_n hx hb dX9_dusty_50 rfl (lv_at hl 2 rfl) ?_
          refine lv_bipush (v := (7)) hx hb dX9_dusty_51 (by decide) ?_
          refine m_calli (m_runV (100) (As := [.int (a1), .int (7)]) (rest := []) hx hb hml hown hts hE hM hS hA ce_X8_ofMirror tb_516 (V_X8_ofMirror_100_t l D A ad ns I L G (a1) (7) hG hI (by first | omega | decide) (by first | omega | decide)) rfl rfl ⟨Nat.le_of_ble_eq_true rfl, Nat.le_of_ble_eq_true rfl⟩ (hG.1 100 (by decide)) rfl rfl (by decide) rfl hl.1 rfl (Nat.le_of_ble_eq_true rfl) dX9_dusty_53 ⟨Nat.le_of_ble_eq_true rfl, Nat.le_of_ble_eq_true rfl⟩) hS (fun r11 u H locs hw hM hS => ?_)
          obtain ⟨rfl, xr11⟩ := hw
          have hM : Mem D A ad ns I L G H := hM
          have hof : r11 = cF 100 I 14 (a1).toNatClampNeg := xr11
          refine lv_istore (lv' := [(5, .int (r11)), (0, .ref (ad (0))), (1, .int (a0)), (2, .int (a1)), (3, .int (a2)), (4, .int (a3))]) hx hb dX9_dusty_56 hl (by decide) rfl (fun ls hl => ?_)
          refine lv_aload_n hx hb dX9_dusty_58 rfl (lv_at hl 1 rfl) ?_
          refine lv_iload_n hx hb dX9_dusty_59 rfl (lv_at hl 2 rfl) ?_
          refine lv_iload_n hx hb dX9_dusty_60 rfl (lv_at hl 3 rfl) ?_
          refine lv_iload_n hx hb dX9_dusty_61 rfl (lv_at hl 4 rfl) ?_
          refine lv_iload hx hb dX9_dusty_62 (lv_at hl 5 rfl) ?_
          refine m_calli (m_runV (0) (As := [.int (a0), .int (a1), .int (a2), .int (a3)]) (rest := []) hx hb hml hown hts hE hM hS hA ce_X9_leastDust tb_1126 (V_X9_leastDust_t l D A ad ns I L G (a0) (a1) (a2) (a3) hG hI (q2.2) (by first | omega | decide) (by first | omega | decide) (by first | omega | decide)) rfl rfl ⟨Nat.le_of_ble_eq_true rfl, Nat.le_of_ble_eq_true rfl⟩ (hG.1 0 (by decide)) rfl rfl (by decide) rfl hl.1 rfl (Nat.le_of_ble_eq_true rfl) dX9_dusty_64 ⟨Nat.le_of_ble_eq_true rfl, Nat.le_of_ble_eq_true rfl⟩) hS (fun r12 u H locs hw hM hS => ?_)
          obtain ⟨I13, L14, rfl, hI, hkI13, xr12⟩ := hw
          have hM : Mem D A ad ns I13 L14 G H := hM
          have hK := hK.trans hkI13 rfl
          refine lv_istore (lv' := [(6, .int (r12)), (5, .int (r11)), (0, .ref (ad (0))), (1, .int (a0)), (2, .int (a1)), (3, .int (a2)), (4, .int (a3))]) hx hb dX9_dusty_67 hl (by decide) rfl (fun ls hl => ?_)
          refine lv_aload_n hx hb dX9_dusty_69 rfl (lv_at hl 2 rfl) ?_
          refine m_getr (0) 0 (100) hx hb hts hown hE oc9 hM (hG.1 0 (by decide)) rfl (by decide) rfl (hG.2 (0, 0, 100) (by decide)) (by decide) tb_398 dX9_dusty_70 ?_
          refine lv_iload_n hx hb dX9_dusty_73 rfl (lv_at hl 4 rfl) ?_
          refine lv_bipush (v := (7)) hx hb dX9_dusty_74 (by decide) ?_
          refine lv_iload hx hb dX9_dusty_76 (lv_at hl 1 rfl) ?_
          refine m_callv (m_runV (100) (As := [.int (a1), .int (7), .int (r11)]) (rest := []) hx hb hml hown hts hE hM hS hA ce_X8_setMirror tb_503 (V_X8_setMirror_100_t l D A ad ns I13 L14 G (a1) (7) (r11) hG hI (by first | omega | decide) (by first | omega | decide)) rfl rfl ⟨Nat.le_of_ble_eq_true rfl, Nat.le_of_ble_eq_true rfl⟩ (hG.1 100 (by decide)) rfl rfl (by decide) rfl hl.1 rfl (Nat.le_of_ble_eq_true rfl) dX9_dusty_78 ⟨Nat.le_of_ble_eq_true rfl, Nat.le_of_ble_eq_true rfl⟩) hS (fun u H locs hw hM hS => ?_)
          obtain ⟨I15, L16, rfl, hI, hkI15, xI15⟩ := hw
          have hM : Mem D A ad ns I15 L16 G H := hM
          have hK := hK.trans hkI15 rfl
          refine lv_iload hx hb dX9_dusty_81 (lv_at hl 0 rfl) ?_
          exact m_iret hx hb hr hlocks hM hS (Nat.le_of_ble_eq_true rfl) (Nat.le_of_ble_eq_true rfl) ⟨_, _, rfl, hI, hK, (TRY1.fin xr12 xI15 hof)⟩ dX9_dusty_83
        · have hc10 := c10
          have q10 := xr9.f hc10
          refine lv_iconst (v := (-1)) hx hb dX9_dusty_44 (by decide) ?_
          exact m_iret hx hb hr hlocks hM hS (Nat.le_of_ble_eq_true rfl) (Nat.le_of_ble_eq_true rfl) ⟨_, _, rfl, hI, hK, EqV.rf⟩ dX9_dusty_45
