set_option maxHeartbeats 4000000 in
set_option maxRecDepth 20000 in
theorem V_X8_setRock_g (l : Launch) (D : va_G) (A : Nat → Prop) (ad : Nat → Nat) (ns : List Nat) (I : MI) (L : ML) (G : MG) (a0 : Int32) (a1 : Int32) (a2 : Int32) (a3 : Int32) (a4 : Int32) (hG : SGC ns G) (hI : INV I) (ha0 : 0 ≤ a0.toInt ∧ a0.toInt ≤ 23) (ha1 : 0 ≤ a1.toInt ∧ a1.toInt ≤ 23) (ha2 : 0 ≤ a2.toInt ∧ a2.toInt ≤ 23) (ha3 : 0 ≤ a3.toInt ∧ a3.toInt ≤ 23) : Met l yX8_setRock (wd yX8_setRock cX8_setRock 9 (some .int)) ({ frames := 1, cells := 0, slots := 0, locals := 21 }) (va_Pc [.ref (ad (100)), .int a0, .int a1, .int a2, .int a3, .int a4] (PM D A ad ns I L G)) (va_Qi (fun r u => ∃ I2 L2, u = (ad, ns, I2, L2, G) ∧ INV I2 ∧ Kp [(101, 102)] [] I I2 ∧ ((I2 101, r) = rkA (a4) (a0).toNatClampNeg (a2.toInt + 1 - a0.toInt).toNat (a3.toInt + 1 - a1.toInt).toNat (a1).toNatClampNeg (I 101, 0))) (BM D A) A) 0 0 A := by
  refine m_ofW (by decide) (Nat.le_of_ble_eq_true rfl) ?_
  intro p e s m below meth c ls args hC hE hM hA hS hl
  obtain ⟨hx, hb, hml, hown, hts, hr, hlocks, hin⟩ := hC
  have k0 : (0 : Int32).toInt = 0 := by decide
  have hK : Kp [(101, 102)] [] I I := Kp.rf
  have hl : lv_has ls 9 [(0, .ref (ad (100))), (1, .int (a0)), (2, .int (a1)), (3, .int (a2)), (4, .int (a3)), (5, .int (a4))] := hl
  refine lv_iconst (v := (0)) hx hb dX8_setRock_0 (by decide) ?_
  refine lv_istore (lv' := [(6, .int (0)), (0, .ref (ad (100))), (1, .int (a0)), (2, .int (a1)), (3, .int (a2)), (4, .int (a3)), (5, .int (a4))]) hx hb dX8_setRock_1 hl (by decide) rfl (fun ls hl => ?_)
  refine lv_iload_n hx hb dX8_setRock_3 rfl (lv_at hl 3 rfl) ?_
  refine lv_istore (lv' := [(7, .int (a1)), (6, .int (0)), (0, .ref (ad (100))), (1, .int (a0)), (2, .int (a1)), (3, .int (a2)), (4, .int (a3)), (5, .int (a4))]) hx hb dX8_setRock_4 hl (by decide) rfl (fun ls hl => ?_)
  have loop6 : ∀ (n : Nat) (x7_6 : Int32) (x6_6 : Int32) (Ia6 : MI) (La6 : ML) (H : Heap) (locs : List Loc) (ls : Array Slot), INV Ia6 → Kp [(101, 102)] [] I Ia6 → (0 ≤ x7_6.toInt ∧ x7_6.toInt ≤ 24) → (rkA (a4) (a0).toNatClampNeg (a2.toInt + 1 - a0.toInt).toNat (a3.toInt + 1 - (x7_6).toInt).toNat (x7_6).toNatClampNeg (Ia6 101, x6_6) = rkA (a4) (a0).toNatClampNeg (a2.toInt + 1 - a0.toInt).toNat (a3.toInt + 1 - a1.toInt).toNat (a1).toNatClampNeg (I 101, 0)) → (24 - x7_6.toInt).toNat < n → Mem D A ad ns Ia6 La6 G H → va_S A s.heap H locs → lv_has ls 9 [(7, .int (x7_6)), (6, .int (x6_6)), (0, .ref (ad (100))), (1, .int (a0)), (2, .int (a1)), (3, .int (a2)), (4, .int (a3)), (5, .int (a4))] → W p l e ({ frames := 1, cells := 0, slots := 0, locals := 21 } : Room) s m args below meth c H locs 0 0 (MQ below (va_Qi (fun r u => ∃ I2 L2, u = (ad, ns, I2, L2, G) ∧ INV I2 ∧ Kp [(101, 102)] [] I I2 ∧ ((I2 101, r) = rkA (a4) (a0).toNatClampNeg (a2.toInt + 1 - a0.toInt).toNat (a3.toInt + 1 - a1.toInt).toNat (a1).toNatClampNeg (I 101, 0))) (BM D A) A) args s 0 0 A) (F0 m 6 ls []) := by
    intro n
    induction n with
    | zero =>
      intro x7_6 x6_6 Ia6 La6 H locs ls hI hK hr7_6 hk6 hmu
      exact absurd hmu (Nat.not_lt_zero _)
    | succ n ih6 =>
      intro x7_6 x6_6 Ia6 La6 H locs ls hI hK hr7_6 hk6 hmu6 hM hS hl
      refine lv_iload hx hb dX8_setRock_6 (lv_at hl 0 rfl) ?_
      refine lv_iload hx hb dX8_setRock_8 (lv_at hl 6 rfl) ?_
      refine lv_icmp_gt (tgt := 68) hx hb dX8_setRock_10 (by decide) (fun c1 => ?_) (fun c1 => ?_)
      · have hc1 := c1
        have q1 := q_lt hc1
        refine lv_iload hx hb dX8_setRock_68 (lv_at hl 1 rfl) ?_
        exact m_iret hx hb hr hlocks hM hS (Nat.le_of_ble_eq_true rfl) (Nat.le_of_ble_eq_true rfl) ⟨_, _, rfl, hI, hK, (by have hh := hk6; rw [rkA_end (by omega)] at hh; exact hh)⟩ dX8_setRock_70
      · have hc1 := c1
        have q1 := q_nlt hc1
        refine lv_iload_n hx hb dX8_setRock_13 rfl (lv_at hl 3 rfl) ?_
        refine lv_istore (lv' := [(8, .int (a0)), (7, .int (x7_6)), (6, .int (x6_6)), (0, .ref (ad (100))), (1, .int (a0)), (2, .int (a1)), (3, .int (a2)), (4, .int (a3)), (5, .int (a4))]) hx hb dX8_setRock_14 hl (by decide) rfl (fun ls hl => ?_)
        have loop16 : ∀ (n : Nat) (x8_16 : Int32) (x6_16 : Int32) (Ia16 : MI) (La16 : ML) (H : Heap) (locs : List Loc) (ls : Array Slot), INV Ia16 → Kp [(101, 102)] [] I Ia16 → (0 ≤ x8_16.toInt ∧ x8_16.toInt ≤ 24) → (rkA (a4) (a0).toNatClampNeg (a2.toInt + 1 - a0.toInt).toNat (a3.toInt - ((x7_6)).toInt).toNat (((x7_6)).toNatClampNeg + 1) (rkR (a4) ((x7_6)).toNatClampNeg (a2.toInt + 1 - (x8_16).toInt).toNat (x8_16).toNatClampNeg (Ia16 101, x6_16)) = rkA (a4) (a0).toNatClampNeg (a2.toInt + 1 - a0.toInt).toNat (a3.toInt + 1 - a1.toInt).toNat (a1).toNatClampNeg (I 101, 0)) → (24 - x8_16.toInt).toNat < n → Mem D A ad ns Ia16 La16 G H → va_S A s.heap H locs → lv_has ls 9 [(8, .int (x8_16)), (7, .int (x7_6)), (6, .int (x6_16)), (0, .ref (ad (100))), (1, .int (a0)), (2, .int (a1)), (3, .int (a2)), (4, .int (a3)), (5, .int (a4))] → W p l e ({ frames := 1, cells := 0, slots := 0, locals := 21 } : Room) s m args below meth c H locs 0 0 (MQ below (va_Qi (fun r u => ∃ I2 L2, u = (ad, ns, I2, L2, G) ∧ INV I2 ∧ Kp [(101, 102)] [] I I2 ∧ ((I2 101, r) = rkA (a4) (a0).toNatClampNeg (a2.toInt + 1 - a0.toInt).toNat (a3.toInt + 1 - a1.toInt).toNat (a1).toNatClampNeg (I 101, 0))) (BM D A) A) args s 0 0 A) (F0 m 16 ls []) := by
          intro n
          induction n with
          | zero =>
            intro x8_16 x6_16 Ia16 La16 H locs ls hI hK hr8_16 hk8 hmu
            exact absurd hmu (Nat.not_lt_zero _)
          | succ n ih16 =>
            intro x8_16 x6_16 Ia16 La16 H locs ls hI hK hr8_16 hk8 hmu16 hM hS hl
            refine lv_iload hx hb dX8_setRock_16 (lv_at hl 0 rfl) ?_
            refine lv_iload_n hx hb dX8_setRock_18 rfl (lv_at hl 6 rfl) ?_
            refine lv_icmp_gt (tgt := 62) hx hb dX8_setRock_19 (by decide) (fun c2 => ?_) (fun c2 => ?_)
            · have hc2 := c2
              have q2 := q_lt hc2
              obtain ⟨v3, ev3⟩ : ∃ z : Int32, z = x7_6 + Int32.ofInt (1) := ⟨_, rfl⟩
              have tv3 := a_inc ev3 (by decide) (by omega) (by omega)
              refine lv_iinc (v := v3) (lv' := [(7, .int (v3)), (8, .int (x8_16)), (6, .int (x6_16)), (0, .ref (ad (100))), (1, .int (a0)), (2, .int (a1)), (3, .int (a2)), (4, .int (a3)), (5, .int (a4))]) hx hb dX8_setRock_62 hl (k := 1) rfl ev3.symm (by decide) rfl (fun ls hl => ?_)
              refine lv_goto (tgt := 6) hx hb dX8_setRock_65 (by decide) ?_
              exact ih6 (v3) (x6_16) Ia16 La16 _ _ ls hI hK (by first | omega | decide) (by have hh := hk8; rw [rkR_end (by omega)] at hh; rw [show (a3.toInt + 1 - (v3).toInt).toNat = (a3.toInt - (x7_6).toInt).toNat from by omega, show (v3).toNatClampNeg = (x7_6).toNatClampNeg + 1 from by have z1 := tn (i := v3) (by omega); have z2 := tn (i := x7_6) (by omega); omega]; exact hh) (by omega) hM hS (lv_sub hl [0, 2, 3, 4, 5, 6, 7, 8] rfl)
            · have hc2 := c2
              have q2 := q_nlt hc2
              refine lv_aload_n hx hb dX8_setRock_22 rfl (lv_at hl 3 rfl) ?_
              refine m_getr (100) 10 (101) hx hb hts hown hE oc8 hM (hG.1 100 (by decide)) rfl (by decide) rfl (hG.2 (100, 10, 101) (by decide)) (by decide) tb_66 dX8_setRock_23 ?_
              refine lv_iload hx hb dX8_setRock_26 (lv_at hl 0 rfl) ?_
              refine lv_iload hx hb dX8_setRock_28 (lv_at hl 1 rfl) ?_
              refine m_calli (m_runSN (As := [.int (x8_16), .int (x7_6)]) (rest := [.ref (ad (101))]) hx hb hml hown hts hE hM hS hA ce_X9_cellOf (List.mem_of_getElem? (i := 5) rfl) (V_X9_cellOf l D A ad ns Ia16 La16 G (x8_16) (x7_6) hI (by first | omega | decide) (by first | omega | decide)) rfl rfl ⟨Nat.le_of_ble_eq_true rfl, Nat.le_of_ble_eq_true rfl⟩  rfl hl.1 rfl (Nat.le_of_ble_eq_true rfl) dX8_setRock_30 ⟨Nat.le_of_ble_eq_true rfl, Nat.le_of_ble_eq_true rfl⟩) hS (fun r4 u H locs hw hM hS => ?_)
              obtain ⟨rfl, xr4⟩ := hw
              have hM : Mem D A ad ns Ia16 La16 G H := hM
              refine m_iald (101) hx hb hE hM (hG.1 101 (by decide)) rfl (vp_in_iff.mpr (by omega)) dX8_setRock_33 ?_
              refine lv_iload hx hb dX8_setRock_34 (lv_at hl 8 rfl) ?_
              refine lv_icmp_eq (tgt := 56) hx hb dX8_setRock_36 (by decide) (fun c5 => ?_) (fun c5 => ?_)
              · have hc5 := c5
                have q5 := q_eq hc5
                obtain ⟨v6, ev6⟩ : ∃ z : Int32, z = x8_16 + Int32.ofInt (1) := ⟨_, rfl⟩
                have tv6 := a_inc ev6 (by decide) (by omega) (by omega)
                refine lv_iinc (v := v6) (lv' := [(8, .int (v6)), (7, .int (x7_6)), (6, .int (x6_16)), (0, .ref (ad (100))), (1, .int (a0)), (2, .int (a1)), (3, .int (a2)), (4, .int (a3)), (5, .int (a4))]) hx hb dX8_setRock_56 hl (k := 0) rfl ev6.symm (by decide) rfl (fun ls hl => ?_)
                refine lv_goto (tgt := 16) hx hb dX8_setRock_59 (by decide) ?_
                have ec7 : (r4).toNatClampNeg = 24 * (x7_6).toNatClampNeg + (x8_16).toNatClampNeg := by have z1 := tn (i := r4) (by omega); have z2 := tn (i := x7_6) (by omega); have z3 := tn (i := x8_16) (by omega); omega
                exact ih16 (v6) (x6_16) Ia16 La16 _ _ ls hI hK (by first | omega | decide) (rk_eq (T1 := 0) hk8 (by omega) (by omega) (by omega) (by rw [← ec7]; exact c5)) (by omega) hM hS (lv_sub hl [0, 1, 2, 3, 4, 5, 6, 7, 8] rfl)
              · have hc5 := c5
                have q5 := q_ne hc5
                refine lv_aload_n hx hb dX8_setRock_39 rfl (lv_at hl 3 rfl) ?_
                refine m_getr (100) 10 (101) hx hb hts hown hE oc8 hM (hG.1 100 (by decide)) rfl (by decide) rfl (hG.2 (100, 10, 101) (by decide)) (by decide) tb_66 dX8_setRock_40 ?_
                refine lv_iload hx hb dX8_setRock_43 (lv_at hl 0 rfl) ?_
                refine lv_iload hx hb dX8_setRock_45 (lv_at hl 1 rfl) ?_
                refine m_calli (m_runSN (As := [.int (x8_16), .int (x7_6)]) (rest := [.ref (ad (101))]) hx hb hml hown hts hE hM hS hA ce_X9_cellOf (List.mem_of_getElem? (i := 5) rfl) (V_X9_cellOf l D A ad ns Ia16 La16 G (x8_16) (x7_6) hI (by first | omega | decide) (by first | omega | decide)) rfl rfl ⟨Nat.le_of_ble_eq_true rfl, Nat.le_of_ble_eq_true rfl⟩  rfl hl.1 rfl (Nat.le_of_ble_eq_true rfl) dX8_setRock_47 ⟨Nat.le_of_ble_eq_true rfl, Nat.le_of_ble_eq_true rfl⟩) hS (fun r8 u H locs hw hM hS => ?_)
                obtain ⟨rfl, xr8⟩ := hw
                have hM : Mem D A ad ns Ia16 La16 G H := hM
                refine lv_iload hx hb dX8_setRock_50 (lv_at hl 8 rfl) ?_
                refine m_iast (101) hx hb hE hM hS (hG.1 101 (by decide)) rfl (vp_in_iff.mpr (by omega)) dX8_setRock_52 (fun H locs I9 eI9 hM hS => ?_)
                subst eI9
                have hI := hI.putF (n := 101) (k := ((r8).toNatClampNeg)) (v := a4) rfl
                have hK := hK.put (n := 101) (k := ((r8).toNatClampNeg)) (v := a4) (by first | rfl | simp [inR])
                obtain ⟨v10, ev10⟩ : ∃ z : Int32, z = x6_16 + Int32.ofInt (1) := ⟨_, rfl⟩
                refine lv_iinc (v := v10) (lv' := [(6, .int (v10)), (8, .int (x8_16)), (7, .int (x7_6)), (0, .ref (ad (100))), (1, .int (a0)), (2, .int (a1)), (3, .int (a2)), (4, .int (a3)), (5, .int (a4))]) hx hb dX8_setRock_53 hl (k := 2) rfl ev10.symm (by decide) rfl (fun ls hl => ?_)
                obtain ⟨v11, ev11⟩ : ∃ z : Int32, z = x8_16 + Int32.ofInt (1) := ⟨_, rfl⟩
                have tv11 := a_inc ev11 (by decide) (by omega) (by omega)
                refine lv_iinc (v := v11) (lv' := [(8, .int (v11)), (6, .int (v10)), (7, .int (x7_6)), (0, .ref (ad (100))), (1, .int (a0)), (2, .int (a1)), (3, .int (a2)), (4, .int (a3)), (5, .int (a4))]) hx hb dX8_setRock_56 hl (k := 1) rfl ev11.symm (by decide) rfl (fun ls hl => ?_)
                refine lv_goto (tgt := 16) hx hb dX8_setRock_59 (by decide) ?_
                have ec12 : (r4).toNatClampNeg = 24 * (x7_6).toNatClampNeg + (x8_16).toNatClampNeg := by have z1 := tn (i := r4) (by omega); have z2 := tn (i := x7_6) (by omega); have z3 := tn (i := x8_16) (by omega); omega
                have ec13 : (r8).toNatClampNeg = 24 * (x7_6).toNatClampNeg + (x8_16).toNatClampNeg := by have z1 := tn (i := r8) (by omega); have z2 := tn (i := x7_6) (by omega); have z3 := tn (i := x8_16) (by omega); omega
                exact ih16 (v11) (v10) (u2 Ia16 (101) ((r8).toNatClampNeg) (a4)) La16 _ _ ls hI hK (by first | omega | decide) (rk_ne hk8 (by omega) (by omega) (by omega) (by rw [← ec12]; exact c5) (u2_rk ec13) (by rw [ev10]; rfl)) (by omega) hM hS (lv_sub hl [0, 2, 1, 3, 4, 5, 6, 7, 8] rfl)
        exact loop16 (_ + 1) (a0) (x6_6) Ia6 La6 _ _ ls hI hK (by first | omega | decide) ((rkA_row (by omega) (by omega)).symm.trans hk6) (Nat.lt_succ_self _) hM hS (lv_sub hl [0, 1, 2, 3, 4, 5, 6, 7, 8] rfl)
  exact loop6 (_ + 1) (a1) (0) I L _ _ ls hI hK (by first | omega | decide) rfl (Nat.lt_succ_self _) hM hS (lv_sub hl [0, 1, 2, 3, 4, 5, 6, 7] rfl)
set_option maxHeartbeats 4000000 in
set_option maxRecDepth 20000 in
theorem V_X9_rock_g (l : Launch) (D : va_G) (A : Nat → Prop) (ad : Nat → Nat) (ns : List Nat) (I : MI) (L : ML) (G : MG) (a0 : Int32) (a1 : Int32) (a2 : Int32) (a3 : Int32) (a4 : Int32) (hG : SGC ns G) (hI : INV I) (ha4 : 0 ≤ a4.toInt ∧ a4.toInt ≤ 1) : Met l yX9_rock (wd yX9_rock cX9_rock 6 (some .int)) ({ frames := 2, cells := 0, slots := 0, locals := 49 }) (va_Pc [.ref (ad (0)), .int a0, .int a1, .int a2, .int a3, .int a4] (PM D A ad ns I L G)) (va_Qi (fun r u => ∃ I2 L2, u = (ad, ns, I2, L2, G) ∧ INV I2 ∧ Kp [(101, 102)] [] I I2 ∧ (RKX ((0 ≤ a0.toInt ∧ a0.toInt < (I 100 0).toInt ∧ 0 ≤ a1.toInt ∧ a1.toInt < (I 100 1).toInt) ∧ (0 ≤ a2.toInt ∧ a2.toInt < (I 100 0).toInt ∧ 0 ≤ a3.toInt ∧ a3.toInt < (I 100 1).toInt) ∧ a0.toInt ≤ a2.toInt ∧ a1.toInt ≤ a3.toInt) r I I2 101 a0 a1 a2 a3 (bv a4))) (BM D A) A) 0 0 A := by
  refine m_ofW (by decide) (Nat.le_of_ble_eq_true rfl) ?_
  intro p e s m below meth c ls args hC hE hM hA hS hl
  obtain ⟨hx, hb, hml, hown, hts, hr, hlocks, hin⟩ := hC
  have km1 : (-1 : Int32).toInt = -1 := by decide
  have k0 : (0 : Int32).toInt = 0 := by decide
  have k1 : (1 : Int32).toInt = 1 := by decide
  have hK : Kp [(101, 102)] [] I I := Kp.rf
  have hl : lv_has ls 6 [(0, .ref (ad (0))), (1, .int (a0)), (2, .int (a1)), (3, .int (a2)), (4, .int (a3)), (5, .int (a4))] := hl
  refine lv_aload_n hx hb dX9_rock_0 rfl (lv_at hl 0 rfl) ?_
  refine m_getr (0) 0 (100) hx hb hts hown hE oc9 hM (hG.1 0 (by decide)) rfl (by decide) rfl (hG.2 (0, 0, 100) (by decide)) (by decide) tb_398 dX9_rock_1 ?_
  refine lv_iload_n hx hb dX9_rock_4 rfl (lv_at hl 1 rfl) ?_
  refine lv_iload_n hx hb dX9_rock_5 rfl (lv_at hl 2 rfl) ?_
  refine lv_iload_n hx hb dX9_rock_6 rfl (lv_at hl 3 rfl) ?_
  refine lv_iload hx hb dX9_rock_7 (lv_at hl 4 rfl) ?_
  refine m_calli (m_runV (100) (As := [.int (a0), .int (a1), .int (a2), .int (a3)]) (rest := []) hx hb hml hown hts hE hM hS hA ce_X8_hasRectangle tb_465 (V_X8_hasRectangle_100 l D A ad ns I L G (a0) (a1) (a2) (a3) hG hI) rfl rfl ⟨Nat.le_of_ble_eq_true rfl, Nat.le_of_ble_eq_true rfl⟩ (hG.1 100 (by decide)) rfl rfl (by decide) rfl hl.1 rfl (Nat.le_of_ble_eq_true rfl) dX9_rock_9 ⟨Nat.le_of_ble_eq_true rfl, Nat.le_of_ble_eq_true rfl⟩) hS (fun r1 u H locs hw hM hS => ?_)
  obtain ⟨rfl, xr1⟩ := hw
  have hM : Mem D A ad ns I L G H := hM
  have yr1 := bo01 xr1
  have g2 := hI.get 100 0 (lo := 0) (hi := 24) rfl
  have g3 := hI.get 100 1 (lo := 0) (hi := 24) rfl
  refine lv_if_ne (tgt := 17) hx hb dX9_rock_12 (by decide) (fun c4 => ?_) (fun c4 => ?_)
  · have hc4 := c4
    have q4 := xr1.t hc4
    refine lv_aload_n hx hb dX9_rock_17 rfl (lv_at hl 0 rfl) ?_
    refine m_getr (0) 0 (100) hx hb hts hown hE oc9 hM (hG.1 0 (by decide)) rfl (by decide) rfl (hG.2 (0, 0, 100) (by decide)) (by decide) tb_398 dX9_rock_18 ?_
    refine lv_iload_n hx hb dX9_rock_21 rfl (lv_at hl 1 rfl) ?_
    refine lv_iload_n hx hb dX9_rock_22 rfl (lv_at hl 2 rfl) ?_
    refine lv_iload_n hx hb dX9_rock_23 rfl (lv_at hl 3 rfl) ?_
    refine lv_iload hx hb dX9_rock_24 (lv_at hl 4 rfl) ?_
    refine lv_iload hx hb dX9_rock_26 (lv_at hl 5 rfl) ?_
    refine lv_if_eq (tgt := 35) hx hb dX9_rock_28 (by decide) (fun c5 => ?_) (fun c5 => ?_)
    · have hc5 := c5
      have q5 := q_eq hc5
      refine lv_iconst (v := (0)) hx hb dX9_rock_35 (by decide) ?_
      refine m_calli (m_runV (100) (As := [.int (a0), .int (a1), .int (a2), .int (a3), .int (0)]) (rest := []) hx hb hml hown hts hE hM hS hA ce_X8_setRock tb_473 (V_X8_setRock_g l D A ad ns I L G (a0) (a1) (a2) (a3) (0) hG hI (by first | omega | decide) (by first | omega | decide) (by first | omega | decide) (by first | omega | decide)) rfl rfl ⟨Nat.le_of_ble_eq_true rfl, Nat.le_of_ble_eq_true rfl⟩ (hG.1 100 (by decide)) rfl rfl (by decide) rfl hl.1 rfl (Nat.le_of_ble_eq_true rfl) dX9_rock_36 ⟨Nat.le_of_ble_eq_true rfl, Nat.le_of_ble_eq_true rfl⟩) hS (fun r6 u H locs hw hM hS => ?_)
      obtain ⟨I7, L8, rfl, hI, hkI7, xr6⟩ := hw
      have hM : Mem D A ad ns I7 L8 G H := hM
      have hK := hK.trans hkI7 rfl
      exact m_iret hx hb hr hlocks hM hS (Nat.le_of_ble_eq_true rfl) (Nat.le_of_ble_eq_true rfl) ⟨_, _, rfl, hI, hK, (Or.inl ⟨by omega, by rw [show bv a4 = 0 from if_pos c5]; exact xr6⟩)⟩ dX9_rock_39
    · have hc5 := c5
      have q5 := q_ne hc5
      refine lv_iconst (v := (1)) hx hb dX9_rock_31 (by decide) ?_
      refine lv_goto (tgt := 36) hx hb dX9_rock_32 (by decide) ?_
      refine m_calli (m_runV (100) (As := [.int (a0), .int (a1), .int (a2), .int (a3), .int (1)]) (rest := []) hx hb hml hown hts hE hM hS hA ce_X8_setRock tb_473 (V_X8_setRock_g l D A ad ns I L G (a0) (a1) (a2) (a3) (1) hG hI (by first | omega | decide) (by first | omega | decide) (by first | omega | decide) (by first | omega | decide)) rfl rfl ⟨Nat.le_of_ble_eq_true rfl, Nat.le_of_ble_eq_true rfl⟩ (hG.1 100 (by decide)) rfl rfl (by decide) rfl hl.1 rfl (Nat.le_of_ble_eq_true rfl) dX9_rock_36 ⟨Nat.le_of_ble_eq_true rfl, Nat.le_of_ble_eq_true rfl⟩) hS (fun r9 u H locs hw hM hS => ?_)
      obtain ⟨I10, L11, rfl, hI, hkI10, xr9⟩ := hw
      have hM : Mem D A ad ns I10 L11 G H := hM
      have hK := hK.trans hkI10 rfl
      exact m_iret hx hb hr hlocks hM hS (Nat.le_of_ble_eq_true rfl) (Nat.le_of_ble_eq_true rfl) ⟨_, _, rfl, hI, hK, (Or.inl ⟨by omega, by rw [show bv a4 = 1 from if_neg c5]; exact xr9⟩)⟩ dX9_rock_39
  · have hc4 := c4
    have q4 := xr1.f hc4
    refine lv_iconst (v := (-1)) hx hb dX9_rock_15 (by decide) ?_
    exact m_iret hx hb hr hlocks hM hS (Nat.le_of_ble_eq_true rfl) (Nat.le_of_ble_eq_true rfl) ⟨_, _, rfl, hI, hK, (Or.inr ⟨by omega, rfl, rfl⟩)⟩ dX9_rock_16
set_option maxHeartbeats 4000000 in
set_option maxRecDepth 20000 in
theorem V_X10_rock_g (l : Launch) (D : va_G) (A : Nat → Prop) (ad : Nat → Nat) (ns : List Nat) (I : MI) (L : ML) (G : MG) (a0 : Int32) (a1 : Int32) (a2 : Int32) (a3 : Int32) (a4 : Int32) (hJ : SGM ns G) (hI : INV I) (ha4 : 0 ≤ a4.toInt ∧ a4.toInt ≤ 1) : Met l yX10_rock (wd yX10_rock cX10_rock 9 (some .int)) ({ frames := 3, cells := 0, slots := 0, locals := 71 }) (va_Pc [.ref (ad (1000)), .int a0, .int a1, .int a2, .int a3, .int a4] (PM D A ad ns I L G)) (va_Qi (fun r u => ∃ I2 L2, u = (ad, ns, I2, L2, G) ∧ INV I2 ∧ Kp [(1002, 1003)] [] I I2 ∧ (RKX ((I 1001 0).toInt = 1 ∧ (0 ≤ a0.toInt ∧ a0.toInt < (I 1001 1).toInt ∧ 0 ≤ a1.toInt ∧ a1.toInt < (I 1001 2).toInt) ∧ (0 ≤ a2.toInt ∧ a2.toInt < (I 1001 1).toInt ∧ 0 ≤ a3.toInt ∧ a3.toInt < (I 1001 2).toInt) ∧ a0.toInt ≤ a2.toInt ∧ a1.toInt ≤ a3.toInt) r I I2 1002 a0 a1 a2 a3 (bv a4))) (BM D A) A) 0 0 A := by
  refine m_ofW (by decide) (Nat.le_of_ble_eq_true rfl) ?_
  intro p e s m below meth c ls args hC hE hM hA hS hl
  obtain ⟨hx, hb, hml, hown, hts, hr, hlocks, hin⟩ := hC
  have km1 : (-1 : Int32).toInt = -1 := by decide
  have k0 : (0 : Int32).toInt = 0 := by decide
  have k1 : (1 : Int32).toInt = 1 := by decide
  have k24 : (24 : Int32).toInt = 24 := by decide
  have hK : Kp [(1002, 1003)] [] I I := Kp.rf
  have hl : lv_has ls 9 [(0, .ref (ad (1000))), (1, .int (a0)), (2, .int (a1)), (3, .int (a2)), (4, .int (a3)), (5, .int (a4))] := hl
  refine lv_aload_n hx hb dX10_rock_0 rfl (lv_at hl 0 rfl) ?_
  refine lv_iload_n hx hb dX10_rock_1 rfl (lv_at hl 1 rfl) ?_
  refine lv_iload_n hx hb dX10_rock_2 rfl (lv_at hl 2 rfl) ?_
  refine lv_iload_n hx hb dX10_rock_3 rfl (lv_at hl 3 rfl) ?_
  refine lv_iload hx hb dX10_rock_4 (lv_at hl 4 rfl) ?_
  refine m_calli (m_runV (1000) (As := [.int (a0), .int (a1), .int (a2), .int (a3)]) (rest := []) hx hb hml hown hts hE hM hS hA ce_X10_isArea tb_1433 (V_X10_isArea l D A ad ns I L G (a0) (a1) (a2) (a3) hJ hI) rfl rfl ⟨Nat.le_of_ble_eq_true rfl, Nat.le_of_ble_eq_true rfl⟩ hJ.1 rfl rfl (by decide) rfl hl.1 rfl (Nat.le_of_ble_eq_true rfl) dX10_rock_6 ⟨Nat.le_of_ble_eq_true rfl, Nat.le_of_ble_eq_true rfl⟩) hS (fun r1 u H locs hw hM hS => ?_)
  obtain ⟨rfl, xr1⟩ := hw
  have hM : Mem D A ad ns I L G H := hM
  have yr1 := bo01 xr1
  have g2 := hI.get 1001 1 (lo := 0) (hi := 24) rfl
  have g3 := hI.get 1001 2 (lo := 0) (hi := 24) rfl
  refine lv_if_ne (tgt := 14) hx hb dX10_rock_9 (by decide) (fun c4 => ?_) (fun c4 => ?_)
  · have hc4 := c4
    have q4 := xr1.t hc4
    refine lv_iconst (v := (0)) hx hb dX10_rock_14 (by decide) ?_
    refine lv_istore (lv' := [(6, .int (0)), (0, .ref (ad (1000))), (1, .int (a0)), (2, .int (a1)), (3, .int (a2)), (4, .int (a3)), (5, .int (a4))]) hx hb dX10_rock_15 hl (by decide) rfl (fun ls hl => ?_)
    refine lv_iload_n hx hb dX10_rock_17 rfl (lv_at hl 3 rfl) ?_
    refine lv_istore (lv' := [(7, .int (a1)), (6, .int (0)), (0, .ref (ad (1000))), (1, .int (a0)), (2, .int (a1)), (3, .int (a2)), (4, .int (a3)), (5, .int (a4))]) hx hb dX10_rock_18 hl (by decide) rfl (fun ls hl => ?_)
    have loop20 : ∀ (n : Nat) (x7_20 : Int32) (x6_20 : Int32) (Ia20 : MI) (La20 : ML) (H : Heap) (locs : List Loc) (ls : Array Slot), INV Ia20 → Kp [(1002, 1003)] [] I Ia20 → (0 ≤ x7_20.toInt ∧ x7_20.toInt ≤ 24) → (rkA (bv a4) (a0).toNatClampNeg (a2.toInt + 1 - a0.toInt).toNat (a3.toInt + 1 - (x7_20).toInt).toNat (x7_20).toNatClampNeg (Ia20 1002, x6_20) = rkA (bv a4) (a0).toNatClampNeg (a2.toInt + 1 - a0.toInt).toNat (a3.toInt + 1 - a1.toInt).toNat (a1).toNatClampNeg (I 1002, 0)) → (24 - x7_20.toInt).toNat < n → Mem D A ad ns Ia20 La20 G H → va_S A s.heap H locs → lv_has ls 9 [(7, .int (x7_20)), (6, .int (x6_20)), (0, .ref (ad (1000))), (1, .int (a0)), (2, .int (a1)), (3, .int (a2)), (4, .int (a3)), (5, .int (a4))] → W p l e ({ frames := 3, cells := 0, slots := 0, locals := 71 } : Room) s m args below meth c H locs 0 0 (MQ below (va_Qi (fun r u => ∃ I2 L2, u = (ad, ns, I2, L2, G) ∧ INV I2 ∧ Kp [(1002, 1003)] [] I I2 ∧ (RKX ((I 1001 0).toInt = 1 ∧ (0 ≤ a0.toInt ∧ a0.toInt < (I 1001 1).toInt ∧ 0 ≤ a1.toInt ∧ a1.toInt < (I 1001 2).toInt) ∧ (0 ≤ a2.toInt ∧ a2.toInt < (I 1001 1).toInt ∧ 0 ≤ a3.toInt ∧ a3.toInt < (I 1001 2).toInt) ∧ a0.toInt ≤ a2.toInt ∧ a1.toInt ≤ a3.toInt) r I I2 1002 a0 a1 a2 a3 (bv a4))) (BM D A) A) args s 0 0 A) (F0 m 20 ls []) := by
      intro n
      induction n with
      | zero =>
        intro x7_20 x6_20 Ia20 La20 H locs ls hI hK hr7_20 hk6 hmu
        exact absurd hmu (Nat.not_lt_zero _)
      | succ n ih20 =>
        intro x7_20 x6_20 Ia20 La20 H locs ls hI hK hr7_20 hk6 hmu20 hM hS hl
        refine lv_iload hx hb dX10_rock_20 (lv_at hl 0 rfl) ?_
        refine lv_iload hx hb dX10_rock_22 (lv_at hl 6 rfl) ?_
        refine lv_icmp_gt (tgt := 107) hx hb dX10_rock_24 (by decide) (fun c5 => ?_) (fun c5 => ?_)
        · have hc5 := c5
          have q5 := q_lt hc5
          refine lv_iload hx hb dX10_rock_107 (lv_at hl 1 rfl) ?_
          exact m_iret hx hb hr hlocks hM hS (Nat.le_of_ble_eq_true rfl) (Nat.le_of_ble_eq_true rfl) ⟨_, _, rfl, hI, hK, (Or.inl ⟨by omega, by have hh := hk6; rw [rkA_end (by omega)] at hh; exact hh⟩)⟩ dX10_rock_109
        · have hc5 := c5
          have q5 := q_nlt hc5
          refine lv_iload_n hx hb dX10_rock_27 rfl (lv_at hl 3 rfl) ?_
          refine lv_istore (lv' := [(8, .int (a0)), (7, .int (x7_20)), (6, .int (x6_20)), (0, .ref (ad (1000))), (1, .int (a0)), (2, .int (a1)), (3, .int (a2)), (4, .int (a3)), (5, .int (a4))]) hx hb dX10_rock_28 hl (by decide) rfl (fun ls hl => ?_)
          have loop30 : ∀ (n : Nat) (x8_30 : Int32) (x6_30 : Int32) (Ia30 : MI) (La30 : ML) (H : Heap) (locs : List Loc) (ls : Array Slot), INV Ia30 → Kp [(1002, 1003)] [] I Ia30 → (0 ≤ x8_30.toInt ∧ x8_30.toInt ≤ 24) → (rkA (bv a4) (a0).toNatClampNeg (a2.toInt + 1 - a0.toInt).toNat (a3.toInt - ((x7_20)).toInt).toNat (((x7_20)).toNatClampNeg + 1) (rkR (bv a4) ((x7_20)).toNatClampNeg (a2.toInt + 1 - (x8_30).toInt).toNat (x8_30).toNatClampNeg (Ia30 1002, x6_30)) = rkA (bv a4) (a0).toNatClampNeg (a2.toInt + 1 - a0.toInt).toNat (a3.toInt + 1 - a1.toInt).toNat (a1).toNatClampNeg (I 1002, 0)) → (24 - x8_30.toInt).toNat < n → Mem D A ad ns Ia30 La30 G H → va_S A s.heap H locs → lv_has ls 9 [(8, .int (x8_30)), (7, .int (x7_20)), (6, .int (x6_30)), (0, .ref (ad (1000))), (1, .int (a0)), (2, .int (a1)), (3, .int (a2)), (4, .int (a3)), (5, .int (a4))] → W p l e ({ frames := 3, cells := 0, slots := 0, locals := 71 } : Room) s m args below meth c H locs 0 0 (MQ below (va_Qi (fun r u => ∃ I2 L2, u = (ad, ns, I2, L2, G) ∧ INV I2 ∧ Kp [(1002, 1003)] [] I I2 ∧ (RKX ((I 1001 0).toInt = 1 ∧ (0 ≤ a0.toInt ∧ a0.toInt < (I 1001 1).toInt ∧ 0 ≤ a1.toInt ∧ a1.toInt < (I 1001 2).toInt) ∧ (0 ≤ a2.toInt ∧ a2.toInt < (I 1001 1).toInt ∧ 0 ≤ a3.toInt ∧ a3.toInt < (I 1001 2).toInt) ∧ a0.toInt ≤ a2.toInt ∧ a1.toInt ≤ a3.toInt) r I I2 1002 a0 a1 a2 a3 (bv a4))) (BM D A) A) args s 0 0 A) (F0 m 30 ls []) := by
            intro n
            induction n with
            | zero =>
              intro x8_30 x6_30 Ia30 La30 H locs ls hI hK hr8_30 hk8 hmu
              exact absurd hmu (Nat.not_lt_zero _)
            | succ n ih30 =>
              intro x8_30 x6_30 Ia30 La30 H locs ls hI hK hr8_30 hk8 hmu30 hM hS hl
              refine lv_iload hx hb dX10_rock_30 (lv_at hl 0 rfl) ?_
              refine lv_iload_n hx hb dX10_rock_32 rfl (lv_at hl 6 rfl) ?_
              refine lv_icmp_gt (tgt := 101) hx hb dX10_rock_33 (by decide) (fun c6 => ?_) (fun c6 => ?_)
              · have hc6 := c6
                have q6 := q_lt hc6
                obtain ⟨v7, ev7⟩ : ∃ z : Int32, z = x7_20 + Int32.ofInt (1) := ⟨_, rfl⟩
                have tv7 := a_inc ev7 (by decide) (by omega) (by omega)
                refine lv_iinc (v := v7) (lv' := [(7, .int (v7)), (8, .int (x8_30)), (6, .int (x6_30)), (0, .ref (ad (1000))), (1, .int (a0)), (2, .int (a1)), (3, .int (a2)), (4, .int (a3)), (5, .int (a4))]) hx hb dX10_rock_101 hl (k := 1) rfl ev7.symm (by decide) rfl (fun ls hl => ?_)
                refine lv_goto (tgt := 20) hx hb dX10_rock_104 (by decide) ?_
                exact ih20 (v7) (x6_30) Ia30 La30 _ _ ls hI hK (by first | omega | decide) (by have hh := hk8; rw [rkR_end (by omega)] at hh; rw [show (a3.toInt + 1 - (v7).toInt).toNat = (a3.toInt - (x7_20).toInt).toNat from by omega, show (v7).toNatClampNeg = (x7_20).toNatClampNeg + 1 from by have z1 := tn (i := v7) (by omega); have z2 := tn (i := x7_20) (by omega); omega]; exact hh) (by omega) hM hS (lv_sub hl [0, 2, 3, 4, 5, 6, 7, 8] rfl)
              · have hc6 := c6
                have q6 := q_nlt hc6
                refine lv_iload hx hb dX10_rock_36 (lv_at hl 2 rfl) ?_
                refine lv_aload_n hx hb dX10_rock_38 rfl (lv_at hl 3 rfl) ?_
                refine m_getr (1000) 2 (1002) hx hb hts hown hE oc10 hM hJ.1 rfl (by decide) rfl (hJ.2 2 (by decide)).2 (by decide) tb_1179 dX10_rock_39 ?_
                refine lv_bipush (v := (24)) hx hb dX10_rock_42 (by decide) ?_
                refine lv_iload hx hb dX10_rock_44 (lv_at hl 1 rfl) ?_
                refine lv_imul hx hb dX10_rock_46 ?_
                refine lv_topi (fun v8 ev8 => ?_)
                have tv8 := a_mulL (c := 24) ev8 (by decide) (by omega) (by omega)
                refine lv_iload hx hb dX10_rock_47 (lv_at hl 0 rfl) ?_
                refine lv_iadd hx hb dX10_rock_49 ?_
                refine lv_topi (fun v9 ev9 => ?_)
                have tv9 := a_add ev9 (by omega) (by omega)
                refine m_iald (1002) hx hb hE hM (hJ.2 2 (by decide)).1 rfl (vp_in_iff.mpr (by omega)) dX10_rock_50 ?_
                refine lv_iload hx hb dX10_rock_51 (lv_at hl 8 rfl) ?_
                refine lv_if_eq (tgt := 60) hx hb dX10_rock_53 (by decide) (fun c10 => ?_) (fun c10 => ?_)
                · have hc10 := c10
                  have q10 := q_eq hc10
                  refine lv_iconst (v := (0)) hx hb dX10_rock_60 (by decide) ?_
                  refine lv_icmp_ne (tgt := 68) hx hb dX10_rock_61 (by decide) (fun c11 => ?_) (fun c11 => ?_)
                  · have hc11 := c11
                    have q11 := q_ne hc11
                    refine lv_iconst (v := (1)) hx hb dX10_rock_68 (by decide) ?_
                    refine lv_iadd hx hb dX10_rock_69 ?_
                    refine lv_topi (fun v12 ev12 => ?_)
                    refine lv_istore (lv' := [(6, .int (v12)), (8, .int (x8_30)), (7, .int (x7_20)), (0, .ref (ad (1000))), (1, .int (a0)), (2, .int (a1)), (3, .int (a2)), (4, .int (a3)), (5, .int (a4))]) hx hb dX10_rock_70 hl (by decide) rfl (fun ls hl => ?_)
                    refine lv_aload_n hx hb dX10_rock_72 rfl (lv_at hl 3 rfl) ?_
                    refine m_getr (1000) 2 (1002) hx hb hts hown hE oc10 hM hJ.1 rfl (by decide) rfl (hJ.2 2 (by decide)).2 (by decide) tb_1179 dX10_rock_73 ?_
                    refine lv_bipush (v := (24)) hx hb dX10_rock_76 (by decide) ?_
                    refine lv_iload hx hb dX10_rock_78 (lv_at hl 2 rfl) ?_
                    refine lv_imul hx hb dX10_rock_80 ?_
                    refine lv_topi (fun v13 ev13 => ?_)
                    have tv13 := a_mulL (c := 24) ev13 (by decide) (by omega) (by omega)
                    refine lv_iload hx hb dX10_rock_81 (lv_at hl 1 rfl) ?_
                    refine lv_iadd hx hb dX10_rock_83 ?_
                    refine lv_topi (fun v14 ev14 => ?_)
                    have tv14 := a_add ev14 (by omega) (by omega)
                    refine lv_iload hx hb dX10_rock_84 (lv_at hl 8 rfl) ?_
                    refine lv_if_eq (tgt := 93) hx hb dX10_rock_86 (by decide) (fun c15 => ?_) (fun c15 => ?_)
                    · have hc15 := c15
                      have q15 := q_eq hc15
                      refine lv_iconst (v := (0)) hx hb dX10_rock_93 (by decide) ?_
                      refine m_iast (1002) hx hb hE hM hS (hJ.2 2 (by decide)).1 rfl (vp_in_iff.mpr (by omega)) dX10_rock_94 (fun H locs I16 eI16 hM hS => ?_)
                      subst eI16
                      have hI := hI.putF (n := 1002) (k := ((v14).toNatClampNeg)) (v := 0) rfl
                      have hK := hK.put (n := 1002) (k := ((v14).toNatClampNeg)) (v := 0) (by first | rfl | simp [inR])
                      obtain ⟨v17, ev17⟩ : ∃ z : Int32, z = x8_30 + Int32.ofInt (1) := ⟨_, rfl⟩
                      have tv17 := a_inc ev17 (by decide) (by omega) (by omega)
                      refine lv_iinc (v := v17) (lv' := [(8, .int (v17)), (6, .int (v12)), (7, .int (x7_20)), (0, .ref (ad (1000))), (1, .int (a0)), (2, .int (a1)), (3, .int (a2)), (4, .int (a3)), (5, .int (a4))]) hx hb dX10_rock_95 hl (k := 1) rfl ev17.symm (by decide) rfl (fun ls hl => ?_)
                      refine lv_goto (tgt := 30) hx hb dX10_rock_98 (by decide) ?_
                      have ec18 : (v9).toNatClampNeg = 24 * (x7_20).toNatClampNeg + (x8_30).toNatClampNeg := by have z1 := tn (i := v9) (by omega); have z2 := tn (i := x7_20) (by omega); have z3 := tn (i := x8_30) (by omega); omega
                      have ec19 : (v14).toNatClampNeg = 24 * (x7_20).toNatClampNeg + (x8_30).toNatClampNeg := by have z1 := tn (i := v14) (by omega); have z2 := tn (i := x7_20) (by omega); have z3 := tn (i := x8_30) (by omega); omega
                      have hbv : bv a4 = 0 := if_pos c10
                      exact ih30 (v17) (v12) (u2 Ia30 (1002) ((v14).toNatClampNeg) (0)) La30 _ _ ls hI hK (by first | omega | decide) (rk_any hk8 (by omega) (by omega) (by omega) (by rw [hbv]; exact u2_rk ec19) (by rw [hbv, if_neg (by rw [← ec18]; exact c11), ev12])) (by omega) hM hS (lv_sub hl [0, 2, 1, 3, 4, 5, 6, 7, 8] rfl)
                    · exact absurd c10 c15
                  · have hc11 := c11
                    have q11 := q_eq hc11
                    refine lv_iconst (v := (0)) hx hb dX10_rock_64 (by decide) ?_
                    refine lv_goto (tgt := 69) hx hb dX10_rock_65 (by decide) ?_
                    refine lv_iadd hx hb dX10_rock_69 ?_
                    refine lv_topi (fun v20 ev20 => ?_)
                    refine lv_istore (lv' := [(6, .int (v20)), (8, .int (x8_30)), (7, .int (x7_20)), (0, .ref (ad (1000))), (1, .int (a0)), (2, .int (a1)), (3, .int (a2)), (4, .int (a3)), (5, .int (a4))]) hx hb dX10_rock_70 hl (by decide) rfl (fun ls hl => ?_)
                    refine lv_aload_n hx hb dX10_rock_72 rfl (lv_at hl 3 rfl) ?_
                    refine m_getr (1000) 2 (1002) hx hb hts hown hE oc10 hM hJ.1 rfl (by decide) rfl (hJ.2 2 (by decide)).2 (by decide) tb_1179 dX10_rock_73 ?_
                    refine lv_bipush (v := (24)) hx hb dX10_rock_76 (by decide) ?_
                    refine lv_iload hx hb dX10_rock_78 (lv_at hl 2 rfl) ?_
                    refine lv_imul hx hb dX10_rock_80 ?_
                    refine lv_topi (fun v21 ev21 => ?_)
                    have tv21 := a_mulL (c := 24) ev21 (by decide) (by omega) (by omega)
                    refine lv_iload hx hb dX10_rock_81 (lv_at hl 1 rfl) ?_
                    refine lv_iadd hx hb dX10_rock_83 ?_
                    refine lv_topi (fun v22 ev22 => ?_)
                    have tv22 := a_add ev22 (by omega) (by omega)
                    refine lv_iload hx hb dX10_rock_84 (lv_at hl 8 rfl) ?_
                    refine lv_if_eq (tgt := 93) hx hb dX10_rock_86 (by decide) (fun c23 => ?_) (fun c23 => ?_)
                    · have hc23 := c23
                      have q23 := q_eq hc23
                      refine lv_iconst (v := (0)) hx hb dX10_rock_93 (by decide) ?_
                      refine m_iast (1002) hx hb hE hM hS (hJ.2 2 (by decide)).1 rfl (vp_in_iff.mpr (by omega)) dX10_rock_94 (fun H locs I24 eI24 hM hS => ?_)
                      subst eI24
                      have hI := hI.putF (n := 1002) (k := ((v22).toNatClampNeg)) (v := 0) rfl
                      have hK := hK.put (n := 1002) (k := ((v22).toNatClampNeg)) (v := 0) (by first | rfl | simp [inR])
                      obtain ⟨v25, ev25⟩ : ∃ z : Int32, z = x8_30 + Int32.ofInt (1) := ⟨_, rfl⟩
                      have tv25 := a_inc ev25 (by decide) (by omega) (by omega)
                      refine lv_iinc (v := v25) (lv' := [(8, .int (v25)), (6, .int (v20)), (7, .int (x7_20)), (0, .ref (ad (1000))), (1, .int (a0)), (2, .int (a1)), (3, .int (a2)), (4, .int (a3)), (5, .int (a4))]) hx hb dX10_rock_95 hl (k := 1) rfl ev25.symm (by decide) rfl (fun ls hl => ?_)
                      refine lv_goto (tgt := 30) hx hb dX10_rock_98 (by decide) ?_
                      have ec26 : (v9).toNatClampNeg = 24 * (x7_20).toNatClampNeg + (x8_30).toNatClampNeg := by have z1 := tn (i := v9) (by omega); have z2 := tn (i := x7_20) (by omega); have z3 := tn (i := x8_30) (by omega); omega
                      have ec27 : (v22).toNatClampNeg = 24 * (x7_20).toNatClampNeg + (x8_30).toNatClampNeg := by have z1 := tn (i := v22) (by omega); have z2 := tn (i := x7_20) (by omega); have z3 := tn (i := x8_30) (by omega); omega
                      have hbv : bv a4 = 0 := if_pos c10
                      exact ih30 (v25) (v20) (u2 Ia30 (1002) ((v22).toNatClampNeg) (0)) La30 _ _ ls hI hK (by first | omega | decide) (rk_any hk8 (by omega) (by omega) (by omega) (by rw [hbv]; exact u2_rk ec27) (by rw [hbv, if_pos (by rw [← ec26]; exact c11), ev20]; exact i_add0 _)) (by omega) hM hS (lv_sub hl [0, 2, 1, 3, 4, 5, 6, 7, 8] rfl)
                    · exact absurd c10 c23
                · have hc10 := c10
                  have q10 := q_ne hc10
                  refine lv_iconst (v := (1)) hx hb dX10_rock_56 (by decide) ?_
                  refine lv_goto (tgt := 61) hx hb dX10_rock_57 (by decide) ?_
                  refine lv_icmp_ne (tgt := 68) hx hb dX10_rock_61 (by decide) (fun c28 => ?_) (fun c28 => ?_)
                  · have hc28 := c28
                    have q28 := q_ne hc28
                    refine lv_iconst (v := (1)) hx hb dX10_rock_68 (by decide) ?_
                    refine lv_iadd hx hb dX10_rock_69 ?_
                    refine lv_topi (fun v29 ev29 => ?_)
                    refine lv_istore (lv' := [(6, .int (v29)), (8, .int (x8_30)), (7, .int (x7_20)), (0, .ref (ad (1000))), (1, .int (a0)), (2, .int (a1)), (3, .int (a2)), (4, .int (a3)), (5, .int (a4))]) hx hb dX10_rock_70 hl (by decide) rfl (fun ls hl => ?_)
                    refine lv_aload_n hx hb dX10_rock_72 rfl (lv_at hl 3 rfl) ?_
                    refine m_getr (1000) 2 (1002) hx hb hts hown hE oc10 hM hJ.1 rfl (by decide) rfl (hJ.2 2 (by decide)).2 (by decide) tb_1179 dX10_rock_73 ?_
                    refine lv_bipush (v := (24)) hx hb dX10_rock_76 (by decide) ?_
                    refine lv_iload hx hb dX10_rock_78 (lv_at hl 2 rfl) ?_
                    refine lv_imul hx hb dX10_rock_80 ?_
                    refine lv_topi (fun v30 ev30 => ?_)
                    have tv30 := a_mulL (c := 24) ev30 (by decide) (by omega) (by omega)
                    refine lv_iload hx hb dX10_rock_81 (lv_at hl 1 rfl) ?_
                    refine lv_iadd hx hb dX10_rock_83 ?_
                    refine lv_topi (fun v31 ev31 => ?_)
                    have tv31 := a_add ev31 (by omega) (by omega)
                    refine lv_iload hx hb dX10_rock_84 (lv_at hl 8 rfl) ?_
                    refine lv_if_eq (tgt := 93) hx hb dX10_rock_86 (by decide) (fun c32 => ?_) (fun c32 => ?_)
                    · exact absurd c32 c10
                    · have hc32 := c32
                      have q32 := q_ne hc32
                      refine lv_iconst (v := (1)) hx hb dX10_rock_89 (by decide) ?_
                      refine lv_goto (tgt := 94) hx hb dX10_rock_90 (by decide) ?_
                      refine m_iast (1002) hx hb hE hM hS (hJ.2 2 (by decide)).1 rfl (vp_in_iff.mpr (by omega)) dX10_rock_94 (fun H locs I33 eI33 hM hS => ?_)
                      subst eI33
                      have hI := hI.putF (n := 1002) (k := ((v31).toNatClampNeg)) (v := 1) rfl
                      have hK := hK.put (n := 1002) (k := ((v31).toNatClampNeg)) (v := 1) (by first | rfl | simp [inR])
                      obtain ⟨v34, ev34⟩ : ∃ z : Int32, z = x8_30 + Int32.ofInt (1) := ⟨_, rfl⟩
                      have tv34 := a_inc ev34 (by decide) (by omega) (by omega)
                      refine lv_iinc (v := v34) (lv' := [(8, .int (v34)), (6, .int (v29)), (7, .int (x7_20)), (0, .ref (ad (1000))), (1, .int (a0)), (2, .int (a1)), (3, .int (a2)), (4, .int (a3)), (5, .int (a4))]) hx hb dX10_rock_95 hl (k := 1) rfl ev34.symm (by decide) rfl (fun ls hl => ?_)
                      refine lv_goto (tgt := 30) hx hb dX10_rock_98 (by decide) ?_
                      have ec35 : (v9).toNatClampNeg = 24 * (x7_20).toNatClampNeg + (x8_30).toNatClampNeg := by have z1 := tn (i := v9) (by omega); have z2 := tn (i := x7_20) (by omega); have z3 := tn (i := x8_30) (by omega); omega
                      have ec36 : (v31).toNatClampNeg = 24 * (x7_20).toNatClampNeg + (x8_30).toNatClampNeg := by have z1 := tn (i := v31) (by omega); have z2 := tn (i := x7_20) (by omega); have z3 := tn (i := x8_30) (by omega); omega
                      have hbv : bv a4 = 1 := if_neg c10
                      exact ih30 (v34) (v29) (u2 Ia30 (1002) ((v31).toNatClampNeg) (1)) La30 _ _ ls hI hK (by first | omega | decide) (rk_any hk8 (by omega) (by omega) (by omega) (by rw [hbv]; exact u2_rk ec36) (by rw [hbv, if_neg (by rw [← ec35]; exact c28), ev29])) (by omega) hM hS (lv_sub hl [0, 2, 1, 3, 4, 5, 6, 7, 8] rfl)
                  · have hc28 := c28
                    have q28 := q_eq hc28
                    refine lv_iconst (v := (0)) hx hb dX10_rock_64 (by decide) ?_
                    refine lv_goto (tgt := 69) hx hb dX10_rock_65 (by decide) ?_
                    refine lv_iadd hx hb dX10_rock_69 ?_
                    refine lv_topi (fun v37 ev37 => ?_)
                    refine lv_istore (lv' := [(6, .int (v37)), (8, .int (x8_30)), (7, .int (x7_20)), (0, .ref (ad (1000))), (1, .int (a0)), (2, .int (a1)), (3, .int (a2)), (4, .int (a3)), (5, .int (a4))]) hx hb dX10_rock_70 hl (by decide) rfl (fun ls hl => ?_)
                    refine lv_aload_n hx hb dX10_rock_72 rfl (lv_at hl 3 rfl) ?_
                    refine m_getr (1000) 2 (1002) hx hb hts hown hE oc10 hM hJ.1 rfl (by decide) rfl (hJ.2 2 (by decide)).2 (by decide) tb_1179 dX10_rock_73 ?_
                    refine lv_bipush (v := (24)) hx hb dX10_rock_76 (by decide) ?_
                    refine lv_iload hx hb dX10_rock_78 (lv_at hl 2 rfl) ?_
                    refine lv_imul hx hb dX10_rock_80 ?_
                    refine lv_topi (fun v38 ev38 => ?_)
                    have tv38 := a_mulL (c := 24) ev38 (by decide) (by omega) (by omega)
                    refine lv_iload hx hb dX10_rock_81 (lv_at hl 1 rfl) ?_
                    refine lv_iadd hx hb dX10_rock_83 ?_
                    refine lv_topi (fun v39 ev39 => ?_)
                    have tv39 := a_add ev39 (by omega) (by omega)
                    refine lv_iload hx hb dX10_rock_84 (lv_at hl 8 rfl) ?_
                    refine lv_if_eq (tgt := 93) hx hb dX10_rock_86 (by decide) (fun c40 => ?_) (fun c40 => ?_)
                    · exact absurd c40 c10
                    · have hc40 := c40
                      have q40 := q_ne hc40
                      refine lv_iconst (v := (1)) hx hb dX10_rock_89 (by decide) ?_
                      refine lv_goto (tgt := 94) hx hb dX10_rock_90 (by decide) ?_
                      refine m_iast (1002) hx hb hE hM hS (hJ.2 2 (by decide)).1 rfl (vp_in_iff.mpr (by omega)) dX10_rock_94 (fun H locs I41 eI41 hM hS => ?_)
                      subst eI41
                      have hI := hI.putF (n := 1002) (k := ((v39).toNatClampNeg)) (v := 1) rfl
                      have hK := hK.put (n := 1002) (k := ((v39).toNatClampNeg)) (v := 1) (by first | rfl | simp [inR])
                      obtain ⟨v42, ev42⟩ : ∃ z : Int32, z = x8_30 + Int32.ofInt (1) := ⟨_, rfl⟩
                      have tv42 := a_inc ev42 (by decide) (by omega) (by omega)
                      refine lv_iinc (v := v42) (lv' := [(8, .int (v42)), (6, .int (v37)), (7, .int (x7_20)), (0, .ref (ad (1000))), (1, .int (a0)), (2, .int (a1)), (3, .int (a2)), (4, .int (a3)), (5, .int (a4))]) hx hb dX10_rock_95 hl (k := 1) rfl ev42.symm (by decide) rfl (fun ls hl => ?_)
                      refine lv_goto (tgt := 30) hx hb dX10_rock_98 (by decide) ?_
                      have ec43 : (v9).toNatClampNeg = 24 * (x7_20).toNatClampNeg + (x8_30).toNatClampNeg := by have z1 := tn (i := v9) (by omega); have z2 := tn (i := x7_20) (by omega); have z3 := tn (i := x8_30) (by omega); omega
                      have ec44 : (v39).toNatClampNeg = 24 * (x7_20).toNatClampNeg + (x8_30).toNatClampNeg := by have z1 := tn (i := v39) (by omega); have z2 := tn (i := x7_20) (by omega); have z3 := tn (i := x8_30) (by omega); omega
                      have hbv : bv a4 = 1 := if_neg c10
                      exact ih30 (v42) (v37) (u2 Ia30 (1002) ((v39).toNatClampNeg) (1)) La30 _ _ ls hI hK (by first | omega | decide) (rk_any hk8 (by omega) (by omega) (by omega) (by rw [hbv]; exact u2_rk ec44) (by rw [hbv, if_pos (by rw [← ec43]; exact c28), ev37]; exact i_add0 _)) (by omega) hM hS (lv_sub hl [0, 2, 1, 3, 4, 5, 6, 7, 8] rfl)
          exact loop30 (_ + 1) (a0) (x6_20) Ia20 La20 _ _ ls hI hK (by first | omega | decide) ((rkA_row (by omega) (by omega)).symm.trans hk6) (Nat.lt_succ_self _) hM hS (lv_sub hl [0, 1, 2, 3, 4, 5, 6, 7, 8] rfl)
    exact loop20 (_ + 1) (a1) (0) I L _ _ ls hI hK (by first | omega | decide) rfl (Nat.lt_succ_self _) hM hS (lv_sub hl [0, 1, 2, 3, 4, 5, 6, 7] rfl)
  · have hc4 := c4
    have q4 := xr1.f hc4
    refine lv_iconst (v := (-1)) hx hb dX10_rock_12 (by decide) ?_
    exact m_iret hx hb hr hlocks hM hS (Nat.le_of_ble_eq_true rfl) (Nat.le_of_ble_eq_true rfl) ⟨_, _, rfl, hI, hK, (Or.inr ⟨by omega, rfl, rfl⟩)⟩ dX10_rock_13
