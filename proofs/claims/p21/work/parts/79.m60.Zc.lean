set_option maxHeartbeats 4000000 in
set_option maxRecDepth 20000 in
theorem V_X10_second_z (l : Launch) (D : va_G) (A : Nat → Prop) (ad : Nat → Nat) (ns : List Nat) (I : MI) (L : ML) (G : MG) (a0 : Int32) (a1 : Int32) (hJ : SGM ns G) (hI : INV I) : Met l yX10_second (wd yX10_second cX10_second 12 (some .int)) ({ frames := 4, cells := 0, slots := 0, locals := 106 }) (va_Pc [.ref (ad (1000)), .int a0, .int a1] (PM D A ad ns I L G)) (va_Qi (fun r u => ∃ I2 L2, u = (ad, ns, I2, L2, G) ∧ INV I2 ∧ Kp [(1045, 1051), (1058, 1059), (1061, 1063)] [(1000, 51), (1000, 52), (1000, 53), (1000, 54), (1000, 55), (1000, 56), (1000, 59), (1000, 63)] I I2 ∧ (Z59 I I2)) (BM D A) A) 0 0 A := by
  refine m_ofW (by decide) (Nat.le_of_ble_eq_true rfl) ?_
  intro p e s m below meth c ls args hC hE hM hA hS hl
  obtain ⟨hx, hb, hml, hown, hts, hr, hlocks, hin⟩ := hC
  have km2 : (-2 : Int32).toInt = -2 := by decide
  have km1 : (-1 : Int32).toInt = -1 := by decide
  have k0 : (0 : Int32).toInt = 0 := by decide
  have k1 : (1 : Int32).toInt = 1 := by decide
  have k2 : (2 : Int32).toInt = 2 := by decide
  have k3 : (3 : Int32).toInt = 3 := by decide
  have k5 : (5 : Int32).toInt = 5 := by decide
  have k8 : (8 : Int32).toInt = 8 := by decide
  have k24 : (24 : Int32).toInt = 24 := by decide
  have k576 : (576 : Int32).toInt = 576 := by decide
  have kl0 : (0 : Int64).toInt = 0 := by decide
  have kl2 : (2 : Int64).toInt = 2 := by decide
  have hK : Kp [(1045, 1051), (1058, 1059), (1061, 1063)] [(1000, 51), (1000, 52), (1000, 53), (1000, 54), (1000, 55), (1000, 56), (1000, 59), (1000, 63)] I I := Kp.rf
  have hl : lv_has ls 12 [(0, .ref (ad (1000))), (1, .int (a0)), (2, .int (a1))] := hl
  refine lv_aload_n hx hb dX10_second_0 rfl (lv_at hl 0 rfl) ?_
  refine lv_iload_n hx hb dX10_second_1 rfl (lv_at hl 1 rfl) ?_
  refine m_calli (m_runV (1000) (As := [.int (a0)]) (rest := []) hx hb hml hown hts hE hM hS hA ce_X10_isBright tb_1698 (V_X10_isBright l D A ad ns I L G (a0) hJ hI) rfl rfl ⟨Nat.le_of_ble_eq_true rfl, Nat.le_of_ble_eq_true rfl⟩ hJ.1 rfl rfl (by decide) rfl hl.1 rfl (Nat.le_of_ble_eq_true rfl) dX10_second_2 ⟨Nat.le_of_ble_eq_true rfl, Nat.le_of_ble_eq_true rfl⟩) hS (fun r1 u H locs hw hM hS => ?_)
  obtain ⟨rfl, xr1⟩ := hw
  have hM : Mem D A ad ns I L G H := hM
  refine lv_if_eq (tgt := 20) hx hb dX10_second_5 (by decide) (fun c2 => ?_) (fun c2 => ?_)
  · have hc2 := c2
    have q2 := q_eq hc2
    refine lv_iconst (v := (-1)) hx hb dX10_second_20 (by decide) ?_
    exact m_iret hx hb hr hlocks hM hS (Nat.le_of_ble_eq_true rfl) (Nat.le_of_ble_eq_true rfl) ⟨_, _, rfl, hI, hK, Z59.rf⟩ dX10_second_21
  · have hc2 := c2
    have q2 := q_ne hc2
    refine lv_iload_n hx hb dX10_second_8 rfl (lv_at hl 2 rfl) ?_
    refine lv_i2l hx hb dX10_second_9 rfl ?_
    refine lv_topl (fun v3 ev3 => ?_)
    have tv3 := q_i2l ev3
    refine lv_lconst (v := 0) hx hb dX10_second_10 (by decide) ?_
    refine lv_ldc2 (v := (2)) hx hb hown (hts _ tb_1789) dX10_second_11 ?_
    refine m_calli (m_runS (As := [.long (v3), .long (0), .long ((2 : Int64))]) (rest := []) hx hb hml hown hts hE hM hS hA ce_X10_in tb_1425 (V_X10_in l D A ad ns I L G (v3) (0) ((2 : Int64)) hI) rfl rfl ⟨Nat.le_of_ble_eq_true rfl, Nat.le_of_ble_eq_true rfl⟩  rfl hl.1 rfl (Nat.le_of_ble_eq_true rfl) dX10_second_14 ⟨Nat.le_of_ble_eq_true rfl, Nat.le_of_ble_eq_true rfl⟩) hS (fun r4 u H locs hw hM hS => ?_)
    obtain ⟨rfl, xr4⟩ := hw
    have hM : Mem D A ad ns I L G H := hM
    have yr4 := bo01 xr4
    refine lv_if_ne (tgt := 22) hx hb dX10_second_17 (by decide) (fun c5 => ?_) (fun c5 => ?_)
    · have hc5 := c5
      have q5 := xr4.t hc5
      refine lv_bipush (v := (-2)) hx hb dX10_second_22 (by decide) ?_
      refine lv_istore_n (lv' := [(3, .int ((-2 : Int32))), (0, .ref (ad (1000))), (1, .int (a0)), (2, .int (a1))]) hx hb dX10_second_24 rfl hl (by decide) rfl (fun ls hl => ?_)
      refine lv_iconst (v := (0)) hx hb dX10_second_25 (by decide) ?_
      refine lv_istore (lv' := [(4, .int (0)), (3, .int ((-2 : Int32))), (0, .ref (ad (1000))), (1, .int (a0)), (2, .int (a1))]) hx hb dX10_second_26 hl (by decide) rfl (fun ls hl => ?_)
      refine lv_iconst (v := (0)) hx hb dX10_second_28 (by decide) ?_
      refine lv_istore (lv' := [(5, .int (0)), (4, .int (0)), (3, .int ((-2 : Int32))), (0, .ref (ad (1000))), (1, .int (a0)), (2, .int (a1))]) hx hb dX10_second_29 hl (by decide) rfl (fun ls hl => ?_)
      refine lv_iconst (v := (0)) hx hb dX10_second_31 (by decide) ?_
      refine lv_istore (lv' := [(6, .int (0)), (5, .int (0)), (4, .int (0)), (3, .int ((-2 : Int32))), (0, .ref (ad (1000))), (1, .int (a0)), (2, .int (a1))]) hx hb dX10_second_32 hl (by decide) rfl (fun ls hl => ?_)
      have loop34 : ∀ (n : Nat) (x6_34 : Int32) (x5_34 : Int32) (x4_34 : Int32) (x3_34 : Int32) (Ia34 : MI) (La34 : ML) (H : Heap) (locs : List Loc) (ls : Array Slot), INV Ia34 → Kp [(1045, 1051), (1058, 1059), (1061, 1063)] [(1000, 51), (1000, 52), (1000, 53), (1000, 54), (1000, 55), (1000, 56), (1000, 59), (1000, 63)] I Ia34 → (0 ≤ x6_34.toInt ∧ x6_34.toInt ≤ 576) → (Z59 I Ia34) → (576 - x6_34.toInt).toNat < n → Mem D A ad ns Ia34 La34 G H → va_S A s.heap H locs → lv_has ls 12 [(6, .int (x6_34)), (5, .int (x5_34)), (4, .int (x4_34)), (3, .int (x3_34)), (0, .ref (ad (1000))), (1, .int (a0)), (2, .int (a1))] → W p l e ({ frames := 4, cells := 0, slots := 0, locals := 106 } : Room) s m args below meth c H locs 0 0 (MQ below (va_Qi (fun r u => ∃ I2 L2, u = (ad, ns, I2, L2, G) ∧ INV I2 ∧ Kp [(1045, 1051), (1058, 1059), (1061, 1063)] [(1000, 51), (1000, 52), (1000, 53), (1000, 54), (1000, 55), (1000, 56), (1000, 59), (1000, 63)] I I2 ∧ (Z59 I I2)) (BM D A) A) args s 0 0 A) (F0 m 34 ls []) := by
        intro n
        induction n with
        | zero =>
          intro x6_34 x5_34 x4_34 x3_34 Ia34 La34 H locs ls hI hK hr6_34 zz34 hmu
          exact absurd hmu (Nat.not_lt_zero _)
        | succ n ih34 =>
          intro x6_34 x5_34 x4_34 x3_34 Ia34 La34 H locs ls hI hK hr6_34 zz34 hmu34 hM hS hl
          refine lv_iload hx hb dX10_second_34 (lv_at hl 0 rfl) ?_
          refine lv_sipush (v := (576)) hx hb dX10_second_36 (by decide) ?_
          refine lv_icmp_ge (tgt := 259) hx hb dX10_second_39 (by decide) (fun c6 => ?_) (fun c6 => ?_)
          · have hc6 := c6
            have q6 := q_le hc6
            refine lv_iload_n hx hb dX10_second_259 rfl (lv_at hl 3 rfl) ?_
            refine lv_bipush (v := (-2)) hx hb dX10_second_260 (by decide) ?_
            refine lv_icmp_eq (tgt := 269) hx hb dX10_second_262 (by decide) (fun c7 => ?_) (fun c7 => ?_)
            · have hc7 := c7
              have q7 := q_eq hc7
              refine lv_iload_n hx hb dX10_second_269 rfl (lv_at hl 3 rfl) ?_
              refine lv_goto (tgt := 285) hx hb dX10_second_270 (by decide) ?_
              exact m_iret hx hb hr hlocks hM hS (Nat.le_of_ble_eq_true rfl) (Nat.le_of_ble_eq_true rfl) ⟨_, _, rfl, hI, hK, zz34⟩ dX10_second_285
            · have hc7 := c7
              have q7 := q_ne hc7
              refine lv_iload_n hx hb dX10_second_265 rfl (lv_at hl 6 rfl) ?_
              refine lv_if_ne (tgt := 273) hx hb dX10_second_266 (by decide) (fun c8 => ?_) (fun c8 => ?_)
              · have hc8 := c8
                have q8 := q_ne hc8
                refine lv_iload_n hx hb dX10_second_273 rfl (lv_at hl 6 rfl) ?_
                refine lv_iconst (v := (1)) hx hb dX10_second_274 (by decide) ?_
                refine lv_icmp_ne (tgt := 283) hx hb dX10_second_275 (by decide) (fun c9 => ?_) (fun c9 => ?_)
                · have hc9 := c9
                  have q9 := q_ne hc9
                  refine lv_iload hx hb dX10_second_283 (lv_at hl 1 rfl) ?_
                  exact m_iret hx hb hr hlocks hM hS (Nat.le_of_ble_eq_true rfl) (Nat.le_of_ble_eq_true rfl) ⟨_, _, rfl, hI, hK, zz34⟩ dX10_second_285
                · have hc9 := c9
                  have q9 := q_eq hc9
                  refine lv_iload hx hb dX10_second_278 (lv_at hl 2 rfl) ?_
                  refine lv_goto (tgt := 285) hx hb dX10_second_280 (by decide) ?_
                  exact m_iret hx hb hr hlocks hM hS (Nat.le_of_ble_eq_true rfl) (Nat.le_of_ble_eq_true rfl) ⟨_, _, rfl, hI, hK, zz34⟩ dX10_second_285
              · have hc8 := c8
                have q8 := q_eq hc8
                refine lv_iload_n hx hb dX10_second_269 rfl (lv_at hl 3 rfl) ?_
                refine lv_goto (tgt := 285) hx hb dX10_second_270 (by decide) ?_
                exact m_iret hx hb hr hlocks hM hS (Nat.le_of_ble_eq_true rfl) (Nat.le_of_ble_eq_true rfl) ⟨_, _, rfl, hI, hK, zz34⟩ dX10_second_285
          · have hc6 := c6
            have q6 := q_nle hc6
            refine lv_iload hx hb dX10_second_42 (lv_at hl 0 rfl) ?_
            refine lv_bipush (v := (24)) hx hb dX10_second_44 (by decide) ?_
            refine lv_irem hx hb dX10_second_46 (by decide) ?_
            refine lv_topi (fun v10 ev10 => ?_)
            have tv10 := a_rem (c := 24) ev10 (by decide) (by decide) (by omega)
            refine lv_istore (lv' := [(7, .int (v10)), (6, .int (x6_34)), (5, .int (x5_34)), (4, .int (x4_34)), (3, .int (x3_34)), (0, .ref (ad (1000))), (1, .int (a0)), (2, .int (a1))]) hx hb dX10_second_47 hl (by decide) rfl (fun ls hl => ?_)
            refine lv_iload hx hb dX10_second_49 (lv_at hl 1 rfl) ?_
            refine lv_bipush (v := (24)) hx hb dX10_second_51 (by decide) ?_
            refine lv_idiv hx hb dX10_second_53 (by decide) ?_
            refine lv_topi (fun v11 ev11 => ?_)
            have tv11 := a_div (c := 24) ev11 (by decide) (by decide) (by omega)
            refine lv_istore (lv' := [(8, .int (v11)), (7, .int (v10)), (6, .int (x6_34)), (5, .int (x5_34)), (4, .int (x4_34)), (3, .int (x3_34)), (0, .ref (ad (1000))), (1, .int (a0)), (2, .int (a1))]) hx hb dX10_second_54 hl (by decide) rfl (fun ls hl => ?_)
            refine lv_aload_n hx hb dX10_second_56 rfl (lv_at hl 6 rfl) ?_
            refine lv_iload hx hb dX10_second_57 (lv_at hl 1 rfl) ?_
            refine lv_iload hx hb dX10_second_59 (lv_at hl 0 rfl) ?_
            refine m_calli (m_runV (1000) (As := [.int (v10), .int (v11)]) (rest := []) hx hb hml hown hts hE hM hS hA ce_X10_isCell tb_1437 (V_X10_isCell l D A ad ns Ia34 La34 G (v10) (v11) hJ hI) rfl rfl ⟨Nat.le_of_ble_eq_true rfl, Nat.le_of_ble_eq_true rfl⟩ hJ.1 rfl rfl (by decide) rfl hl.1 rfl (Nat.le_of_ble_eq_true rfl) dX10_second_61 ⟨Nat.le_of_ble_eq_true rfl, Nat.le_of_ble_eq_true rfl⟩) hS (fun r12 u H locs hw hM hS => ?_)
            obtain ⟨rfl, xr12⟩ := hw
            have hM : Mem D A ad ns Ia34 La34 G H := hM
            have yr12 := bo01 xr12
            have g13 := hI.get 1001 1 (lo := 0) (hi := 24) rfl
            have g14 := hI.get 1001 2 (lo := 0) (hi := 24) rfl
            refine lv_if_eq (tgt := 107) hx hb dX10_second_64 (by decide) (fun c15 => ?_) (fun c15 => ?_)
            · have hc15 := c15
              have q15 := xr12.f hc15
              refine lv_iconst (v := (0)) hx hb dX10_second_107 (by decide) ?_
              refine lv_istore (lv' := [(9, .int (0)), (8, .int (v11)), (7, .int (v10)), (6, .int (x6_34)), (5, .int (x5_34)), (4, .int (x4_34)), (3, .int (x3_34)), (0, .ref (ad (1000))), (1, .int (a0)), (2, .int (a1))]) hx hb dX10_second_108 hl (by decide) rfl (fun ls hl => ?_)
              refine lv_iconst (v := (0)) hx hb dX10_second_110 (by decide) ?_
              refine lv_istore (lv' := [(10, .int (0)), (9, .int (0)), (8, .int (v11)), (7, .int (v10)), (6, .int (x6_34)), (5, .int (x5_34)), (4, .int (x4_34)), (3, .int (x3_34)), (0, .ref (ad (1000))), (1, .int (a0)), (2, .int (a1))]) hx hb dX10_second_111 hl (by decide) rfl (fun ls hl => ?_)
              have loop113 : ∀ (n : Nat) (x10_113 : Int32) (x5_113 : Int32) (x4_113 : Int32) (x3_113 : Int32) (Ia113 : MI) (La113 : ML) (H : Heap) (locs : List Loc) (ls : Array Slot), INV Ia113 → Kp [(1045, 1051), (1058, 1059), (1061, 1063)] [(1000, 51), (1000, 52), (1000, 53), (1000, 54), (1000, 55), (1000, 56), (1000, 59), (1000, 63)] I Ia113 → (0 ≤ x10_113.toInt ∧ x10_113.toInt ≤ 8) → (Z59 I Ia113) → (8 - x10_113.toInt).toNat < n → Mem D A ad ns Ia113 La113 G H → va_S A s.heap H locs → lv_has ls 12 [(10, .int (x10_113)), (9, .int (0)), (8, .int (v11)), (7, .int (v10)), (6, .int (x6_34)), (5, .int (x5_113)), (4, .int (x4_113)), (3, .int (x3_113)), (0, .ref (ad (1000))), (1, .int (a0)), (2, .int (a1))] → W p l e ({ frames := 4, cells := 0, slots := 0, locals := 106 } : Room) s m args below meth c H locs 0 0 (MQ below (va_Qi (fun r u => ∃ I2 L2, u = (ad, ns, I2, L2, G) ∧ INV I2 ∧ Kp [(1045, 1051), (1058, 1059), (1061, 1063)] [(1000, 51), (1000, 52), (1000, 53), (1000, 54), (1000, 55), (1000, 56), (1000, 59), (1000, 63)] I I2 ∧ (Z59 I I2)) (BM D A) A) args s 0 0 A) (F0 m 113 ls []) := by
                intro n
                induction n with
                | zero =>
                  intro x10_113 x5_113 x4_113 x3_113 Ia113 La113 H locs ls hI hK hr10_113 zz113 hmu
                  exact absurd hmu (Nat.not_lt_zero _)
                | succ n ih113 =>
                  intro x10_113 x5_113 x4_113 x3_113 Ia113 La113 H locs ls hI hK hr10_113 zz113 hmu113 hM hS hl
                  refine lv_iload hx hb dX10_second_113 (lv_at hl 0 rfl) ?_
                  refine lv_bipush (v := (8)) hx hb dX10_second_115 (by decide) ?_
                  refine lv_icmp_ge (tgt := 253) hx hb dX10_second_117 (by decide) (fun c16 => ?_) (fun c16 => ?_)
                  · have hc16 := c16
                    have q16 := q_le hc16
                    obtain ⟨v17, ev17⟩ : ∃ z : Int32, z = x6_34 + Int32.ofInt (1) := ⟨_, rfl⟩
                    have tv17 := a_inc ev17 (by decide) (by omega) (by omega)
                    refine lv_iinc (v := v17) (lv' := [(6, .int (v17)), (10, .int (x10_113)), (9, .int (0)), (8, .int (v11)), (7, .int (v10)), (5, .int (x5_113)), (4, .int (x4_113)), (3, .int (x3_113)), (0, .ref (ad (1000))), (1, .int (a0)), (2, .int (a1))]) hx hb dX10_second_253 hl (k := 4) rfl ev17.symm (by decide) rfl (fun ls hl => ?_)
                    refine lv_goto (tgt := 34) hx hb dX10_second_256 (by decide) ?_
                    exact ih34 (v17) (x5_113) (x4_113) (x3_113) Ia113 La113 _ _ ls hI hK (by first | omega | decide) zz113 (by omega) hM hS (lv_sub hl [0, 5, 6, 7, 8, 9, 10] rfl)
                  · have hc16 := c16
                    have q16 := q_nle hc16
                    refine lv_iload hx hb dX10_second_120 (lv_at hl 1 rfl) ?_
                    refine lv_if_eq (tgt := 253) hx hb dX10_second_122 (by decide) (fun c18 => ?_) (fun c18 => ?_)
                    · have hc18 := c18
                      have q18 := q_eq hc18
                      obtain ⟨v19, ev19⟩ : ∃ z : Int32, z = x6_34 + Int32.ofInt (1) := ⟨_, rfl⟩
                      have tv19 := a_inc ev19 (by decide) (by omega) (by omega)
                      refine lv_iinc (v := v19) (lv' := [(6, .int (v19)), (10, .int (x10_113)), (9, .int (0)), (8, .int (v11)), (7, .int (v10)), (5, .int (x5_113)), (4, .int (x4_113)), (3, .int (x3_113)), (0, .ref (ad (1000))), (1, .int (a0)), (2, .int (a1))]) hx hb dX10_second_253 hl (k := 4) rfl ev19.symm (by decide) rfl (fun ls hl => ?_)
                      refine lv_goto (tgt := 34) hx hb dX10_second_256 (by decide) ?_
                      exact ih34 (v19) (x5_113) (x4_113) (x3_113) Ia113 La113 _ _ ls hI hK (by first | omega | decide) zz113 (by omega) hM hS (lv_sub hl [0, 5, 6, 7, 8, 9, 10] rfl)
                    · exact absurd c18 (by decide)
              exact loop113 (_ + 1) (0) (x5_34) (x4_34) (x3_34) Ia34 La34 _ _ ls hI hK (by first | omega | decide) zz34 (Nat.lt_succ_self _) hM hS (lv_sub hl [0, 1, 2, 3, 4, 5, 6, 7, 8, 9, 10] rfl)
            · have hc15 := c15
              have q15 := xr12.t hc15
              refine lv_iload hx hb dX10_second_67 (lv_at hl 1 rfl) ?_
              refine lv_if_eq (tgt := 103) hx hb dX10_second_69 (by decide) (fun c20 => ?_) (fun c20 => ?_)
              · have hc20 := c20
                have q20 := q_eq hc20
                refine lv_iconst (v := (1)) hx hb dX10_second_103 (by decide) ?_
                refine lv_goto (tgt := 108) hx hb dX10_second_104 (by decide) ?_
                refine lv_istore (lv' := [(9, .int (1)), (8, .int (v11)), (7, .int (v10)), (6, .int (x6_34)), (5, .int (x5_34)), (4, .int (x4_34)), (3, .int (x3_34)), (0, .ref (ad (1000))), (1, .int (a0)), (2, .int (a1))]) hx hb dX10_second_108 hl (by decide) rfl (fun ls hl => ?_)
                refine lv_iconst (v := (0)) hx hb dX10_second_110 (by decide) ?_
                refine lv_istore (lv' := [(10, .int (0)), (9, .int (1)), (8, .int (v11)), (7, .int (v10)), (6, .int (x6_34)), (5, .int (x5_34)), (4, .int (x4_34)), (3, .int (x3_34)), (0, .ref (ad (1000))), (1, .int (a0)), (2, .int (a1))]) hx hb dX10_second_111 hl (by decide) rfl (fun ls hl => ?_)
                have loop113 : ∀ (n : Nat) (x10_113 : Int32) (x5_113 : Int32) (x4_113 : Int32) (x3_113 : Int32) (Ia113 : MI) (La113 : ML) (H : Heap) (locs : List Loc) (ls : Array Slot), INV Ia113 → Kp [(1045, 1051), (1058, 1059), (1061, 1063)] [(1000, 51), (1000, 52), (1000, 53), (1000, 54), (1000, 55), (1000, 56), (1000, 59), (1000, 63)] I Ia113 → (0 ≤ x10_113.toInt ∧ x10_113.toInt ≤ 8) → (Z59 I Ia113) → (8 - x10_113.toInt).toNat < n → Mem D A ad ns Ia113 La113 G H → va_S A s.heap H locs → lv_has ls 12 [(10, .int (x10_113)), (9, .int (1)), (8, .int (v11)), (7, .int (v10)), (6, .int (x6_34)), (5, .int (x5_113)), (4, .int (x4_113)), (3, .int (x3_113)), (0, .ref (ad (1000))), (1, .int (a0)), (2, .int (a1))] → W p l e ({ frames := 4, cells := 0, slots := 0, locals := 106 } : Room) s m args below meth c H locs 0 0 (MQ below (va_Qi (fun r u => ∃ I2 L2, u = (ad, ns, I2, L2, G) ∧ INV I2 ∧ Kp [(1045, 1051), (1058, 1059), (1061, 1063)] [(1000, 51), (1000, 52), (1000, 53), (1000, 54), (1000, 55), (1000, 56), (1000, 59), (1000, 63)] I I2 ∧ (Z59 I I2)) (BM D A) A) args s 0 0 A) (F0 m 113 ls []) := by
                  intro n
                  induction n with
                  | zero =>
                    intro x10_113 x5_113 x4_113 x3_113 Ia113 La113 H locs ls hI hK hr10_113 zz113 hmu
                    exact absurd hmu (Nat.not_lt_zero _)
                  | succ n ih113 =>
                    intro x10_113 x5_113 x4_113 x3_113 Ia113 La113 H locs ls hI hK hr10_113 zz113 hmu113 hM hS hl
                    refine lv_iload hx hb dX10_second_113 (lv_at hl 0 rfl) ?_
                    refine lv_bipush (v := (8)) hx hb dX10_second_115 (by decide) ?_
                    refine lv_icmp_ge (tgt := 253) hx hb dX10_second_117 (by decide) (fun c21 => ?_) (fun c21 => ?_)
                    · have hc21 := c21
                      have q21 := q_le hc21
                      obtain ⟨v22, ev22⟩ : ∃ z : Int32, z = x6_34 + Int32.ofInt (1) := ⟨_, rfl⟩
                      have tv22 := a_inc ev22 (by decide) (by omega) (by omega)
                      refine lv_iinc (v := v22) (lv' := [(6, .int (v22)), (10, .int (x10_113)), (9, .int (1)), (8, .int (v11)), (7, .int (v10)), (5, .int (x5_113)), (4, .int (x4_113)), (3, .int (x3_113)), (0, .ref (ad (1000))), (1, .int (a0)), (2, .int (a1))]) hx hb dX10_second_253 hl (k := 4) rfl ev22.symm (by decide) rfl (fun ls hl => ?_)
                      refine lv_goto (tgt := 34) hx hb dX10_second_256 (by decide) ?_
                      exact ih34 (v22) (x5_113) (x4_113) (x3_113) Ia113 La113 _ _ ls hI hK (by first | omega | decide) zz113 (by omega) hM hS (lv_sub hl [0, 5, 6, 7, 8, 9, 10] rfl)
                    · have hc21 := c21
                      have q21 := q_nle hc21
                      refine lv_iload hx hb dX10_second_120 (lv_at hl 1 rfl) ?_
                      refine lv_if_eq (tgt := 253) hx hb dX10_second_122 (by decide) (fun c23 => ?_) (fun c23 => ?_)
                      · exact absurd c23 (by decide)
                      · have hc23 := c23
                        have q23 := q_ne hc23
                        refine lv_aload_n hx hb dX10_second_125 rfl (lv_at hl 8 rfl) ?_
                        refine m_getr (1000) 2 (1002) hx hb hts hown hE oc10 hM hJ.1 rfl (by decide) rfl (hJ.2 2 (by decide)).2 (by decide) tb_1179 dX10_second_126 ?_
                        refine lv_iload hx hb dX10_second_129 (lv_at hl 4 rfl) ?_
                        refine m_iald (1002) hx hb hE hM (hJ.2 2 (by decide)).1 rfl (vp_in_iff.mpr (by omega)) dX10_second_131 ?_
                        refine lv_if_ne (tgt := 253) hx hb dX10_second_132 (by decide) (fun c24 => ?_) (fun c24 => ?_)
                        · have hc24 := c24
                          have q24 := q_ne hc24
                          obtain ⟨v25, ev25⟩ : ∃ z : Int32, z = x6_34 + Int32.ofInt (1) := ⟨_, rfl⟩
                          have tv25 := a_inc ev25 (by decide) (by omega) (by omega)
                          refine lv_iinc (v := v25) (lv' := [(6, .int (v25)), (10, .int (x10_113)), (9, .int (1)), (8, .int (v11)), (7, .int (v10)), (5, .int (x5_113)), (4, .int (x4_113)), (3, .int (x3_113)), (0, .ref (ad (1000))), (1, .int (a0)), (2, .int (a1))]) hx hb dX10_second_253 hl (k := 4) rfl ev25.symm (by decide) rfl (fun ls hl => ?_)
                          refine lv_goto (tgt := 34) hx hb dX10_second_256 (by decide) ?_
                          exact ih34 (v25) (x5_113) (x4_113) (x3_113) Ia113 La113 _ _ ls hI hK (by first | omega | decide) zz113 (by omega) hM hS (lv_sub hl [0, 5, 6, 7, 8, 9, 10] rfl)
                        · have hc24 := c24
                          have q24 := q_eq hc24
                          refine lv_iload hx hb dX10_second_135 (lv_at hl 4 rfl) ?_
                          refine lv_aload_n hx hb dX10_second_137 rfl (lv_at hl 8 rfl) ?_
                          refine m_getr (1000) 1 (1001) hx hb hts hown hE oc10 hM hJ.1 rfl (by decide) rfl (hJ.2 1 (by decide)).2 (by decide) tb_1178 dX10_second_138 ?_
                          refine lv_iconst (v := (3)) hx hb dX10_second_141 (by decide) ?_
                          refine m_iald (1001) hx hb hE hM (hJ.2 1 (by decide)).1 rfl (vp_in_iff.mpr (by decide)) dX10_second_142 ?_
                          rw [show (3 : Int32).toNatClampNeg = 3 from rfl]
                          refine lv_icmp_eq (tgt := 253) hx hb dX10_second_143 (by decide) (fun c26 => ?_) (fun c26 => ?_)
                          · have hc26 := c26
                            have q26 := q_eq hc26
                            obtain ⟨v27, ev27⟩ : ∃ z : Int32, z = x6_34 + Int32.ofInt (1) := ⟨_, rfl⟩
                            have tv27 := a_inc ev27 (by decide) (by omega) (by omega)
                            refine lv_iinc (v := v27) (lv' := [(6, .int (v27)), (10, .int (x10_113)), (9, .int (1)), (8, .int (v11)), (7, .int (v10)), (5, .int (x5_113)), (4, .int (x4_113)), (3, .int (x3_113)), (0, .ref (ad (1000))), (1, .int (a0)), (2, .int (a1))]) hx hb dX10_second_253 hl (k := 4) rfl ev27.symm (by decide) rfl (fun ls hl => ?_)
                            refine lv_goto (tgt := 34) hx hb dX10_second_256 (by decide) ?_
                            exact ih34 (v27) (x5_113) (x4_113) (x3_113) Ia113 La113 _ _ ls hI hK (by first | omega | decide) zz113 (by omega) hM hS (lv_sub hl [0, 5, 6, 7, 8, 9, 10] rfl)
                          · have hc26 := c26
                            have q26 := q_ne hc26
                            refine lv_aload_n hx hb dX10_second_146 rfl (lv_at hl 8 rfl) ?_
                            refine lv_iload hx hb dX10_second_147 (lv_at hl 3 rfl) ?_
                            refine lv_iload hx hb dX10_second_149 (lv_at hl 0 rfl) ?_
                            refine m_calli (m_runS (As := [.int (x10_113)]) (rest := [.int (v10), .ref (ad (1000))]) hx hb hml hown hts hE hM hS hA ce_X10_stepX tb_1660 (V_X10_stepX l D A ad ns Ia113 La113 G (x10_113) hI) rfl rfl ⟨Nat.le_of_ble_eq_true rfl, Nat.le_of_ble_eq_true rfl⟩  rfl hl.1 rfl (Nat.le_of_ble_eq_true rfl) dX10_second_151 ⟨Nat.le_of_ble_eq_true rfl, Nat.le_of_ble_eq_true rfl⟩) hS (fun r28 u H locs hw hM hS => ?_)
                            obtain ⟨rfl, xr28⟩ := hw
                            have hM : Mem D A ad ns Ia113 La113 G H := hM
                            refine lv_iadd hx hb dX10_second_154 ?_
                            refine lv_topi (fun v29 ev29 => ?_)
                            have tv29 := a_add ev29 (by omega) (by omega)
                            refine lv_iload hx hb dX10_second_155 (lv_at hl 2 rfl) ?_
                            refine lv_iload hx hb dX10_second_157 (lv_at hl 0 rfl) ?_
                            refine m_calli (m_runS (As := [.int (x10_113)]) (rest := [.int (v11), .int (v29), .ref (ad (1000))]) hx hb hml hown hts hE hM hS hA ce_X10_stepY tb_1663 (V_X10_stepY l D A ad ns Ia113 La113 G (x10_113) hI) rfl rfl ⟨Nat.le_of_ble_eq_true rfl, Nat.le_of_ble_eq_true rfl⟩  rfl hl.1 rfl (Nat.le_of_ble_eq_true rfl) dX10_second_159 ⟨Nat.le_of_ble_eq_true rfl, Nat.le_of_ble_eq_true rfl⟩) hS (fun r30 u H locs hw hM hS => ?_)
                            obtain ⟨rfl, xr30⟩ := hw
                            have hM : Mem D A ad ns Ia113 La113 G H := hM
                            refine lv_iadd hx hb dX10_second_162 ?_
                            refine lv_topi (fun v31 ev31 => ?_)
                            have tv31 := a_add ev31 (by omega) (by omega)
                            refine m_calli (m_runV (1000) (As := [.int (v29), .int (v31)]) (rest := []) hx hb hml hown hts hE hM hS hA ce_X10_isCell tb_1437 (V_X10_isCell l D A ad ns Ia113 La113 G (v29) (v31) hJ hI) rfl rfl ⟨Nat.le_of_ble_eq_true rfl, Nat.le_of_ble_eq_true rfl⟩ hJ.1 rfl rfl (by decide) rfl hl.1 rfl (Nat.le_of_ble_eq_true rfl) dX10_second_163 ⟨Nat.le_of_ble_eq_true rfl, Nat.le_of_ble_eq_true rfl⟩) hS (fun r32 u H locs hw hM hS => ?_)
                            obtain ⟨rfl, xr32⟩ := hw
                            have hM : Mem D A ad ns Ia113 La113 G H := hM
                            have yr32 := bo01 xr32
                            have g33 := hI.get 1001 1 (lo := 0) (hi := 24) rfl
                            have g34 := hI.get 1001 2 (lo := 0) (hi := 24) rfl
                            refine lv_if_eq (tgt := 247) hx hb dX10_second_166 (by decide) (fun c35 => ?_) (fun c35 => ?_)
                            · have hc35 := c35
                              have q35 := xr32.f hc35
                              obtain ⟨v36, ev36⟩ : ∃ z : Int32, z = x10_113 + Int32.ofInt (1) := ⟨_, rfl⟩
                              have tv36 := a_inc ev36 (by decide) (by omega) (by omega)
                              refine lv_iinc (v := v36) (lv' := [(10, .int (v36)), (9, .int (1)), (8, .int (v11)), (7, .int (v10)), (6, .int (x6_34)), (5, .int (x5_113)), (4, .int (x4_113)), (3, .int (x3_113)), (0, .ref (ad (1000))), (1, .int (a0)), (2, .int (a1))]) hx hb dX10_second_247 hl (k := 0) rfl ev36.symm (by decide) rfl (fun ls hl => ?_)
                              refine lv_goto (tgt := 113) hx hb dX10_second_250 (by decide) ?_
                              exact ih113 (v36) (x5_113) (x4_113) (x3_113) Ia113 La113 _ _ ls hI hK (by first | omega | decide) zz113 (by omega) hM hS (lv_sub hl [0, 1, 2, 3, 4, 5, 6, 7, 8, 9, 10] rfl)
                            · have hc35 := c35
                              have q35 := xr32.t hc35
                              refine lv_iconst (v := (0)) hx hb dX10_second_169 (by decide) ?_
                              refine lv_istore (lv' := [(11, .int (0)), (10, .int (x10_113)), (9, .int (1)), (8, .int (v11)), (7, .int (v10)), (6, .int (x6_34)), (5, .int (x5_113)), (4, .int (x4_113)), (3, .int (x3_113)), (0, .ref (ad (1000))), (1, .int (a0)), (2, .int (a1))]) hx hb dX10_second_170 hl (by decide) rfl (fun ls hl => ?_)
                              have loop172 : ∀ (n : Nat) (x11_172 : Int32) (Ia172 : MI) (La172 : ML) (H : Heap) (locs : List Loc) (ls : Array Slot), INV Ia172 → Kp [(1045, 1051), (1058, 1059), (1061, 1063)] [(1000, 51), (1000, 52), (1000, 53), (1000, 54), (1000, 55), (1000, 56), (1000, 59), (1000, 63)] I Ia172 → (0 ≤ x11_172.toInt ∧ x11_172.toInt ≤ 8) → (Z59 I Ia172) → (8 - x11_172.toInt).toNat < n → Mem D A ad ns Ia172 La172 G H → va_S A s.heap H locs → lv_has ls 12 [(11, .int (x11_172)), (10, .int (x10_113)), (9, .int (1)), (8, .int (v11)), (7, .int (v10)), (6, .int (x6_34)), (5, .int (x5_113)), (4, .int (x4_113)), (3, .int (x3_113)), (0, .ref (ad (1000))), (1, .int (a0)), (2, .int (a1))] → W p l e ({ frames := 4, cells := 0, slots := 0, locals := 106 } : Room) s m args below meth c H locs 0 0 (MQ below (va_Qi (fun r u => ∃ I2 L2, u = (ad, ns, I2, L2, G) ∧ INV I2 ∧ Kp [(1045, 1051), (1058, 1059), (1061, 1063)] [(1000, 51), (1000, 52), (1000, 53), (1000, 54), (1000, 55), (1000, 56), (1000, 59), (1000, 63)] I I2 ∧ (Z59 I I2)) (BM D A) A) args s 0 0 A) (F0 m 172 ls []) := by
                                intro n
                                induction n with
                                | zero =>
                                  intro x11_172 Ia172 La172 H locs ls hI hK hr11_172 zz172 hmu
                                  exact absurd hmu (Nat.not_lt_zero _)
                                | succ n ih172 =>
                                  intro x11_172 Ia172 La172 H locs ls hI hK hr11_172 zz172 hmu172 hM hS hl
                                  refine lv_iload hx hb dX10_second_172 (lv_at hl 0 rfl) ?_
                                  refine lv_bipush (v := (8)) hx hb dX10_second_174 (by decide) ?_
                                  refine lv_icmp_ge (tgt := 193) hx hb dX10_second_176 (by decide) (fun c37 => ?_) (fun c37 => ?_)
                                  · have hc37 := c37
                                    have q37 := q_le hc37
                                    refine lv_aload_n hx hb dX10_second_193 rfl (lv_at hl 9 rfl) ?_
                                    refine lv_iload hx hb dX10_second_194 (lv_at hl 5 rfl) ?_
                                    refine lv_iload hx hb dX10_second_196 (lv_at hl 1 rfl) ?_
                                    refine lv_aload_n hx hb dX10_second_198 rfl (lv_at hl 9 rfl) ?_
                                    refine m_getr (1000) 5 (1005) hx hb hts hown hE oc10 hM hJ.1 rfl (by decide) rfl (hJ.2 5 (by decide)).2 (by decide) tb_1182 dX10_second_199 ?_
                                    refine lv_bipush (v := (24)) hx hb dX10_second_202 (by decide) ?_
                                    refine lv_aload_n hx hb dX10_second_204 rfl (lv_at hl 9 rfl) ?_
                                    refine m_getr (1000) 1 (1001) hx hb hts hown hE oc10 hM hJ.1 rfl (by decide) rfl (hJ.2 1 (by decide)).2 (by decide) tb_1178 dX10_second_205 ?_
                                    refine lv_iconst (v := (5)) hx hb dX10_second_208 (by decide) ?_
                                    refine m_iald (1001) hx hb hE hM (hJ.2 1 (by decide)).1 rfl (vp_in_iff.mpr (by decide)) dX10_second_209 ?_
                                    rw [show (5 : Int32).toNatClampNeg = 5 from rfl]
                                    have g38 := hI.get (1001) 5 (lo := 0) (hi := 11) rfl
                                    refine lv_imul hx hb dX10_second_210 ?_
                                    refine lv_topi (fun v39 ev39 => ?_)
                                    have tv39 := a_mulL (c := 24) ev39 (by decide) (by omega) (by omega)
                                    refine lv_iload_n hx hb dX10_second_211 rfl (lv_at hl 10 rfl) ?_
                                    refine lv_iadd hx hb dX10_second_212 ?_
                                    refine lv_topi (fun v40 ev40 => ?_)
                                    have tv40 := a_add ev40 (by omega) (by omega)
                                    refine m_iald (1005) hx hb hE hM (hJ.2 5 (by decide)).1 rfl (vp_in_iff.mpr (by omega)) dX10_second_213 ?_
                                    refine m_callv (m_runV (1000) (As := [.int (x6_34), .int (x10_113), .int (Ia172 (1005) (v40).toNatClampNeg)]) (rest := []) hx hb hml hown hts hE hM hS hA ce_X10_traces tb_1644 (V_X10_traces_z l D A ad ns Ia172 La172 G (x6_34) (x10_113) (Ia172 (1005) (v40).toNatClampNeg) hJ hI) rfl rfl ⟨Nat.le_of_ble_eq_true rfl, Nat.le_of_ble_eq_true rfl⟩ hJ.1 rfl rfl (by decide) rfl hl.1 rfl (Nat.le_of_ble_eq_true rfl) dX10_second_214 ⟨Nat.le_of_ble_eq_true rfl, Nat.le_of_ble_eq_true rfl⟩) hS (fun u H locs hw hM hS => ?_)
                                    obtain ⟨I41, L42, rfl, hI, hkI41, xI41⟩ := hw
                                    have hM : Mem D A ad ns I41 L42 G H := hM
                                    have hK := hK.trans hkI41 rfl
                                    have zI41 := xI41
                                    have zt43a : ZA I41 := zI41
                                    refine lv_aload_n hx hb dX10_second_217 rfl (lv_at hl 9 rfl) ?_
                                    refine m_calli (m_runV (1000) (As := []) (rest := []) hx hb hml hown hts hE hM hS hA ce_X10_allGot tb_1707 (V_X10_allGot l D A ad ns I41 L42 G hJ hI) rfl rfl ⟨Nat.le_of_ble_eq_true rfl, Nat.le_of_ble_eq_true rfl⟩ hJ.1 rfl rfl (by decide) rfl hl.1 rfl (Nat.le_of_ble_eq_true rfl) dX10_second_218 ⟨Nat.le_of_ble_eq_true rfl, Nat.le_of_ble_eq_true rfl⟩) hS (fun r44 u H locs hw hM hS => ?_)
                                    obtain ⟨rfl, xr44⟩ := hw
                                    have hM : Mem D A ad ns I41 L42 G H := hM
                                    refine lv_istore (lv' := [(11, .int (r44)), (10, .int (x10_113)), (9, .int (1)), (8, .int (v11)), (7, .int (v10)), (6, .int (x6_34)), (5, .int (x5_113)), (4, .int (x4_113)), (3, .int (x3_113)), (0, .ref (ad (1000))), (1, .int (a0)), (2, .int (a1))]) hx hb dX10_second_221 hl (by decide) rfl (fun ls hl => ?_)
                                    refine lv_iload_n hx hb dX10_second_223 rfl (lv_at hl 8 rfl) ?_
                                    refine lv_bipush (v := (-2)) hx hb dX10_second_224 (by decide) ?_
                                    refine lv_icmp_eq (tgt := 236) hx hb dX10_second_226 (by decide) (fun c45 => ?_) (fun c45 => ?_)
                                    · have hc45 := c45
                                      have q45 := q_eq hc45
                                      refine lv_iload hx hb dX10_second_236 (lv_at hl 5 rfl) ?_
                                      refine lv_istore_n (lv' := [(3, .int (x6_34)), (11, .int (r44)), (10, .int (x10_113)), (9, .int (1)), (8, .int (v11)), (7, .int (v10)), (6, .int (x6_34)), (5, .int (x5_113)), (4, .int (x4_113)), (0, .ref (ad (1000))), (1, .int (a0)), (2, .int (a1))]) hx hb dX10_second_238 rfl hl (by decide) rfl (fun ls hl => ?_)
                                      refine lv_iload hx hb dX10_second_239 (lv_at hl 2 rfl) ?_
                                      refine lv_istore (lv' := [(4, .int (x10_113)), (3, .int (x6_34)), (11, .int (r44)), (10, .int (x10_113)), (9, .int (1)), (8, .int (v11)), (7, .int (v10)), (6, .int (x6_34)), (5, .int (x5_113)), (0, .ref (ad (1000))), (1, .int (a0)), (2, .int (a1))]) hx hb dX10_second_241 hl (by decide) rfl (fun ls hl => ?_)
                                      refine lv_iload hx hb dX10_second_243 (lv_at hl 2 rfl) ?_
                                      refine lv_istore (lv' := [(5, .int (r44)), (4, .int (x10_113)), (3, .int (x6_34)), (11, .int (r44)), (10, .int (x10_113)), (9, .int (1)), (8, .int (v11)), (7, .int (v10)), (6, .int (x6_34)), (0, .ref (ad (1000))), (1, .int (a0)), (2, .int (a1))]) hx hb dX10_second_245 hl (by decide) rfl (fun ls hl => ?_)
                                      obtain ⟨v46, ev46⟩ : ∃ z : Int32, z = x10_113 + Int32.ofInt (1) := ⟨_, rfl⟩
                                      have tv46 := a_inc ev46 (by decide) (by omega) (by omega)
                                      refine lv_iinc (v := v46) (lv' := [(10, .int (v46)), (5, .int (r44)), (4, .int (x10_113)), (3, .int (x6_34)), (11, .int (r44)), (9, .int (1)), (8, .int (v11)), (7, .int (v10)), (6, .int (x6_34)), (0, .ref (ad (1000))), (1, .int (a0)), (2, .int (a1))]) hx hb dX10_second_247 hl (k := 4) rfl ev46.symm (by decide) rfl (fun ls hl => ?_)
                                      refine lv_goto (tgt := 113) hx hb dX10_second_250 (by decide) ?_
                                      exact ih113 (v46) (r44) (x10_113) (x6_34) I41 L42 _ _ ls hI hK (by first | omega | decide) (ZA.z zt43a) (by omega) hM hS (lv_sub hl [0, 5, 6, 7, 8, 1, 2, 3, 9, 10, 11] rfl)
                                    · have hc45 := c45
                                      have q45 := q_ne hc45
                                      refine lv_iload hx hb dX10_second_229 (lv_at hl 0 rfl) ?_
                                      refine lv_iload hx hb dX10_second_231 (lv_at hl 6 rfl) ?_
                                      refine lv_icmp_le (tgt := 247) hx hb dX10_second_233 (by decide) (fun c47 => ?_) (fun c47 => ?_)
                                      · have hc47 := c47
                                        have q47 := q_le hc47
                                        obtain ⟨v48, ev48⟩ : ∃ z : Int32, z = x10_113 + Int32.ofInt (1) := ⟨_, rfl⟩
                                        have tv48 := a_inc ev48 (by decide) (by omega) (by omega)
                                        refine lv_iinc (v := v48) (lv' := [(10, .int (v48)), (11, .int (r44)), (9, .int (1)), (8, .int (v11)), (7, .int (v10)), (6, .int (x6_34)), (5, .int (x5_113)), (4, .int (x4_113)), (3, .int (x3_113)), (0, .ref (ad (1000))), (1, .int (a0)), (2, .int (a1))]) hx hb dX10_second_247 hl (k := 1) rfl ev48.symm (by decide) rfl (fun ls hl => ?_)
                                        refine lv_goto (tgt := 113) hx hb dX10_second_250 (by decide) ?_
                                        exact ih113 (v48) (x5_113) (x4_113) (x3_113) I41 L42 _ _ ls hI hK (by first | omega | decide) (ZA.z zt43a) (by omega) hM hS (lv_sub hl [0, 2, 3, 4, 5, 6, 7, 8, 9, 10, 11] rfl)
                                      · have hc47 := c47
                                        have q47 := q_nle hc47
                                        refine lv_iload hx hb dX10_second_236 (lv_at hl 5 rfl) ?_
                                        refine lv_istore_n (lv' := [(3, .int (x6_34)), (11, .int (r44)), (10, .int (x10_113)), (9, .int (1)), (8, .int (v11)), (7, .int (v10)), (6, .int (x6_34)), (5, .int (x5_113)), (4, .int (x4_113)), (0, .ref (ad (1000))), (1, .int (a0)), (2, .int (a1))]) hx hb dX10_second_238 rfl hl (by decide) rfl (fun ls hl => ?_)
                                        refine lv_iload hx hb dX10_second_239 (lv_at hl 2 rfl) ?_
                                        refine lv_istore (lv' := [(4, .int (x10_113)), (3, .int (x6_34)), (11, .int (r44)), (10, .int (x10_113)), (9, .int (1)), (8, .int (v11)), (7, .int (v10)), (6, .int (x6_34)), (5, .int (x5_113)), (0, .ref (ad (1000))), (1, .int (a0)), (2, .int (a1))]) hx hb dX10_second_241 hl (by decide) rfl (fun ls hl => ?_)
                                        refine lv_iload hx hb dX10_second_243 (lv_at hl 2 rfl) ?_
                                        refine lv_istore (lv' := [(5, .int (r44)), (4, .int (x10_113)), (3, .int (x6_34)), (11, .int (r44)), (10, .int (x10_113)), (9, .int (1)), (8, .int (v11)), (7, .int (v10)), (6, .int (x6_34)), (0, .ref (ad (1000))), (1, .int (a0)), (2, .int (a1))]) hx hb dX10_second_245 hl (by decide) rfl (fun ls hl => ?_)
                                        obtain ⟨v49, ev49⟩ : ∃ z : Int32, z = x10_113 + Int32.ofInt (1) := ⟨_, rfl⟩
                                        have tv49 := a_inc ev49 (by decide) (by omega) (by omega)
                                        refine lv_iinc (v := v49) (lv' := [(10, .int (v49)), (5, .int (r44)), (4, .int (x10_113)), (3, .int (x6_34)), (11, .int (r44)), (9, .int (1)), (8, .int (v11)), (7, .int (v10)), (6, .int (x6_34)), (0, .ref (ad (1000))), (1, .int (a0)), (2, .int (a1))]) hx hb dX10_second_247 hl (k := 4) rfl ev49.symm (by decide) rfl (fun ls hl => ?_)
                                        refine lv_goto (tgt := 113) hx hb dX10_second_250 (by decide) ?_
                                        exact ih113 (v49) (r44) (x10_113) (x6_34) I41 L42 _ _ ls hI hK (by first | omega | decide) (ZA.z zt43a) (by omega) hM hS (lv_sub hl [0, 5, 6, 7, 8, 1, 2, 3, 9, 10, 11] rfl)
                                  · have hc37 := c37
                                    have q37 := q_nle hc37
                                    refine lv_aload_n hx hb dX10_second_179 rfl (lv_at hl 9 rfl) ?_
                                    refine m_getr (1000) 50 (1050) hx hb hts hown hE oc10 hM hJ.1 rfl (by decide) rfl (hJ.2 50 (by decide)).2 (by decide) tb_1227 dX10_second_180 ?_
                                    refine lv_iload hx hb dX10_second_183 (lv_at hl 0 rfl) ?_
                                    refine lv_iconst (v := (0)) hx hb dX10_second_185 (by decide) ?_
                                    refine m_iast (1050) hx hb hE hM hS (hJ.2 50 (by decide)).1 rfl (vp_in_iff.mpr (by omega)) dX10_second_186 (fun H locs I50 eI50 hM hS => ?_)
                                    subst eI50
                                    have hI := hI.putF (n := 1050) (k := ((x11_172).toNatClampNeg)) (v := 0) rfl
                                    have hK := hK.put (n := 1050) (k := ((x11_172).toNatClampNeg)) (v := 0) (by first | rfl | simp [inR])
                                    have zt51 : Z59 I (u2 Ia172 (1050) ((x11_172).toNatClampNeg) (0)) := zz172.pt (fun z => absurd z.1 (by decide))
                                    obtain ⟨v52, ev52⟩ : ∃ z : Int32, z = x11_172 + Int32.ofInt (1) := ⟨_, rfl⟩
                                    have tv52 := a_inc ev52 (by decide) (by omega) (by omega)
                                    refine lv_iinc (v := v52) (lv' := [(11, .int (v52)), (10, .int (x10_113)), (9, .int (1)), (8, .int (v11)), (7, .int (v10)), (6, .int (x6_34)), (5, .int (x5_113)), (4, .int (x4_113)), (3, .int (x3_113)), (0, .ref (ad (1000))), (1, .int (a0)), (2, .int (a1))]) hx hb dX10_second_187 hl (k := 0) rfl ev52.symm (by decide) rfl (fun ls hl => ?_)
                                    refine lv_goto (tgt := 172) hx hb dX10_second_190 (by decide) ?_
                                    exact ih172 (v52) (u2 Ia172 (1050) ((x11_172).toNatClampNeg) (0)) La172 _ _ ls hI hK (by first | omega | decide) zt51 (by omega) hM hS (lv_sub hl [0, 1, 2, 3, 4, 5, 6, 7, 8, 9, 10, 11] rfl)
                              exact loop172 (_ + 1) (0) Ia113 La113 _ _ ls hI hK (by first | omega | decide) zz113 (Nat.lt_succ_self _) hM hS (lv_sub hl [0, 1, 2, 3, 4, 5, 6, 7, 8, 9, 10, 11] rfl)
                exact loop113 (_ + 1) (0) (x5_34) (x4_34) (x3_34) Ia34 La34 _ _ ls hI hK (by first | omega | decide) zz34 (Nat.lt_succ_self _) hM hS (lv_sub hl [0, 1, 2, 3, 4, 5, 6, 7, 8, 9, 10] rfl)
              · have hc20 := c20
                have q20 := q_ne hc20
                refine lv_iload hx hb dX10_second_72 (lv_at hl 0 rfl) ?_
                refine lv_if_eq (tgt := 103) hx hb dX10_second_74 (by decide) (fun c53 => ?_) (fun c53 => ?_)
                · have hc53 := c53
                  have q53 := q_eq hc53
                  refine lv_iconst (v := (1)) hx hb dX10_second_103 (by decide) ?_
                  refine lv_goto (tgt := 108) hx hb dX10_second_104 (by decide) ?_
                  refine lv_istore (lv' := [(9, .int (1)), (8, .int (v11)), (7, .int (v10)), (6, .int (x6_34)), (5, .int (x5_34)), (4, .int (x4_34)), (3, .int (x3_34)), (0, .ref (ad (1000))), (1, .int (a0)), (2, .int (a1))]) hx hb dX10_second_108 hl (by decide) rfl (fun ls hl => ?_)
                  refine lv_iconst (v := (0)) hx hb dX10_second_110 (by decide) ?_
                  refine lv_istore (lv' := [(10, .int (0)), (9, .int (1)), (8, .int (v11)), (7, .int (v10)), (6, .int (x6_34)), (5, .int (x5_34)), (4, .int (x4_34)), (3, .int (x3_34)), (0, .ref (ad (1000))), (1, .int (a0)), (2, .int (a1))]) hx hb dX10_second_111 hl (by decide) rfl (fun ls hl => ?_)
                  have loop113 : ∀ (n : Nat) (x10_113 : Int32) (x5_113 : Int32) (x4_113 : Int32) (x3_113 : Int32) (Ia113 : MI) (La113 : ML) (H : Heap) (locs : List Loc) (ls : Array Slot), INV Ia113 → Kp [(1045, 1051), (1058, 1059), (1061, 1063)] [(1000, 51), (1000, 52), (1000, 53), (1000, 54), (1000, 55), (1000, 56), (1000, 59), (1000, 63)] I Ia113 → (0 ≤ x10_113.toInt ∧ x10_113.toInt ≤ 8) → (Z59 I Ia113) → (8 - x10_113.toInt).toNat < n → Mem D A ad ns Ia113 La113 G H → va_S A s.heap H locs → lv_has ls 12 [(10, .int (x10_113)), (9, .int (1)), (8, .int (v11)), (7, .int (v10)), (6, .int (x6_34)), (5, .int (x5_113)), (4, .int (x4_113)), (3, .int (x3_113)), (0, .ref (ad (1000))), (1, .int (a0)), (2, .int (a1))] → W p l e ({ frames := 4, cells := 0, slots := 0, locals := 106 } : Room) s m args below meth c H locs 0 0 (MQ below (va_Qi (fun r u => ∃ I2 L2, u = (ad, ns, I2, L2, G) ∧ INV I2 ∧ Kp [(1045, 1051), (1058, 1059), (1061, 1063)] [(1000, 51), (1000, 52), (1000, 53), (1000, 54), (1000, 55), (1000, 56), (1000, 59), (1000, 63)] I I2 ∧ (Z59 I I2)) (BM D A) A) args s 0 0 A) (F0 m 113 ls []) := by
                    intro n
                    induction n with
                    | zero =>
                      intro x10_113 x5_113 x4_113 x3_113 Ia113 La113 H locs ls hI hK hr10_113 zz113 hmu
                      exact absurd hmu (Nat.not_lt_zero _)
                    | succ n ih113 =>
                      intro x10_113 x5_113 x4_113 x3_113 Ia113 La113 H locs ls hI hK hr10_113 zz113 hmu113 hM hS hl
                      refine lv_iload hx hb dX10_second_113 (lv_at hl 0 rfl) ?_
                      refine lv_bipush (v := (8)) hx hb dX10_second_115 (by decide) ?_
                      refine lv_icmp_ge (tgt := 253) hx hb dX10_second_117 (by decide) (fun c54 => ?_) (fun c54 => ?_)
                      · have hc54 := c54
                        have q54 := q_le hc54
                        obtain ⟨v55, ev55⟩ : ∃ z : Int32, z = x6_34 + Int32.ofInt (1) := ⟨_, rfl⟩
                        have tv55 := a_inc ev55 (by decide) (by omega) (by omega)
                        refine lv_iinc (v := v55) (lv' := [(6, .int (v55)), (10, .int (x10_113)), (9, .int (1)), (8, .int (v11)), (7, .int (v10)), (5, .int (x5_113)), (4, .int (x4_113)), (3, .int (x3_113)), (0, .ref (ad (1000))), (1, .int (a0)), (2, .int (a1))]) hx hb dX10_second_253 hl (k := 4) rfl ev55.symm (by decide) rfl (fun ls hl => ?_)
                        refine lv_goto (tgt := 34) hx hb dX10_second_256 (by decide) ?_
                        exact ih34 (v55) (x5_113) (x4_113) (x3_113) Ia113 La113 _ _ ls hI hK (by first | omega | decide) zz113 (by omega) hM hS (lv_sub hl [0, 5, 6, 7, 8, 9, 10] rfl)
                      · have hc54 := c54
                        have q54 := q_nle hc54
                        refine lv_iload hx hb dX10_second_120 (lv_at hl 1 rfl) ?_
                        refine lv_if_eq (tgt := 253) hx hb dX10_second_122 (by decide) (fun c56 => ?_) (fun c56 => ?_)
                        · exact absurd c56 (by decide)
                        · have hc56 := c56
                          have q56 := q_ne hc56
                          refine lv_aload_n hx hb dX10_second_125 rfl (lv_at hl 8 rfl) ?_
                          refine m_getr (1000) 2 (1002) hx hb hts hown hE oc10 hM hJ.1 rfl (by decide) rfl (hJ.2 2 (by decide)).2 (by decide) tb_1179 dX10_second_126 ?_
                          refine lv_iload hx hb dX10_second_129 (lv_at hl 4 rfl) ?_
                          refine m_iald (1002) hx hb hE hM (hJ.2 2 (by decide)).1 rfl (vp_in_iff.mpr (by omega)) dX10_second_131 ?_
                          refine lv_if_ne (tgt := 253) hx hb dX10_second_132 (by decide) (fun c57 => ?_) (fun c57 => ?_)
                          · have hc57 := c57
                            have q57 := q_ne hc57
                            obtain ⟨v58, ev58⟩ : ∃ z : Int32, z = x6_34 + Int32.ofInt (1) := ⟨_, rfl⟩
                            have tv58 := a_inc ev58 (by decide) (by omega) (by omega)
                            refine lv_iinc (v := v58) (lv' := [(6, .int (v58)), (10, .int (x10_113)), (9, .int (1)), (8, .int (v11)), (7, .int (v10)), (5, .int (x5_113)), (4, .int (x4_113)), (3, .int (x3_113)), (0, .ref (ad (1000))), (1, .int (a0)), (2, .int (a1))]) hx hb dX10_second_253 hl (k := 4) rfl ev58.symm (by decide) rfl (fun ls hl => ?_)
                            refine lv_goto (tgt := 34) hx hb dX10_second_256 (by decide) ?_
                            exact ih34 (v58) (x5_113) (x4_113) (x3_113) Ia113 La113 _ _ ls hI hK (by first | omega | decide) zz113 (by omega) hM hS (lv_sub hl [0, 5, 6, 7, 8, 9, 10] rfl)
                          · have hc57 := c57
                            have q57 := q_eq hc57
                            refine lv_iload hx hb dX10_second_135 (lv_at hl 4 rfl) ?_
                            refine lv_aload_n hx hb dX10_second_137 rfl (lv_at hl 8 rfl) ?_
                            refine m_getr (1000) 1 (1001) hx hb hts hown hE oc10 hM hJ.1 rfl (by decide) rfl (hJ.2 1 (by decide)).2 (by decide) tb_1178 dX10_second_138 ?_
                            refine lv_iconst (v := (3)) hx hb dX10_second_141 (by decide) ?_
                            refine m_iald (1001) hx hb hE hM (hJ.2 1 (by decide)).1 rfl (vp_in_iff.mpr (by decide)) dX10_second_142 ?_
                            rw [show (3 : Int32).toNatClampNeg = 3 from rfl]
                            refine lv_icmp_eq (tgt := 253) hx hb dX10_second_143 (by decide) (fun c59 => ?_) (fun c59 => ?_)
                            · have hc59 := c59
                              have q59 := q_eq hc59
                              obtain ⟨v60, ev60⟩ : ∃ z : Int32, z = x6_34 + Int32.ofInt (1) := ⟨_, rfl⟩
                              have tv60 := a_inc ev60 (by decide) (by omega) (by omega)
                              refine lv_iinc (v := v60) (lv' := [(6, .int (v60)), (10, .int (x10_113)), (9, .int (1)), (8, .int (v11)), (7, .int (v10)), (5, .int (x5_113)), (4, .int (x4_113)), (3, .int (x3_113)), (0, .ref (ad (1000))), (1, .int (a0)), (2, .int (a1))]) hx hb dX10_second_253 hl (k := 4) rfl ev60.symm (by decide) rfl (fun ls hl => ?_)
                              refine lv_goto (tgt := 34) hx hb dX10_second_256 (by decide) ?_
                              exact ih34 (v60) (x5_113) (x4_113) (x3_113) Ia113 La113 _ _ ls hI hK (by first | omega | decide) zz113 (by omega) hM hS (lv_sub hl [0, 5, 6, 7, 8, 9, 10] rfl)
                            · have hc59 := c59
                              have q59 := q_ne hc59
                              refine lv_aload_n hx hb dX10_second_146 rfl (lv_at hl 8 rfl) ?_
                              refine lv_iload hx hb dX10_second_147 (lv_at hl 3 rfl) ?_
                              refine lv_iload hx hb dX10_second_149 (lv_at hl 0 rfl) ?_
                              refine m_calli (m_runS (As := [.int (x10_113)]) (rest := [.int (v10), .ref (ad (1000))]) hx hb hml hown hts hE hM hS hA ce_X10_stepX tb_1660 (V_X10_stepX l D A ad ns Ia113 La113 G (x10_113) hI) rfl rfl ⟨Nat.le_of_ble_eq_true rfl, Nat.le_of_ble_eq_true rfl⟩  rfl hl.1 rfl (Nat.le_of_ble_eq_true rfl) dX10_second_151 ⟨Nat.le_of_ble_eq_true rfl, Nat.le_of_ble_eq_true rfl⟩) hS (fun r61 u H locs hw hM hS => ?_)
                              obtain ⟨rfl, xr61⟩ := hw
                              have hM : Mem D A ad ns Ia113 La113 G H := hM
                              refine lv_iadd hx hb dX10_second_154 ?_
                              refine lv_topi (fun v62 ev62 => ?_)
                              have tv62 := a_add ev62 (by omega) (by omega)
                              refine lv_iload hx hb dX10_second_155 (lv_at hl 2 rfl) ?_
                              refine lv_iload hx hb dX10_second_157 (lv_at hl 0 rfl) ?_
                              refine m_calli (m_runS (As := [.int (x10_113)]) (rest := [.int (v11), .int (v62), .ref (ad (1000))]) hx hb hml hown hts hE hM hS hA ce_X10_stepY tb_1663 (V_X10_stepY l D A ad ns Ia113 La113 G (x10_113) hI) rfl rfl ⟨Nat.le_of_ble_eq_true rfl, Nat.le_of_ble_eq_true rfl⟩  rfl hl.1 rfl (Nat.le_of_ble_eq_true rfl) dX10_second_159 ⟨Nat.le_of_ble_eq_true rfl, Nat.le_of_ble_eq_true rfl⟩) hS (fun r63 u H locs hw hM hS => ?_)
                              obtain ⟨rfl, xr63⟩ := hw
                              have hM : Mem D A ad ns Ia113 La113 G H := hM
                              refine lv_iadd hx hb dX10_second_162 ?_
                              refine lv_topi (fun v64 ev64 => ?_)
                              have tv64 := a_add ev64 (by omega) (by omega)
                              refine m_calli (m_runV (1000) (As := [.int (v62), .int (v64)]) (rest := []) hx hb hml hown hts hE hM hS hA ce_X10_isCell tb_1437 (V_X10_isCell l D A ad ns Ia113 La113 G (v62) (v64) hJ hI) rfl rfl ⟨Nat.le_of_ble_eq_true rfl, Nat.le_of_ble_eq_true rfl⟩ hJ.1 rfl rfl (by decide) rfl hl.1 rfl (Nat.le_of_ble_eq_true rfl) dX10_second_163 ⟨Nat.le_of_ble_eq_true rfl, Nat.le_of_ble_eq_true rfl⟩) hS (fun r65 u H locs hw hM hS => ?_)
                              obtain ⟨rfl, xr65⟩ := hw
                              have hM : Mem D A ad ns Ia113 La113 G H := hM
                              have yr65 := bo01 xr65
                              have g66 := hI.get 1001 1 (lo := 0) (hi := 24) rfl
                              have g67 := hI.get 1001 2 (lo := 0) (hi := 24) rfl
                              refine lv_if_eq (tgt := 247) hx hb dX10_second_166 (by decide) (fun c68 => ?_) (fun c68 => ?_)
                              · have hc68 := c68
                                have q68 := xr65.f hc68
                                obtain ⟨v69, ev69⟩ : ∃ z : Int32, z = x10_113 + Int32.ofInt (1) := ⟨_, rfl⟩
                                have tv69 := a_inc ev69 (by decide) (by omega) (by omega)
                                refine lv_iinc (v := v69) (lv' := [(10, .int (v69)), (9, .int (1)), (8, .int (v11)), (7, .int (v10)), (6, .int (x6_34)), (5, .int (x5_113)), (4, .int (x4_113)), (3, .int (x3_113)), (0, .ref (ad (1000))), (1, .int (a0)), (2, .int (a1))]) hx hb dX10_second_247 hl (k := 0) rfl ev69.symm (by decide) rfl (fun ls hl => ?_)
                                refine lv_goto (tgt := 113) hx hb dX10_second_250 (by decide) ?_
                                exact ih113 (v69) (x5_113) (x4_113) (x3_113) Ia113 La113 _ _ ls hI hK (by first | omega | decide) zz113 (by omega) hM hS (lv_sub hl [0, 1, 2, 3, 4, 5, 6, 7, 8, 9, 10] rfl)
                              · have hc68 := c68
                                have q68 := xr65.t hc68
                                refine lv_iconst (v := (0)) hx hb dX10_second_169 (by decide) ?_
                                refine lv_istore (lv' := [(11, .int (0)), (10, .int (x10_113)), (9, .int (1)), (8, .int (v11)), (7, .int (v10)), (6, .int (x6_34)), (5, .int (x5_113)), (4, .int (x4_113)), (3, .int (x3_113)), (0, .ref (ad (1000))), (1, .int (a0)), (2, .int (a1))]) hx hb dX10_second_170 hl (by decide) rfl (fun ls hl => ?_)
                                have loop172 : ∀ (n : Nat) (x11_172 : Int32) (Ia172 : MI) (La172 : ML) (H : Heap) (locs : List Loc) (ls : Array Slot), INV Ia172 → Kp [(1045, 1051), (1058, 1059), (1061, 1063)] [(1000, 51), (1000, 52), (1000, 53), (1000, 54), (1000, 55), (1000, 56), (1000, 59), (1000, 63)] I Ia172 → (0 ≤ x11_172.toInt ∧ x11_172.toInt ≤ 8) → (Z59 I Ia172) → (8 - x11_172.toInt).toNat < n → Mem D A ad ns Ia172 La172 G H → va_S A s.heap H locs → lv_has ls 12 [(11, .int (x11_172)), (10, .int (x10_113)), (9, .int (1)), (8, .int (v11)), (7, .int (v10)), (6, .int (x6_34)), (5, .int (x5_113)), (4, .int (x4_113)), (3, .int (x3_113)), (0, .ref (ad (1000))), (1, .int (a0)), (2, .int (a1))] → W p l e ({ frames := 4, cells := 0, slots := 0, locals := 106 } : Room) s m args below meth c H locs 0 0 (MQ below (va_Qi (fun r u => ∃ I2 L2, u = (ad, ns, I2, L2, G) ∧ INV I2 ∧ Kp [(1045, 1051), (1058, 1059), (1061, 1063)] [(1000, 51), (1000, 52), (1000, 53), (1000, 54), (1000, 55), (1000, 56), (1000, 59), (1000, 63)] I I2 ∧ (Z59 I I2)) (BM D A) A) args s 0 0 A) (F0 m 172 ls []) := by
                                  intro n
                                  induction n with
                                  | zero =>
                                    intro x11_172 Ia172 La172 H locs ls hI hK hr11_172 zz172 hmu
                                    exact absurd hmu (Nat.not_lt_zero _)
                                  | succ n ih172 =>
                                    intro x11_172 Ia172 La172 H locs ls hI hK hr11_172 zz172 hmu172 hM hS hl
                                    refine lv_iload hx hb dX10_second_172 (lv_at hl 0 rfl) ?_
                                    refine lv_bipush (v := (8)) hx hb dX10_second_174 (by decide) ?_
                                    refine lv_icmp_ge (tgt := 193) hx hb dX10_second_176 (by decide) (fun c70 => ?_) (fun c70 => ?_)
                                    · have hc70 := c70
                                      have q70 := q_le hc70
                                      refine lv_aload_n hx hb dX10_second_193 rfl (lv_at hl 9 rfl) ?_
                                      refine lv_iload hx hb dX10_second_194 (lv_at hl 5 rfl) ?_
                                      refine lv_iload hx hb dX10_second_196 (lv_at hl 1 rfl) ?_
                                      refine lv_aload_n hx hb dX10_second_198 rfl (lv_at hl 9 rfl) ?_
                                      refine m_getr (1000) 5 (1005) hx hb hts hown hE oc10 hM hJ.1 rfl (by decide) rfl (hJ.2 5 (by decide)).2 (by decide) tb_1182 dX10_second_199 ?_
                                      refine lv_bipush (v := (24)) hx hb dX10_second_202 (by decide) ?_
                                      refine lv_aload_n hx hb dX10_second_204 rfl (lv_at hl 9 rfl) ?_
                                      refine m_getr (1000) 1 (1001) hx hb hts hown hE oc10 hM hJ.1 rfl (by decide) rfl (hJ.2 1 (by decide)).2 (by decide) tb_1178 dX10_second_205 ?_
                                      refine lv_iconst (v := (5)) hx hb dX10_second_208 (by decide) ?_
                                      refine m_iald (1001) hx hb hE hM (hJ.2 1 (by decide)).1 rfl (vp_in_iff.mpr (by decide)) dX10_second_209 ?_
                                      rw [show (5 : Int32).toNatClampNeg = 5 from rfl]
                                      have g71 := hI.get (1001) 5 (lo := 0) (hi := 11) rfl
                                      refine lv_imul hx hb dX10_second_210 ?_
                                      refine lv_topi (fun v72 ev72 => ?_)
                                      have tv72 := a_mulL (c := 24) ev72 (by decide) (by omega) (by omega)
                                      refine lv_iload_n hx hb dX10_second_211 rfl (lv_at hl 10 rfl) ?_
                                      refine lv_iadd hx hb dX10_second_212 ?_
                                      refine lv_topi (fun v73 ev73 => ?_)
                                      have tv73 := a_add ev73 (by omega) (by omega)
                                      refine m_iald (1005) hx hb hE hM (hJ.2 5 (by decide)).1 rfl (vp_in_iff.mpr (by omega)) dX10_second_213 ?_
                                      refine m_callv (m_runV (1000) (As := [.int (x6_34), .int (x10_113), .int (Ia172 (1005) (v73).toNatClampNeg)]) (rest := []) hx hb hml hown hts hE hM hS hA ce_X10_traces tb_1644 (V_X10_traces_z l D A ad ns Ia172 La172 G (x6_34) (x10_113) (Ia172 (1005) (v73).toNatClampNeg) hJ hI) rfl rfl ⟨Nat.le_of_ble_eq_true rfl, Nat.le_of_ble_eq_true rfl⟩ hJ.1 rfl rfl (by decide) rfl hl.1 rfl (Nat.le_of_ble_eq_true rfl) dX10_second_214 ⟨Nat.le_of_ble_eq_true rfl, Nat.le_of_ble_eq_true rfl⟩) hS (fun u H locs hw hM hS => ?_)
                                      obtain ⟨I74, L75, rfl, hI, hkI74, xI74⟩ := hw
                                      have hM : Mem D A ad ns I74 L75 G H := hM
                                      have hK := hK.trans hkI74 rfl
                                      have zI74 := xI74
                                      have zt76a : ZA I74 := zI74
                                      refine lv_aload_n hx hb dX10_second_217 rfl (lv_at hl 9 rfl) ?_
                                      refine m_calli (m_runV (1000) (As := []) (rest := []) hx hb hml hown hts hE hM hS hA ce_X10_allGot tb_1707 (V_X10_allGot l D A ad ns I74 L75 G hJ hI) rfl rfl ⟨Nat.le_of_ble_eq_true rfl, Nat.le_of_ble_eq_true rfl⟩ hJ.1 rfl rfl (by decide) rfl hl.1 rfl (Nat.le_of_ble_eq_true rfl) dX10_second_218 ⟨Nat.le_of_ble_eq_true rfl, Nat.le_of_ble_eq_true rfl⟩) hS (fun r77 u H locs hw hM hS => ?_)
                                      obtain ⟨rfl, xr77⟩ := hw
                                      have hM : Mem D A ad ns I74 L75 G H := hM
                                      refine lv_istore (lv' := [(11, .int (r77)), (10, .int (x10_113)), (9, .int (1)), (8, .int (v11)), (7, .int (v10)), (6, .int (x6_34)), (5, .int (x5_113)), (4, .int (x4_113)), (3, .int (x3_113)), (0, .ref (ad (1000))), (1, .int (a0)), (2, .int (a1))]) hx hb dX10_second_221 hl (by decide) rfl (fun ls hl => ?_)
                                      refine lv_iload_n hx hb dX10_second_223 rfl (lv_at hl 8 rfl) ?_
                                      refine lv_bipush (v := (-2)) hx hb dX10_second_224 (by decide) ?_
                                      refine lv_icmp_eq (tgt := 236) hx hb dX10_second_226 (by decide) (fun c78 => ?_) (fun c78 => ?_)
                                      · have hc78 := c78
                                        have q78 := q_eq hc78
                                        refine lv_iload hx hb dX10_second_236 (lv_at hl 5 rfl) ?_
                                        refine lv_istore_n (lv' := [(3, .int (x6_34)), (11, .int (r77)), (10, .int (x10_113)), (9, .int (1)), (8, .int (v11)), (7, .int (v10)), (6, .int (x6_34)), (5, .int (x5_113)), (4, .int (x4_113)), (0, .ref (ad (1000))), (1, .int (a0)), (2, .int (a1))]) hx hb dX10_second_238 rfl hl (by decide) rfl (fun ls hl => ?_)
                                        refine lv_iload hx hb dX10_second_239 (lv_at hl 2 rfl) ?_
                                        refine lv_istore (lv' := [(4, .int (x10_113)), (3, .int (x6_34)), (11, .int (r77)), (10, .int (x10_113)), (9, .int (1)), (8, .int (v11)), (7, .int (v10)), (6, .int (x6_34)), (5, .int (x5_113)), (0, .ref (ad (1000))), (1, .int (a0)), (2, .int (a1))]) hx hb dX10_second_241 hl (by decide) rfl (fun ls hl => ?_)
                                        refine lv_iload hx hb dX10_second_243 (lv_at hl 2 rfl) ?_
                                        refine lv_istore (lv' := [(5, .int (r77)), (4, .int (x10_113)), (3, .int (x6_34)), (11, .int (r77)), (10, .int (x10_113)), (9, .int (1)), (8, .int (v11)), (7, .int (v10)), (6, .int (x6_34)), (0, .ref (ad (1000))), (1, .int (a0)), (2, .int (a1))]) hx hb dX10_second_245 hl (by decide) rfl (fun ls hl => ?_)
                                        obtain ⟨v79, ev79⟩ : ∃ z : Int32, z = x10_113 + Int32.ofInt (1) := ⟨_, rfl⟩
                                        have tv79 := a_inc ev79 (by decide) (by omega) (by omega)
                                        refine lv_iinc (v := v79) (lv' := [(10, .int (v79)), (5, .int (r77)), (4, .int (x10_113)), (3, .int (x6_34)), (11, .int (r77)), (9, .int (1)), (8, .int (v11)), (7, .int (v10)), (6, .int (x6_34)), (0, .ref (ad (1000))), (1, .int (a0)), (2, .int (a1))]) hx hb dX10_second_247 hl (k := 4) rfl ev79.symm (by decide) rfl (fun ls hl => ?_)
                                        refine lv_goto (tgt := 113) hx hb dX10_second_250 (by decide) ?_
                                        exact ih113 (v79) (r77) (x10_113) (x6_34) I74 L75 _ _ ls hI hK (by first | omega | decide) (ZA.z zt76a) (by omega) hM hS (lv_sub hl [0, 5, 6, 7, 8, 1, 2, 3, 9, 10, 11] rfl)
                                      · have hc78 := c78
                                        have q78 := q_ne hc78
                                        refine lv_iload hx hb dX10_second_229 (lv_at hl 0 rfl) ?_
                                        refine lv_iload hx hb dX10_second_231 (lv_at hl 6 rfl) ?_
                                        refine lv_icmp_le (tgt := 247) hx hb dX10_second_233 (by decide) (fun c80 => ?_) (fun c80 => ?_)
                                        · have hc80 := c80
                                          have q80 := q_le hc80
                                          obtain ⟨v81, ev81⟩ : ∃ z : Int32, z = x10_113 + Int32.ofInt (1) := ⟨_, rfl⟩
                                          have tv81 := a_inc ev81 (by decide) (by omega) (by omega)
                                          refine lv_iinc (v := v81) (lv' := [(10, .int (v81)), (11, .int (r77)), (9, .int (1)), (8, .int (v11)), (7, .int (v10)), (6, .int (x6_34)), (5, .int (x5_113)), (4, .int (x4_113)), (3, .int (x3_113)), (0, .ref (ad (1000))), (1, .int (a0)), (2, .int (a1))]) hx hb dX10_second_247 hl (k := 1) rfl ev81.symm (by decide) rfl (fun ls hl => ?_)
                                          refine lv_goto (tgt := 113) hx hb dX10_second_250 (by decide) ?_
                                          exact ih113 (v81) (x5_113) (x4_113) (x3_113) I74 L75 _ _ ls hI hK (by first | omega | decide) (ZA.z zt76a) (by omega) hM hS (lv_sub hl [0, 2, 3, 4, 5, 6, 7, 8, 9, 10, 11] rfl)
                                        · have hc80 := c80
                                          have q80 := q_nle hc80
                                          refine lv_iload hx hb dX10_second_236 (lv_at hl 5 rfl) ?_
                                          refine lv_istore_n (lv' := [(3, .int (x6_34)), (11, .int (r77)), (10, .int (x10_113)), (9, .int (1)), (8, .int (v11)), (7, .int (v10)), (6, .int (x6_34)), (5, .int (x5_113)), (4, .int (x4_113)), (0, .ref (ad (1000))), (1, .int (a0)), (2, .int (a1))]) hx hb dX10_second_238 rfl hl (by decide) rfl (fun ls hl => ?_)
                                          refine lv_iload hx hb dX10_second_239 (lv_at hl 2 rfl) ?_
                                          refine lv_istore (lv' := [(4, .int (x10_113)), (3, .int (x6_34)), (11, .int (r77)), (10, .int (x10_113)), (9, .int (1)), (8, .int (v11)), (7, .int (v10)), (6, .int (x6_34)), (5, .int (x5_113)), (0, .ref (ad (1000))), (1, .int (a0)), (2, .int (a1))]) hx hb dX10_second_241 hl (by decide) rfl (fun ls hl => ?_)
                                          refine lv_iload hx hb dX10_second_243 (lv_at hl 2 rfl) ?_
                                          refine lv_istore (lv' := [(5, .int (r77)), (4, .int (x10_113)), (3, .int (x6_34)), (11, .int (r77)), (10, .int (x10_113)), (9, .int (1)), (8, .int (v11)), (7, .int (v10)), (6, .int (x6_34)), (0, .ref (ad (1000))), (1, .int (a0)), (2, .int (a1))]) hx hb dX10_second_245 hl (by decide) rfl (fun ls hl => ?_)
                                          obtain ⟨v82, ev82⟩ : ∃ z : Int32, z = x10_113 + Int32.ofInt (1) := ⟨_, rfl⟩
                                          have tv82 := a_inc ev82 (by decide) (by omega) (by omega)
                                          refine lv_iinc (v := v82) (lv' := [(10, .int (v82)), (5, .int (r77)), (4, .int (x10_113)), (3, .int (x6_34)), (11, .int (r77)), (9, .int (1)), (8, .int (v11)), (7, .int (v10)), (6, .int (x6_34)), (0, .ref (ad (1000))), (1, .int (a0)), (2, .int (a1))]) hx hb dX10_second_247 hl (k := 4) rfl ev82.symm (by decide) rfl (fun ls hl => ?_)
                                          refine lv_goto (tgt := 113) hx hb dX10_second_250 (by decide) ?_
                                          exact ih113 (v82) (r77) (x10_113) (x6_34) I74 L75 _ _ ls hI hK (by first | omega | decide) (ZA.z zt76a) (by omega) hM hS (lv_sub hl [0, 5, 6, 7, 8, 1, 2, 3, 9, 10, 11] rfl)
                                    · have hc70 := c70
                                      have q70 := q_nle hc70
                                      refine lv_aload_n hx hb dX10_second_179 rfl (lv_at hl 9 rfl) ?_
                                      refine m_getr (1000) 50 (1050) hx hb hts hown hE oc10 hM hJ.1 rfl (by decide) rfl (hJ.2 50 (by decide)).2 (by decide) tb_1227 dX10_second_180 ?_
                                      refine lv_iload hx hb dX10_second_183 (lv_at hl 0 rfl) ?_
                                      refine lv_iconst (v := (0)) hx hb dX10_second_185 (by decide) ?_
                                      refine m_iast (1050) hx hb hE hM hS (hJ.2 50 (by decide)).1 rfl (vp_in_iff.mpr (by omega)) dX10_second_186 (fun H locs I83 eI83 hM hS => ?_)
                                      subst eI83
                                      have hI := hI.putF (n := 1050) (k := ((x11_172).toNatClampNeg)) (v := 0) rfl
                                      have hK := hK.put (n := 1050) (k := ((x11_172).toNatClampNeg)) (v := 0) (by first | rfl | simp [inR])
                                      have zt84 : Z59 I (u2 Ia172 (1050) ((x11_172).toNatClampNeg) (0)) := zz172.pt (fun z => absurd z.1 (by decide))
                                      obtain ⟨v85, ev85⟩ : ∃ z : Int32, z = x11_172 + Int32.ofInt (1) := ⟨_, rfl⟩
                                      have tv85 := a_inc ev85 (by decide) (by omega) (by omega)
                                      refine lv_iinc (v := v85) (lv' := [(11, .int (v85)), (10, .int (x10_113)), (9, .int (1)), (8, .int (v11)), (7, .int (v10)), (6, .int (x6_34)), (5, .int (x5_113)), (4, .int (x4_113)), (3, .int (x3_113)), (0, .ref (ad (1000))), (1, .int (a0)), (2, .int (a1))]) hx hb dX10_second_187 hl (k := 0) rfl ev85.symm (by decide) rfl (fun ls hl => ?_)
                                      refine lv_goto (tgt := 172) hx hb dX10_second_190 (by decide) ?_
                                      exact ih172 (v85) (u2 Ia172 (1050) ((x11_172).toNatClampNeg) (0)) La172 _ _ ls hI hK (by first | omega | decide) zt84 (by omega) hM hS (lv_sub hl [0, 1, 2, 3, 4, 5, 6, 7, 8, 9, 10, 11] rfl)
                                exact loop172 (_ + 1) (0) Ia113 La113 _ _ ls hI hK (by first | omega | decide) zz113 (Nat.lt_succ_self _) hM hS (lv_sub hl [0, 1, 2, 3, 4, 5, 6, 7, 8, 9, 10, 11] rfl)
                  exact loop113 (_ + 1) (0) (x5_34) (x4_34) (x3_34) Ia34 La34 _ _ ls hI hK (by first | omega | decide) zz34 (Nat.lt_succ_self _) hM hS (lv_sub hl [0, 1, 2, 3, 4, 5, 6, 7, 8, 9, 10] rfl)
                · have hc53 := c53
                  have q53 := q_ne hc53
                  refine lv_iload hx hb dX10_second_77 (lv_at hl 1 rfl) ?_
                  refine lv_aload_n hx hb dX10_second_79 rfl (lv_at hl 6 rfl) ?_
                  refine m_getr (1000) 1 (1001) hx hb hts hown hE oc10 hM hJ.1 rfl (by decide) rfl (hJ.2 1 (by decide)).2 (by decide) tb_1178 dX10_second_80 ?_
                  refine lv_iconst (v := (1)) hx hb dX10_second_83 (by decide) ?_
                  refine m_iald (1001) hx hb hE hM (hJ.2 1 (by decide)).1 rfl (vp_in_iff.mpr (by decide)) dX10_second_84 ?_
                  rw [show (1 : Int32).toNatClampNeg = 1 from rfl]
                  have g86 := hI.get (1001) 1 (lo := 0) (hi := 24) rfl
                  refine lv_iconst (v := (1)) hx hb dX10_second_85 (by decide) ?_
                  refine lv_isub hx hb dX10_second_86 ?_
                  refine lv_topi (fun v87 ev87 => ?_)
                  have tv87 := a_sub ev87 (by omega) (by omega)
                  refine lv_icmp_eq (tgt := 103) hx hb dX10_second_87 (by decide) (fun c88 => ?_) (fun c88 => ?_)
                  · have hc88 := c88
                    have q88 := q_eq hc88
                    refine lv_iconst (v := (1)) hx hb dX10_second_103 (by decide) ?_
                    refine lv_goto (tgt := 108) hx hb dX10_second_104 (by decide) ?_
                    refine lv_istore (lv' := [(9, .int (1)), (8, .int (v11)), (7, .int (v10)), (6, .int (x6_34)), (5, .int (x5_34)), (4, .int (x4_34)), (3, .int (x3_34)), (0, .ref (ad (1000))), (1, .int (a0)), (2, .int (a1))]) hx hb dX10_second_108 hl (by decide) rfl (fun ls hl => ?_)
                    refine lv_iconst (v := (0)) hx hb dX10_second_110 (by decide) ?_
                    refine lv_istore (lv' := [(10, .int (0)), (9, .int (1)), (8, .int (v11)), (7, .int (v10)), (6, .int (x6_34)), (5, .int (x5_34)), (4, .int (x4_34)), (3, .int (x3_34)), (0, .ref (ad (1000))), (1, .int (a0)), (2, .int (a1))]) hx hb dX10_second_111 hl (by decide) rfl (fun ls hl => ?_)
                    have loop113 : ∀ (n : Nat) (x10_113 : Int32) (x5_113 : Int32) (x4_113 : Int32) (x3_113 : Int32) (Ia113 : MI) (La113 : ML) (H : Heap) (locs : List Loc) (ls : Array Slot), INV Ia113 → Kp [(1045, 1051), (1058, 1059), (1061, 1063)] [(1000, 51), (1000, 52), (1000, 53), (1000, 54), (1000, 55), (1000, 56), (1000, 59), (1000, 63)] I Ia113 → (0 ≤ x10_113.toInt ∧ x10_113.toInt ≤ 8) → (Z59 I Ia113) → (8 - x10_113.toInt).toNat < n → Mem D A ad ns Ia113 La113 G H → va_S A s.heap H locs → lv_has ls 12 [(10, .int (x10_113)), (9, .int (1)), (8, .int (v11)), (7, .int (v10)), (6, .int (x6_34)), (5, .int (x5_113)), (4, .int (x4_113)), (3, .int (x3_113)), (0, .ref (ad (1000))), (1, .int (a0)), (2, .int (a1))] → W p l e ({ frames := 4, cells := 0, slots := 0, locals := 106 } : Room) s m args below meth c H locs 0 0 (MQ below (va_Qi (fun r u => ∃ I2 L2, u = (ad, ns, I2, L2, G) ∧ INV I2 ∧ Kp [(1045, 1051), (1058, 1059), (1061, 1063)] [(1000, 51), (1000, 52), (1000, 53), (1000, 54), (1000, 55), (1000, 56), (1000, 59), (1000, 63)] I I2 ∧ (Z59 I I2)) (BM D A) A) args s 0 0 A) (F0 m 113 ls []) := by
                      intro n
                      induction n with
                      | zero =>
                        intro x10_113 x5_113 x4_113 x3_113 Ia113 La113 H locs ls hI hK hr10_113 zz113 hmu
                        exact absurd hmu (Nat.not_lt_zero _)
                      | succ n ih113 =>
                        intro x10_113 x5_113 x4_113 x3_113 Ia113 La113 H locs ls hI hK hr10_113 zz113 hmu113 hM hS hl
                        refine lv_iload hx hb dX10_second_113 (lv_at hl 0 rfl) ?_
                        refine lv_bipush (v := (8)) hx hb dX10_second_115 (by decide) ?_
                        refine lv_icmp_ge (tgt := 253) hx hb dX10_second_117 (by decide) (fun c89 => ?_) (fun c89 => ?_)
                        · have hc89 := c89
                          have q89 := q_le hc89
                          obtain ⟨v90, ev90⟩ : ∃ z : Int32, z = x6_34 + Int32.ofInt (1) := ⟨_, rfl⟩
                          have tv90 := a_inc ev90 (by decide) (by omega) (by omega)
                          refine lv_iinc (v := v90) (lv' := [(6, .int (v90)), (10, .int (x10_113)), (9, .int (1)), (8, .int (v11)), (7, .int (v10)), (5, .int (x5_113)), (4, .int (x4_113)), (3, .int (x3_113)), (0, .ref (ad (1000))), (1, .int (a0)), (2, .int (a1))]) hx hb dX10_second_253 hl (k := 4) rfl ev90.symm (by decide) rfl (fun ls hl => ?_)
                          refine lv_goto (tgt := 34) hx hb dX10_second_256 (by decide) ?_
                          exact ih34 (v90) (x5_113) (x4_113) (x3_113) Ia113 La113 _ _ ls hI hK (by first | omega | decide) zz113 (by omega) hM hS (lv_sub hl [0, 5, 6, 7, 8, 9, 10] rfl)
                        · have hc89 := c89
                          have q89 := q_nle hc89
                          refine lv_iload hx hb dX10_second_120 (lv_at hl 1 rfl) ?_
                          refine lv_if_eq (tgt := 253) hx hb dX10_second_122 (by decide) (fun c91 => ?_) (fun c91 => ?_)
                          · exact absurd c91 (by decide)
                          · have hc91 := c91
                            have q91 := q_ne hc91
                            refine lv_aload_n hx hb dX10_second_125 rfl (lv_at hl 8 rfl) ?_
                            refine m_getr (1000) 2 (1002) hx hb hts hown hE oc10 hM hJ.1 rfl (by decide) rfl (hJ.2 2 (by decide)).2 (by decide) tb_1179 dX10_second_126 ?_
                            refine lv_iload hx hb dX10_second_129 (lv_at hl 4 rfl) ?_
                            refine m_iald (1002) hx hb hE hM (hJ.2 2 (by decide)).1 rfl (vp_in_iff.mpr (by omega)) dX10_second_131 ?_
                            refine lv_if_ne (tgt := 253) hx hb dX10_second_132 (by decide) (fun c92 => ?_) (fun c92 => ?_)
                            · have hc92 := c92
                              have q92 := q_ne hc92
                              obtain ⟨v93, ev93⟩ : ∃ z : Int32, z = x6_34 + Int32.ofInt (1) := ⟨_, rfl⟩
                              have tv93 := a_inc ev93 (by decide) (by omega) (by omega)
                              refine lv_iinc (v := v93) (lv' := [(6, .int (v93)), (10, .int (x10_113)), (9, .int (1)), (8, .int (v11)), (7, .int (v10)), (5, .int (x5_113)), (4, .int (x4_113)), (3, .int (x3_113)), (0, .ref (ad (1000))), (1, .int (a0)), (2, .int (a1))]) hx hb dX10_second_253 hl (k := 4) rfl ev93.symm (by decide) rfl (fun ls hl => ?_)
                              refine lv_goto (tgt := 34) hx hb dX10_second_256 (by decide) ?_
                              exact ih34 (v93) (x5_113) (x4_113) (x3_113) Ia113 La113 _ _ ls hI hK (by first | omega | decide) zz113 (by omega) hM hS (lv_sub hl [0, 5, 6, 7, 8, 9, 10] rfl)
                            · have hc92 := c92
                              have q92 := q_eq hc92
                              refine lv_iload hx hb dX10_second_135 (lv_at hl 4 rfl) ?_
                              refine lv_aload_n hx hb dX10_second_137 rfl (lv_at hl 8 rfl) ?_
                              refine m_getr (1000) 1 (1001) hx hb hts hown hE oc10 hM hJ.1 rfl (by decide) rfl (hJ.2 1 (by decide)).2 (by decide) tb_1178 dX10_second_138 ?_
                              refine lv_iconst (v := (3)) hx hb dX10_second_141 (by decide) ?_
                              refine m_iald (1001) hx hb hE hM (hJ.2 1 (by decide)).1 rfl (vp_in_iff.mpr (by decide)) dX10_second_142 ?_
                              rw [show (3 : Int32).toNatClampNeg = 3 from rfl]
                              refine lv_icmp_eq (tgt := 253) hx hb dX10_second_143 (by decide) (fun c94 => ?_) (fun c94 => ?_)
                              · have hc94 := c94
                                have q94 := q_eq hc94
                                obtain ⟨v95, ev95⟩ : ∃ z : Int32, z = x6_34 + Int32.ofInt (1) := ⟨_, rfl⟩
                                have tv95 := a_inc ev95 (by decide) (by omega) (by omega)
                                refine lv_iinc (v := v95) (lv' := [(6, .int (v95)), (10, .int (x10_113)), (9, .int (1)), (8, .int (v11)), (7, .int (v10)), (5, .int (x5_113)), (4, .int (x4_113)), (3, .int (x3_113)), (0, .ref (ad (1000))), (1, .int (a0)), (2, .int (a1))]) hx hb dX10_second_253 hl (k := 4) rfl ev95.symm (by decide) rfl (fun ls hl => ?_)
                                refine lv_goto (tgt := 34) hx hb dX10_second_256 (by decide) ?_
                                exact ih34 (v95) (x5_113) (x4_113) (x3_113) Ia113 La113 _ _ ls hI hK (by first | omega | decide) zz113 (by omega) hM hS (lv_sub hl [0, 5, 6, 7, 8, 9, 10] rfl)
                              · have hc94 := c94
                                have q94 := q_ne hc94
                                refine lv_aload_n hx hb dX10_second_146 rfl (lv_at hl 8 rfl) ?_
                                refine lv_iload hx hb dX10_second_147 (lv_at hl 3 rfl) ?_
                                refine lv_iload hx hb dX10_second_149 (lv_at hl 0 rfl) ?_
                                refine m_calli (m_runS (As := [.int (x10_113)]) (rest := [.int (v10), .ref (ad (1000))]) hx hb hml hown hts hE hM hS hA ce_X10_stepX tb_1660 (V_X10_stepX l D A ad ns Ia113 La113 G (x10_113) hI) rfl rfl ⟨Nat.le_of_ble_eq_true rfl, Nat.le_of_ble_eq_true rfl⟩  rfl hl.1 rfl (Nat.le_of_ble_eq_true rfl) dX10_second_151 ⟨Nat.le_of_ble_eq_true rfl, Nat.le_of_ble_eq_true rfl⟩) hS (fun r96 u H locs hw hM hS => ?_)
                                obtain ⟨rfl, xr96⟩ := hw
                                have hM : Mem D A ad ns Ia113 La113 G H := hM
                                refine lv_iadd hx hb dX10_second_154 ?_
                                refine lv_topi (fun v97 ev97 => ?_)
                                have tv97 := a_add ev97 (by omega) (by omega)
                                refine lv_iload hx hb dX10_second_155 (lv_at hl 2 rfl) ?_
                                refine lv_iload hx hb dX10_second_157 (lv_at hl 0 rfl) ?_
                                refine m_calli (m_runS (As := [.int (x10_113)]) (rest := [.int (v11), .int (v97), .ref (ad (1000))]) hx hb hml hown hts hE hM hS hA ce_X10_stepY tb_1663 (V_X10_stepY l D A ad ns Ia113 La113 G (x10_113) hI) rfl rfl ⟨Nat.le_of_ble_eq_true rfl, Nat.le_of_ble_eq_true rfl⟩  rfl hl.1 rfl (Nat.le_of_ble_eq_true rfl) dX10_second_159 ⟨Nat.le_of_ble_eq_true rfl, Nat.le_of_ble_eq_true rfl⟩) hS (fun r98 u H locs hw hM hS => ?_)
                                obtain ⟨rfl, xr98⟩ := hw
                                have hM : Mem D A ad ns Ia113 La113 G H := hM
                                refine lv_iadd hx hb dX10_second_162 ?_
                                refine lv_topi (fun v99 ev99 => ?_)
                                have tv99 := a_add ev99 (by omega) (by omega)
                                refine m_calli (m_runV (1000) (As := [.int (v97), .int (v99)]) (rest := []) hx hb hml hown hts hE hM hS hA ce_X10_isCell tb_1437 (V_X10_isCell l D A ad ns Ia113 La113 G (v97) (v99) hJ hI) rfl rfl ⟨Nat.le_of_ble_eq_true rfl, Nat.le_of_ble_eq_true rfl⟩ hJ.1 rfl rfl (by decide) rfl hl.1 rfl (Nat.le_of_ble_eq_true rfl) dX10_second_163 ⟨Nat.le_of_ble_eq_true rfl, Nat.le_of_ble_eq_true rfl⟩) hS (fun r100 u H locs hw hM hS => ?_)
                                obtain ⟨rfl, xr100⟩ := hw
                                have hM : Mem D A ad ns Ia113 La113 G H := hM
                                have yr100 := bo01 xr100
                                have g101 := hI.get 1001 1 (lo := 0) (hi := 24) rfl
                                have g102 := hI.get 1001 2 (lo := 0) (hi := 24) rfl
                                refine lv_if_eq (tgt := 247) hx hb dX10_second_166 (by decide) (fun c103 => ?_) (fun c103 => ?_)
                                · have hc103 := c103
                                  have q103 := xr100.f hc103
                                  obtain ⟨v104, ev104⟩ : ∃ z : Int32, z = x10_113 + Int32.ofInt (1) := ⟨_, rfl⟩
                                  have tv104 := a_inc ev104 (by decide) (by omega) (by omega)
                                  refine lv_iinc (v := v104) (lv' := [(10, .int (v104)), (9, .int (1)), (8, .int (v11)), (7, .int (v10)), (6, .int (x6_34)), (5, .int (x5_113)), (4, .int (x4_113)), (3, .int (x3_113)), (0, .ref (ad (1000))), (1, .int (a0)), (2, .int (a1))]) hx hb dX10_second_247 hl (k := 0) rfl ev104.symm (by decide) rfl (fun ls hl => ?_)
                                  refine lv_goto (tgt := 113) hx hb dX10_second_250 (by decide) ?_
                                  exact ih113 (v104) (x5_113) (x4_113) (x3_113) Ia113 La113 _ _ ls hI hK (by first | omega | decide) zz113 (by omega) hM hS (lv_sub hl [0, 1, 2, 3, 4, 5, 6, 7, 8, 9, 10] rfl)
                                · have hc103 := c103
                                  have q103 := xr100.t hc103
                                  refine lv_iconst (v := (0)) hx hb dX10_second_169 (by decide) ?_
                                  refine lv_istore (lv' := [(11, .int (0)), (10, .int (x10_113)), (9, .int (1)), (8, .int (v11)), (7, .int (v10)), (6, .int (x6_34)), (5, .int (x5_113)), (4, .int (x4_113)), (3, .int (x3_113)), (0, .ref (ad (1000))), (1, .int (a0)), (2, .int (a1))]) hx hb dX10_second_170 hl (by decide) rfl (fun ls hl => ?_)
                                  have loop172 : ∀ (n : Nat) (x11_172 : Int32) (Ia172 : MI) (La172 : ML) (H : Heap) (locs : List Loc) (ls : Array Slot), INV Ia172 → Kp [(1045, 1051), (1058, 1059), (1061, 1063)] [(1000, 51), (1000, 52), (1000, 53), (1000, 54), (1000, 55), (1000, 56), (1000, 59), (1000, 63)] I Ia172 → (0 ≤ x11_172.toInt ∧ x11_172.toInt ≤ 8) → (Z59 I Ia172) → (8 - x11_172.toInt).toNat < n → Mem D A ad ns Ia172 La172 G H → va_S A s.heap H locs → lv_has ls 12 [(11, .int (x11_172)), (10, .int (x10_113)), (9, .int (1)), (8, .int (v11)), (7, .int (v10)), (6, .int (x6_34)), (5, .int (x5_113)), (4, .int (x4_113)), (3, .int (x3_113)), (0, .ref (ad (1000))), (1, .int (a0)), (2, .int (a1))] → W p l e ({ frames := 4, cells := 0, slots := 0, locals := 106 } : Room) s m args below meth c H locs 0 0 (MQ below (va_Qi (fun r u => ∃ I2 L2, u = (ad, ns, I2, L2, G) ∧ INV I2 ∧ Kp [(1045, 1051), (1058, 1059), (1061, 1063)] [(1000, 51), (1000, 52), (1000, 53), (1000, 54), (1000, 55), (1000, 56), (1000, 59), (1000, 63)] I I2 ∧ (Z59 I I2)) (BM D A) A) args s 0 0 A) (F0 m 172 ls []) := by
                                    intro n
                                    induction n with
                                    | zero =>
                                      intro x11_172 Ia172 La172 H locs ls hI hK hr11_172 zz172 hmu
                                      exact absurd hmu (Nat.not_lt_zero _)
                                    | succ n ih172 =>
                                      intro x11_172 Ia172 La172 H locs ls hI hK hr11_172 zz172 hmu172 hM hS hl
                                      refine lv_iload hx hb dX10_second_172 (lv_at hl 0 rfl) ?_
                                      refine lv_bipush (v := (8)) hx hb dX10_second_174 (by decide) ?_
                                      refine lv_icmp_ge (tgt := 193) hx hb dX10_second_176 (by decide) (fun c105 => ?_) (fun c105 => ?_)
                                      · have hc105 := c105
                                        have q105 := q_le hc105
                                        refine lv_aload_n hx hb dX10_second_193 rfl (lv_at hl 9 rfl) ?_
                                        refine lv_iload hx hb dX10_second_194 (lv_at hl 5 rfl) ?_
                                        refine lv_iload hx hb dX10_second_196 (lv_at hl 1 rfl) ?_
                                        refine lv_aload_n hx hb dX10_second_198 rfl (lv_at hl 9 rfl) ?_
                                        refine m_getr (1000) 5 (1005) hx hb hts hown hE oc10 hM hJ.1 rfl (by decide) rfl (hJ.2 5 (by decide)).2 (by decide) tb_1182 dX10_second_199 ?_
                                        refine lv_bipush (v := (24)) hx hb dX10_second_202 (by decide) ?_
                                        refine lv_aload_n hx hb dX10_second_204 rfl (lv_at hl 9 rfl) ?_
                                        refine m_getr (1000) 1 (1001) hx hb hts hown hE oc10 hM hJ.1 rfl (by decide) rfl (hJ.2 1 (by decide)).2 (by decide) tb_1178 dX10_second_205 ?_
                                        refine lv_iconst (v := (5)) hx hb dX10_second_208 (by decide) ?_
                                        refine m_iald (1001) hx hb hE hM (hJ.2 1 (by decide)).1 rfl (vp_in_iff.mpr (by decide)) dX10_second_209 ?_
                                        rw [show (5 : Int32).toNatClampNeg = 5 from rfl]
                                        have g106 := hI.get (1001) 5 (lo := 0) (hi := 11) rfl
                                        refine lv_imul hx hb dX10_second_210 ?_
                                        refine lv_topi (fun v107 ev107 => ?_)
                                        have tv107 := a_mulL (c := 24) ev107 (by decide) (by omega) (by omega)
                                        refine lv_iload_n hx hb dX10_second_211 rfl (lv_at hl 10 rfl) ?_
                                        refine lv_iadd hx hb dX10_second_212 ?_
                                        refine lv_topi (fun v108 ev108 => ?_)
                                        have tv108 := a_add ev108 (by omega) (by omega)
                                        refine m_iald (1005) hx hb hE hM (hJ.2 5 (by decide)).1 rfl (vp_in_iff.mpr (by omega)) dX10_second_213 ?_
                                        refine m_callv (m_runV (1000) (As := [.int (x6_34), .int (x10_113), .int (Ia172 (1005) (v108).toNatClampNeg)]) (rest := []) hx hb hml hown hts hE hM hS hA ce_X10_traces tb_1644 (V_X10_traces_z l D A ad ns Ia172 La172 G (x6_34) (x10_113) (Ia172 (1005) (v108).toNatClampNeg) hJ hI) rfl rfl ⟨Nat.le_of_ble_eq_true rfl, Nat.le_of_ble_eq_true rfl⟩ hJ.1 rfl rfl (by decide) rfl hl.1 rfl (Nat.le_of_ble_eq_true rfl) dX10_second_214 ⟨Nat.le_of_ble_eq_true rfl, Nat.le_of_ble_eq_true rfl⟩) hS (fun u H locs hw hM hS => ?_)
                                        obtain ⟨I109, L110, rfl, hI, hkI109, xI109⟩ := hw
                                        have hM : Mem D A ad ns I109 L110 G H := hM
                                        have hK := hK.trans hkI109 rfl
                                        have zI109 := xI109
                                        have zt111a : ZA I109 := zI109
                                        refine lv_aload_n hx hb dX10_second_217 rfl (lv_at hl 9 rfl) ?_
                                        refine m_calli (m_runV (1000) (As := []) (rest := []) hx hb hml hown hts hE hM hS hA ce_X10_allGot tb_1707 (V_X10_allGot l D A ad ns I109 L110 G hJ hI) rfl rfl ⟨Nat.le_of_ble_eq_true rfl, Nat.le_of_ble_eq_true rfl⟩ hJ.1 rfl rfl (by decide) rfl hl.1 rfl (Nat.le_of_ble_eq_true rfl) dX10_second_218 ⟨Nat.le_of_ble_eq_true rfl, Nat.le_of_ble_eq_true rfl⟩) hS (fun r112 u H locs hw hM hS => ?_)
                                        obtain ⟨rfl, xr112⟩ := hw
                                        have hM : Mem D A ad ns I109 L110 G H := hM
                                        refine lv_istore (lv' := [(11, .int (r112)), (10, .int (x10_113)), (9, .int (1)), (8, .int (v11)), (7, .int (v10)), (6, .int (x6_34)), (5, .int (x5_113)), (4, .int (x4_113)), (3, .int (x3_113)), (0, .ref (ad (1000))), (1, .int (a0)), (2, .int (a1))]) hx hb dX10_second_221 hl (by decide) rfl (fun ls hl => ?_)
                                        refine lv_iload_n hx hb dX10_second_223 rfl (lv_at hl 8 rfl) ?_
                                        refine lv_bipush (v := (-2)) hx hb dX10_second_224 (by decide) ?_
                                        refine lv_icmp_eq (tgt := 236) hx hb dX10_second_226 (by decide) (fun c113 => ?_) (fun c113 => ?_)
                                        · have hc113 := c113
                                          have q113 := q_eq hc113
                                          refine lv_iload hx hb dX10_second_236 (lv_at hl 5 rfl) ?_
                                          refine lv_istore_n (lv' := [(3, .int (x6_34)), (11, .int (r112)), (10, .int (x10_113)), (9, .int (1)), (8, .int (v11)), (7, .int (v10)), (6, .int (x6_34)), (5, .int (x5_113)), (4, .int (x4_113)), (0, .ref (ad (1000))), (1, .int (a0)), (2, .int (a1))]) hx hb dX10_second_238 rfl hl (by decide) rfl (fun ls hl => ?_)
                                          refine lv_iload hx hb dX10_second_239 (lv_at hl 2 rfl) ?_
                                          refine lv_istore (lv' := [(4, .int (x10_113)), (3, .int (x6_34)), (11, .int (r112)), (10, .int (x10_113)), (9, .int (1)), (8, .int (v11)), (7, .int (v10)), (6, .int (x6_34)), (5, .int (x5_113)), (0, .ref (ad (1000))), (1, .int (a0)), (2, .int (a1))]) hx hb dX10_second_241 hl (by decide) rfl (fun ls hl => ?_)
                                          refine lv_iload hx hb dX10_second_243 (lv_at hl 2 rfl) ?_
                                          refine lv_istore (lv' := [(5, .int (r112)), (4, .int (x10_113)), (3, .int (x6_34)), (11, .int (r112)), (10, .int (x10_113)), (9, .int (1)), (8, .int (v11)), (7, .int (v10)), (6, .int (x6_34)), (0, .ref (ad (1000))), (1, .int (a0)), (2, .int (a1))]) hx hb dX10_second_245 hl (by decide) rfl (fun ls hl => ?_)
                                          obtain ⟨v114, ev114⟩ : ∃ z : Int32, z = x10_113 + Int32.ofInt (1) := ⟨_, rfl⟩
                                          have tv114 := a_inc ev114 (by decide) (by omega) (by omega)
                                          refine lv_iinc (v := v114) (lv' := [(10, .int (v114)), (5, .int (r112)), (4, .int (x10_113)), (3, .int (x6_34)), (11, .int (r112)), (9, .int (1)), (8, .int (v11)), (7, .int (v10)), (6, .int (x6_34)), (0, .ref (ad (1000))), (1, .int (a0)), (2, .int (a1))]) hx hb dX10_second_247 hl (k := 4) rfl ev114.symm (by decide) rfl (fun ls hl => ?_)
                                          refine lv_goto (tgt := 113) hx hb dX10_second_250 (by decide) ?_
                                          exact ih113 (v114) (r112) (x10_113) (x6_34) I109 L110 _ _ ls hI hK (by first | omega | decide) (ZA.z zt111a) (by omega) hM hS (lv_sub hl [0, 5, 6, 7, 8, 1, 2, 3, 9, 10, 11] rfl)
                                        · have hc113 := c113
                                          have q113 := q_ne hc113
                                          refine lv_iload hx hb dX10_second_229 (lv_at hl 0 rfl) ?_
                                          refine lv_iload hx hb dX10_second_231 (lv_at hl 6 rfl) ?_
                                          refine lv_icmp_le (tgt := 247) hx hb dX10_second_233 (by decide) (fun c115 => ?_) (fun c115 => ?_)
                                          · have hc115 := c115
                                            have q115 := q_le hc115
                                            obtain ⟨v116, ev116⟩ : ∃ z : Int32, z = x10_113 + Int32.ofInt (1) := ⟨_, rfl⟩
                                            have tv116 := a_inc ev116 (by decide) (by omega) (by omega)
                                            refine lv_iinc (v := v116) (lv' := [(10, .int (v116)), (11, .int (r112)), (9, .int (1)), (8, .int (v11)), (7, .int (v10)), (6, .int (x6_34)), (5, .int (x5_113)), (4, .int (x4_113)), (3, .int (x3_113)), (0, .ref (ad (1000))), (1, .int (a0)), (2, .int (a1))]) hx hb dX10_second_247 hl (k := 1) rfl ev116.symm (by decide) rfl (fun ls hl => ?_)
                                            refine lv_goto (tgt := 113) hx hb dX10_second_250 (by decide) ?_
                                            exact ih113 (v116) (x5_113) (x4_113) (x3_113) I109 L110 _ _ ls hI hK (by first | omega | decide) (ZA.z zt111a) (by omega) hM hS (lv_sub hl [0, 2, 3, 4, 5, 6, 7, 8, 9, 10, 11] rfl)
                                          · have hc115 := c115
                                            have q115 := q_nle hc115
                                            refine lv_iload hx hb dX10_second_236 (lv_at hl 5 rfl) ?_
                                            refine lv_istore_n (lv' := [(3, .int (x6_34)), (11, .int (r112)), (10, .int (x10_113)), (9, .int (1)), (8, .int (v11)), (7, .int (v10)), (6, .int (x6_34)), (5, .int (x5_113)), (4, .int (x4_113)), (0, .ref (ad (1000))), (1, .int (a0)), (2, .int (a1))]) hx hb dX10_second_238 rfl hl (by decide) rfl (fun ls hl => ?_)
                                            refine lv_iload hx hb dX10_second_239 (lv_at hl 2 rfl) ?_
                                            refine lv_istore (lv' := [(4, .int (x10_113)), (3, .int (x6_34)), (11, .int (r112)), (10, .int (x10_113)), (9, .int (1)), (8, .int (v11)), (7, .int (v10)), (6, .int (x6_34)), (5, .int (x5_113)), (0, .ref (ad (1000))), (1, .int (a0)), (2, .int (a1))]) hx hb dX10_second_241 hl (by decide) rfl (fun ls hl => ?_)
                                            refine lv_iload hx hb dX10_second_243 (lv_at hl 2 rfl) ?_
                                            refine lv_istore (lv' := [(5, .int (r112)), (4, .int (x10_113)), (3, .int (x6_34)), (11, .int (r112)), (10, .int (x10_113)), (9, .int (1)), (8, .int (v11)), (7, .int (v10)), (6, .int (x6_34)), (0, .ref (ad (1000))), (1, .int (a0)), (2, .int (a1))]) hx hb dX10_second_245 hl (by decide) rfl (fun ls hl => ?_)
                                            obtain ⟨v117, ev117⟩ : ∃ z : Int32, z = x10_113 + Int32.ofInt (1) := ⟨_, rfl⟩
                                            have tv117 := a_inc ev117 (by decide) (by omega) (by omega)
                                            refine lv_iinc (v := v117) (lv' := [(10, .int (v117)), (5, .int (r112)), (4, .int (x10_113)), (3, .int (x6_34)), (11, .int (r112)), (9, .int (1)), (8, .int (v11)), (7, .int (v10)), (6, .int (x6_34)), (0, .ref (ad (1000))), (1, .int (a0)), (2, .int (a1))]) hx hb dX10_second_247 hl (k := 4) rfl ev117.symm (by decide) rfl (fun ls hl => ?_)
                                            refine lv_goto (tgt := 113) hx hb dX10_second_250 (by decide) ?_
                                            exact ih113 (v117) (r112) (x10_113) (x6_34) I109 L110 _ _ ls hI hK (by first | omega | decide) (ZA.z zt111a) (by omega) hM hS (lv_sub hl [0, 5, 6, 7, 8, 1, 2, 3, 9, 10, 11] rfl)
                                      · have hc105 := c105
                                        have q105 := q_nle hc105
                                        refine lv_aload_n hx hb dX10_second_179 rfl (lv_at hl 9 rfl) ?_
                                        refine m_getr (1000) 50 (1050) hx hb hts hown hE oc10 hM hJ.1 rfl (by decide) rfl (hJ.2 50 (by decide)).2 (by decide) tb_1227 dX10_second_180 ?_
                                        refine lv_iload hx hb dX10_second_183 (lv_at hl 0 rfl) ?_
                                        refine lv_iconst (v := (0)) hx hb dX10_second_185 (by decide) ?_
                                        refine m_iast (1050) hx hb hE hM hS (hJ.2 50 (by decide)).1 rfl (vp_in_iff.mpr (by omega)) dX10_second_186 (fun H locs I118 eI118 hM hS => ?_)
                                        subst eI118
                                        have hI := hI.putF (n := 1050) (k := ((x11_172).toNatClampNeg)) (v := 0) rfl
                                        have hK := hK.put (n := 1050) (k := ((x11_172).toNatClampNeg)) (v := 0) (by first | rfl | simp [inR])
                                        have zt119 : Z59 I (u2 Ia172 (1050) ((x11_172).toNatClampNeg) (0)) := zz172.pt (fun z => absurd z.1 (by decide))
                                        obtain ⟨v120, ev120⟩ : ∃ z : Int32, z = x11_172 + Int32.ofInt (1) := ⟨_, rfl⟩
                                        have tv120 := a_inc ev120 (by decide) (by omega) (by omega)
                                        refine lv_iinc (v := v120) (lv' := [(11, .int (v120)), (10, .int (x10_113)), (9, .int (1)), (8, .int (v11)), (7, .int (v10)), (6, .int (x6_34)), (5, .int (x5_113)), (4, .int (x4_113)), (3, .int (x3_113)), (0, .ref (ad (1000))), (1, .int (a0)), (2, .int (a1))]) hx hb dX10_second_187 hl (k := 0) rfl ev120.symm (by decide) rfl (fun ls hl => ?_)
                                        refine lv_goto (tgt := 172) hx hb dX10_second_190 (by decide) ?_
                                        exact ih172 (v120) (u2 Ia172 (1050) ((x11_172).toNatClampNeg) (0)) La172 _ _ ls hI hK (by first | omega | decide) zt119 (by omega) hM hS (lv_sub hl [0, 1, 2, 3, 4, 5, 6, 7, 8, 9, 10, 11] rfl)
                                  exact loop172 (_ + 1) (0) Ia113 La113 _ _ ls hI hK (by first | omega | decide) zz113 (Nat.lt_succ_self _) hM hS (lv_sub hl [0, 1, 2, 3, 4, 5, 6, 7, 8, 9, 10, 11] rfl)
                    exact loop113 (_ + 1) (0) (x5_34) (x4_34) (x3_34) Ia34 La34 _ _ ls hI hK (by first | omega | decide) zz34 (Nat.lt_succ_self _) hM hS (lv_sub hl [0, 1, 2, 3, 4, 5, 6, 7, 8, 9, 10] rfl)
                  · have hc88 := c88
                    have q88 := q_ne hc88
                    refine lv_iload hx hb dX10_second_90 (lv_at hl 0 rfl) ?_
                    refine lv_aload_n hx hb dX10_second_92 rfl (lv_at hl 6 rfl) ?_
                    refine m_getr (1000) 1 (1001) hx hb hts hown hE oc10 hM hJ.1 rfl (by decide) rfl (hJ.2 1 (by decide)).2 (by decide) tb_1178 dX10_second_93 ?_
                    refine lv_iconst (v := (2)) hx hb dX10_second_96 (by decide) ?_
                    refine m_iald (1001) hx hb hE hM (hJ.2 1 (by decide)).1 rfl (vp_in_iff.mpr (by decide)) dX10_second_97 ?_
                    rw [show (2 : Int32).toNatClampNeg = 2 from rfl]
                    have g121 := hI.get (1001) 2 (lo := 0) (hi := 24) rfl
                    refine lv_iconst (v := (1)) hx hb dX10_second_98 (by decide) ?_
                    refine lv_isub hx hb dX10_second_99 ?_
                    refine lv_topi (fun v122 ev122 => ?_)
                    have tv122 := a_sub ev122 (by omega) (by omega)
                    refine lv_icmp_ne (tgt := 107) hx hb dX10_second_100 (by decide) (fun c123 => ?_) (fun c123 => ?_)
                    · have hc123 := c123
                      have q123 := q_ne hc123
                      refine lv_iconst (v := (0)) hx hb dX10_second_107 (by decide) ?_
                      refine lv_istore (lv' := [(9, .int (0)), (8, .int (v11)), (7, .int (v10)), (6, .int (x6_34)), (5, .int (x5_34)), (4, .int (x4_34)), (3, .int (x3_34)), (0, .ref (ad (1000))), (1, .int (a0)), (2, .int (a1))]) hx hb dX10_second_108 hl (by decide) rfl (fun ls hl => ?_)
                      refine lv_iconst (v := (0)) hx hb dX10_second_110 (by decide) ?_
                      refine lv_istore (lv' := [(10, .int (0)), (9, .int (0)), (8, .int (v11)), (7, .int (v10)), (6, .int (x6_34)), (5, .int (x5_34)), (4, .int (x4_34)), (3, .int (x3_34)), (0, .ref (ad (1000))), (1, .int (a0)), (2, .int (a1))]) hx hb dX10_second_111 hl (by decide) rfl (fun ls hl => ?_)
                      have loop113 : ∀ (n : Nat) (x10_113 : Int32) (x5_113 : Int32) (x4_113 : Int32) (x3_113 : Int32) (Ia113 : MI) (La113 : ML) (H : Heap) (locs : List Loc) (ls : Array Slot), INV Ia113 → Kp [(1045, 1051), (1058, 1059), (1061, 1063)] [(1000, 51), (1000, 52), (1000, 53), (1000, 54), (1000, 55), (1000, 56), (1000, 59), (1000, 63)] I Ia113 → (0 ≤ x10_113.toInt ∧ x10_113.toInt ≤ 8) → (Z59 I Ia113) → (8 - x10_113.toInt).toNat < n → Mem D A ad ns Ia113 La113 G H → va_S A s.heap H locs → lv_has ls 12 [(10, .int (x10_113)), (9, .int (0)), (8, .int (v11)), (7, .int (v10)), (6, .int (x6_34)), (5, .int (x5_113)), (4, .int (x4_113)), (3, .int (x3_113)), (0, .ref (ad (1000))), (1, .int (a0)), (2, .int (a1))] → W p l e ({ frames := 4, cells := 0, slots := 0, locals := 106 } : Room) s m args below meth c H locs 0 0 (MQ below (va_Qi (fun r u => ∃ I2 L2, u = (ad, ns, I2, L2, G) ∧ INV I2 ∧ Kp [(1045, 1051), (1058, 1059), (1061, 1063)] [(1000, 51), (1000, 52), (1000, 53), (1000, 54), (1000, 55), (1000, 56), (1000, 59), (1000, 63)] I I2 ∧ (Z59 I I2)) (BM D A) A) args s 0 0 A) (F0 m 113 ls []) := by
                        intro n
                        induction n with
                        | zero =>
                          intro x10_113 x5_113 x4_113 x3_113 Ia113 La113 H locs ls hI hK hr10_113 zz113 hmu
                          exact absurd hmu (Nat.not_lt_zero _)
                        | succ n ih113 =>
                          intro x10_113 x5_113 x4_113 x3_113 Ia113 La113 H locs ls hI hK hr10_113 zz113 hmu113 hM hS hl
                          refine lv_iload hx hb dX10_second_113 (lv_at hl 0 rfl) ?_
                          refine lv_bipush (v := (8)) hx hb dX10_second_115 (by decide) ?_
                          refine lv_icmp_ge (tgt := 253) hx hb dX10_second_117 (by decide) (fun c124 => ?_) (fun c124 => ?_)
                          · have hc124 := c124
                            have q124 := q_le hc124
                            obtain ⟨v125, ev125⟩ : ∃ z : Int32, z = x6_34 + Int32.ofInt (1) := ⟨_, rfl⟩
                            have tv125 := a_inc ev125 (by decide) (by omega) (by omega)
                            refine lv_iinc (v := v125) (lv' := [(6, .int (v125)), (10, .int (x10_113)), (9, .int (0)), (8, .int (v11)), (7, .int (v10)), (5, .int (x5_113)), (4, .int (x4_113)), (3, .int (x3_113)), (0, .ref (ad (1000))), (1, .int (a0)), (2, .int (a1))]) hx hb dX10_second_253 hl (k := 4) rfl ev125.symm (by decide) rfl (fun ls hl => ?_)
                            refine lv_goto (tgt := 34) hx hb dX10_second_256 (by decide) ?_
                            exact ih34 (v125) (x5_113) (x4_113) (x3_113) Ia113 La113 _ _ ls hI hK (by first | omega | decide) zz113 (by omega) hM hS (lv_sub hl [0, 5, 6, 7, 8, 9, 10] rfl)
                          · have hc124 := c124
                            have q124 := q_nle hc124
                            refine lv_iload hx hb dX10_second_120 (lv_at hl 1 rfl) ?_
                            refine lv_if_eq (tgt := 253) hx hb dX10_second_122 (by decide) (fun c126 => ?_) (fun c126 => ?_)
                            · have hc126 := c126
                              have q126 := q_eq hc126
                              obtain ⟨v127, ev127⟩ : ∃ z : Int32, z = x6_34 + Int32.ofInt (1) := ⟨_, rfl⟩
                              have tv127 := a_inc ev127 (by decide) (by omega) (by omega)
                              refine lv_iinc (v := v127) (lv' := [(6, .int (v127)), (10, .int (x10_113)), (9, .int (0)), (8, .int (v11)), (7, .int (v10)), (5, .int (x5_113)), (4, .int (x4_113)), (3, .int (x3_113)), (0, .ref (ad (1000))), (1, .int (a0)), (2, .int (a1))]) hx hb dX10_second_253 hl (k := 4) rfl ev127.symm (by decide) rfl (fun ls hl => ?_)
                              refine lv_goto (tgt := 34) hx hb dX10_second_256 (by decide) ?_
                              exact ih34 (v127) (x5_113) (x4_113) (x3_113) Ia113 La113 _ _ ls hI hK (by first | omega | decide) zz113 (by omega) hM hS (lv_sub hl [0, 5, 6, 7, 8, 9, 10] rfl)
                            · exact absurd c126 (by decide)
                      exact loop113 (_ + 1) (0) (x5_34) (x4_34) (x3_34) Ia34 La34 _ _ ls hI hK (by first | omega | decide) zz34 (Nat.lt_succ_self _) hM hS (lv_sub hl [0, 1, 2, 3, 4, 5, 6, 7, 8, 9, 10] rfl)
                    · have hc123 := c123
                      have q123 := q_eq hc123
                      refine lv_iconst (v := (1)) hx hb dX10_second_103 (by decide) ?_
                      refine lv_goto (tgt := 108) hx hb dX10_second_104 (by decide) ?_
                      refine lv_istore (lv' := [(9, .int (1)), (8, .int (v11)), (7, .int (v10)), (6, .int (x6_34)), (5, .int (x5_34)), (4, .int (x4_34)), (3, .int (x3_34)), (0, .ref (ad (1000))), (1, .int (a0)), (2, .int (a1))]) hx hb dX10_second_108 hl (by decide) rfl (fun ls hl => ?_)
                      refine lv_iconst (v := (0)) hx hb dX10_second_110 (by decide) ?_
                      refine lv_istore (lv' := [(10, .int (0)), (9, .int (1)), (8, .int (v11)), (7, .int (v10)), (6, .int (x6_34)), (5, .int (x5_34)), (4, .int (x4_34)), (3, .int (x3_34)), (0, .ref (ad (1000))), (1, .int (a0)), (2, .int (a1))]) hx hb dX10_second_111 hl (by decide) rfl (fun ls hl => ?_)
                      have loop113 : ∀ (n : Nat) (x10_113 : Int32) (x5_113 : Int32) (x4_113 : Int32) (x3_113 : Int32) (Ia113 : MI) (La113 : ML) (H : Heap) (locs : List Loc) (ls : Array Slot), INV Ia113 → Kp [(1045, 1051), (1058, 1059), (1061, 1063)] [(1000, 51), (1000, 52), (1000, 53), (1000, 54), (1000, 55), (1000, 56), (1000, 59), (1000, 63)] I Ia113 → (0 ≤ x10_113.toInt ∧ x10_113.toInt ≤ 8) → (Z59 I Ia113) → (8 - x10_113.toInt).toNat < n → Mem D A ad ns Ia113 La113 G H → va_S A s.heap H locs → lv_has ls 12 [(10, .int (x10_113)), (9, .int (1)), (8, .int (v11)), (7, .int (v10)), (6, .int (x6_34)), (5, .int (x5_113)), (4, .int (x4_113)), (3, .int (x3_113)), (0, .ref (ad (1000))), (1, .int (a0)), (2, .int (a1))] → W p l e ({ frames := 4, cells := 0, slots := 0, locals := 106 } : Room) s m args below meth c H locs 0 0 (MQ below (va_Qi (fun r u => ∃ I2 L2, u = (ad, ns, I2, L2, G) ∧ INV I2 ∧ Kp [(1045, 1051), (1058, 1059), (1061, 1063)] [(1000, 51), (1000, 52), (1000, 53), (1000, 54), (1000, 55), (1000, 56), (1000, 59), (1000, 63)] I I2 ∧ (Z59 I I2)) (BM D A) A) args s 0 0 A) (F0 m 113 ls []) := by
                        intro n
                        induction n with
                        | zero =>
                          intro x10_113 x5_113 x4_113 x3_113 Ia113 La113 H locs ls hI hK hr10_113 zz113 hmu
                          exact absurd hmu (Nat.not_lt_zero _)
                        | succ n ih113 =>
                          intro x10_113 x5_113 x4_113 x3_113 Ia113 La113 H locs ls hI hK hr10_113 zz113 hmu113 hM hS hl
                          refine lv_iload hx hb dX10_second_113 (lv_at hl 0 rfl) ?_
                          refine lv_bipush (v := (8)) hx hb dX10_second_115 (by decide) ?_
                          refine lv_icmp_ge (tgt := 253) hx hb dX10_second_117 (by decide) (fun c128 => ?_) (fun c128 => ?_)
                          · have hc128 := c128
                            have q128 := q_le hc128
                            obtain ⟨v129, ev129⟩ : ∃ z : Int32, z = x6_34 + Int32.ofInt (1) := ⟨_, rfl⟩
                            have tv129 := a_inc ev129 (by decide) (by omega) (by omega)
                            refine lv_iinc (v := v129) (lv' := [(6, .int (v129)), (10, .int (x10_113)), (9, .int (1)), (8, .int (v11)), (7, .int (v10)), (5, .int (x5_113)), (4, .int (x4_113)), (3, .int (x3_113)), (0, .ref (ad (1000))), (1, .int (a0)), (2, .int (a1))]) hx hb dX10_second_253 hl (k := 4) rfl ev129.symm (by decide) rfl (fun ls hl => ?_)
                            refine lv_goto (tgt := 34) hx hb dX10_second_256 (by decide) ?_
                            exact ih34 (v129) (x5_113) (x4_113) (x3_113) Ia113 La113 _ _ ls hI hK (by first | omega | decide) zz113 (by omega) hM hS (lv_sub hl [0, 5, 6, 7, 8, 9, 10] rfl)
                          · have hc128 := c128
                            have q128 := q_nle hc128
                            refine lv_iload hx hb dX10_second_120 (lv_at hl 1 rfl) ?_
                            refine lv_if_eq (tgt := 253) hx hb dX10_second_122 (by decide) (fun c130 => ?_) (fun c130 => ?_)
                            · exact absurd c130 (by decide)
                            · have hc130 := c130
                              have q130 := q_ne hc130
                              refine lv_aload_n hx hb dX10_second_125 rfl (lv_at hl 8 rfl) ?_
                              refine m_getr (1000) 2 (1002) hx hb hts hown hE oc10 hM hJ.1 rfl (by decide) rfl (hJ.2 2 (by decide)).2 (by decide) tb_1179 dX10_second_126 ?_
                              refine lv_iload hx hb dX10_second_129 (lv_at hl 4 rfl) ?_
                              refine m_iald (1002) hx hb hE hM (hJ.2 2 (by decide)).1 rfl (vp_in_iff.mpr (by omega)) dX10_second_131 ?_
                              refine lv_if_ne (tgt := 253) hx hb dX10_second_132 (by decide) (fun c131 => ?_) (fun c131 => ?_)
                              · have hc131 := c131
                                have q131 := q_ne hc131
                                obtain ⟨v132, ev132⟩ : ∃ z : Int32, z = x6_34 + Int32.ofInt (1) := ⟨_, rfl⟩
                                have tv132 := a_inc ev132 (by decide) (by omega) (by omega)
                                refine lv_iinc (v := v132) (lv' := [(6, .int (v132)), (10, .int (x10_113)), (9, .int (1)), (8, .int (v11)), (7, .int (v10)), (5, .int (x5_113)), (4, .int (x4_113)), (3, .int (x3_113)), (0, .ref (ad (1000))), (1, .int (a0)), (2, .int (a1))]) hx hb dX10_second_253 hl (k := 4) rfl ev132.symm (by decide) rfl (fun ls hl => ?_)
                                refine lv_goto (tgt := 34) hx hb dX10_second_256 (by decide) ?_
                                exact ih34 (v132) (x5_113) (x4_113) (x3_113) Ia113 La113 _ _ ls hI hK (by first | omega | decide) zz113 (by omega) hM hS (lv_sub hl [0, 5, 6, 7, 8, 9, 10] rfl)
                              · have hc131 := c131
                                have q131 := q_eq hc131
                                refine lv_iload hx hb dX10_second_135 (lv_at hl 4 rfl) ?_
                                refine lv_aload_n hx hb dX10_second_137 rfl (lv_at hl 8 rfl) ?_
                                refine m_getr (1000) 1 (1001) hx hb hts hown hE oc10 hM hJ.1 rfl (by decide) rfl (hJ.2 1 (by decide)).2 (by decide) tb_1178 dX10_second_138 ?_
                                refine lv_iconst (v := (3)) hx hb dX10_second_141 (by decide) ?_
                                refine m_iald (1001) hx hb hE hM (hJ.2 1 (by decide)).1 rfl (vp_in_iff.mpr (by decide)) dX10_second_142 ?_
                                rw [show (3 : Int32).toNatClampNeg = 3 from rfl]
                                refine lv_icmp_eq (tgt := 253) hx hb dX10_second_143 (by decide) (fun c133 => ?_) (fun c133 => ?_)
                                · have hc133 := c133
                                  have q133 := q_eq hc133
                                  obtain ⟨v134, ev134⟩ : ∃ z : Int32, z = x6_34 + Int32.ofInt (1) := ⟨_, rfl⟩
                                  have tv134 := a_inc ev134 (by decide) (by omega) (by omega)
                                  refine lv_iinc (v := v134) (lv' := [(6, .int (v134)), (10, .int (x10_113)), (9, .int (1)), (8, .int (v11)), (7, .int (v10)), (5, .int (x5_113)), (4, .int (x4_113)), (3, .int (x3_113)), (0, .ref (ad (1000))), (1, .int (a0)), (2, .int (a1))]) hx hb dX10_second_253 hl (k := 4) rfl ev134.symm (by decide) rfl (fun ls hl => ?_)
                                  refine lv_goto (tgt := 34) hx hb dX10_second_256 (by decide) ?_
                                  exact ih34 (v134) (x5_113) (x4_113) (x3_113) Ia113 La113 _ _ ls hI hK (by first | omega | decide) zz113 (by omega) hM hS (lv_sub hl [0, 5, 6, 7, 8, 9, 10] rfl)
                                · have hc133 := c133
                                  have q133 := q_ne hc133
                                  refine lv_aload_n hx hb dX10_second_146 rfl (lv_at hl 8 rfl) ?_
                                  refine lv_iload hx hb dX10_second_147 (lv_at hl 3 rfl) ?_
                                  refine lv_iload hx hb dX10_second_149 (lv_at hl 0 rfl) ?_
                                  refine m_calli (m_runS (As := [.int (x10_113)]) (rest := [.int (v10), .ref (ad (1000))]) hx hb hml hown hts hE hM hS hA ce_X10_stepX tb_1660 (V_X10_stepX l D A ad ns Ia113 La113 G (x10_113) hI) rfl rfl ⟨Nat.le_of_ble_eq_true rfl, Nat.le_of_ble_eq_true rfl⟩  rfl hl.1 rfl (Nat.le_of_ble_eq_true rfl) dX10_second_151 ⟨Nat.le_of_ble_eq_true rfl, Nat.le_of_ble_eq_true rfl⟩) hS (fun r135 u H locs hw hM hS => ?_)
                                  obtain ⟨rfl, xr135⟩ := hw
                                  have hM : Mem D A ad ns Ia113 La113 G H := hM
                                  refine lv_iadd hx hb dX10_second_154 ?_
                                  refine lv_topi (fun v136 ev136 => ?_)
                                  have tv136 := a_add ev136 (by omega) (by omega)
                                  refine lv_iload hx hb dX10_second_155 (lv_at hl 2 rfl) ?_
                                  refine lv_iload hx hb dX10_second_157 (lv_at hl 0 rfl) ?_
                                  refine m_calli (m_runS (As := [.int (x10_113)]) (rest := [.int (v11), .int (v136), .ref (ad (1000))]) hx hb hml hown hts hE hM hS hA ce_X10_stepY tb_1663 (V_X10_stepY l D A ad ns Ia113 La113 G (x10_113) hI) rfl rfl ⟨Nat.le_of_ble_eq_true rfl, Nat.le_of_ble_eq_true rfl⟩  rfl hl.1 rfl (Nat.le_of_ble_eq_true rfl) dX10_second_159 ⟨Nat.le_of_ble_eq_true rfl, Nat.le_of_ble_eq_true rfl⟩) hS (fun r137 u H locs hw hM hS => ?_)
                                  obtain ⟨rfl, xr137⟩ := hw
                                  have hM : Mem D A ad ns Ia113 La113 G H := hM
                                  refine lv_iadd hx hb dX10_second_162 ?_
                                  refine lv_topi (fun v138 ev138 => ?_)
                                  have tv138 := a_add ev138 (by omega) (by omega)
                                  refine m_calli (m_runV (1000) (As := [.int (v136), .int (v138)]) (rest := []) hx hb hml hown hts hE hM hS hA ce_X10_isCell tb_1437 (V_X10_isCell l D A ad ns Ia113 La113 G (v136) (v138) hJ hI) rfl rfl ⟨Nat.le_of_ble_eq_true rfl, Nat.le_of_ble_eq_true rfl⟩ hJ.1 rfl rfl (by decide) rfl hl.1 rfl (Nat.le_of_ble_eq_true rfl) dX10_second_163 ⟨Nat.le_of_ble_eq_true rfl, Nat.le_of_ble_eq_true rfl⟩) hS (fun r139 u H locs hw hM hS => ?_)
                                  obtain ⟨rfl, xr139⟩ := hw
                                  have hM : Mem D A ad ns Ia113 La113 G H := hM
                                  have yr139 := bo01 xr139
                                  have g140 := hI.get 1001 1 (lo := 0) (hi := 24) rfl
                                  have g141 := hI.get 1001 2 (lo := 0) (hi := 24) rfl
                                  refine lv_if_eq (tgt := 247) hx hb dX10_second_166 (by decide) (fun c142 => ?_) (fun c142 => ?_)
                                  · have hc142 := c142
                                    have q142 := xr139.f hc142
                                    obtain ⟨v143, ev143⟩ : ∃ z : Int32, z = x10_113 + Int32.ofInt (1) := ⟨_, rfl⟩
                                    have tv143 := a_inc ev143 (by decide) (by omega) (by omega)
                                    refine lv_iinc (v := v143) (lv' := [(10, .int (v143)), (9, .int (1)), (8, .int (v11)), (7, .int (v10)), (6, .int (x6_34)), (5, .int (x5_113)), (4, .int (x4_113)), (3, .int (x3_113)), (0, .ref (ad (1000))), (1, .int (a0)), (2, .int (a1))]) hx hb dX10_second_247 hl (k := 0) rfl ev143.symm (by decide) rfl (fun ls hl => ?_)
                                    refine lv_goto (tgt := 113) hx hb dX10_second_250 (by decide) ?_
                                    exact ih113 (v143) (x5_113) (x4_113) (x3_113) Ia113 La113 _ _ ls hI hK (by first | omega | decide) zz113 (by omega) hM hS (lv_sub hl [0, 1, 2, 3, 4, 5, 6, 7, 8, 9, 10] rfl)
                                  · have hc142 := c142
                                    have q142 := xr139.t hc142
                                    refine lv_iconst (v := (0)) hx hb dX10_second_169 (by decide) ?_
                                    refine lv_istore (lv' := [(11, .int (0)), (10, .int (x10_113)), (9, .int (1)), (8, .int (v11)), (7, .int (v10)), (6, .int (x6_34)), (5, .int (x5_113)), (4, .int (x4_113)), (3, .int (x3_113)), (0, .ref (ad (1000))), (1, .int (a0)), (2, .int (a1))]) hx hb dX10_second_170 hl (by decide) rfl (fun ls hl => ?_)
                                    have loop172 : ∀ (n : Nat) (x11_172 : Int32) (Ia172 : MI) (La172 : ML) (H : Heap) (locs : List Loc) (ls : Array Slot), INV Ia172 → Kp [(1045, 1051), (1058, 1059), (1061, 1063)] [(1000, 51), (1000, 52), (1000, 53), (1000, 54), (1000, 55), (1000, 56), (1000, 59), (1000, 63)] I Ia172 → (0 ≤ x11_172.toInt ∧ x11_172.toInt ≤ 8) → (Z59 I Ia172) → (8 - x11_172.toInt).toNat < n → Mem D A ad ns Ia172 La172 G H → va_S A s.heap H locs → lv_has ls 12 [(11, .int (x11_172)), (10, .int (x10_113)), (9, .int (1)), (8, .int (v11)), (7, .int (v10)), (6, .int (x6_34)), (5, .int (x5_113)), (4, .int (x4_113)), (3, .int (x3_113)), (0, .ref (ad (1000))), (1, .int (a0)), (2, .int (a1))] → W p l e ({ frames := 4, cells := 0, slots := 0, locals := 106 } : Room) s m args below meth c H locs 0 0 (MQ below (va_Qi (fun r u => ∃ I2 L2, u = (ad, ns, I2, L2, G) ∧ INV I2 ∧ Kp [(1045, 1051), (1058, 1059), (1061, 1063)] [(1000, 51), (1000, 52), (1000, 53), (1000, 54), (1000, 55), (1000, 56), (1000, 59), (1000, 63)] I I2 ∧ (Z59 I I2)) (BM D A) A) args s 0 0 A) (F0 m 172 ls []) := by
                                      intro n
                                      induction n with
                                      | zero =>
                                        intro x11_172 Ia172 La172 H locs ls hI hK hr11_172 zz172 hmu
                                        exact absurd hmu (Nat.not_lt_zero _)
                                      | succ n ih172 =>
                                        intro x11_172 Ia172 La172 H locs ls hI hK hr11_172 zz172 hmu172 hM hS hl
                                        refine lv_iload hx hb dX10_second_172 (lv_at hl 0 rfl) ?_
                                        refine lv_bipush (v := (8)) hx hb dX10_second_174 (by decide) ?_
                                        refine lv_icmp_ge (tgt := 193) hx hb dX10_second_176 (by decide) (fun c144 => ?_) (fun c144 => ?_)
                                        · have hc144 := c144
                                          have q144 := q_le hc144
                                          refine lv_aload_n hx hb dX10_second_193 rfl (lv_at hl 9 rfl) ?_
                                          refine lv_iload hx hb dX10_second_194 (lv_at hl 5 rfl) ?_
                                          refine lv_iload hx hb dX10_second_196 (lv_at hl 1 rfl) ?_
                                          refine lv_aload_n hx hb dX10_second_198 rfl (lv_at hl 9 rfl) ?_
                                          refine m_getr (1000) 5 (1005) hx hb hts hown hE oc10 hM hJ.1 rfl (by decide) rfl (hJ.2 5 (by decide)).2 (by decide) tb_1182 dX10_second_199 ?_
                                          refine lv_bipush (v := (24)) hx hb dX10_second_202 (by decide) ?_
                                          refine lv_aload_n hx hb dX10_second_204 rfl (lv_at hl 9 rfl) ?_
                                          refine m_getr (1000) 1 (1001) hx hb hts hown hE oc10 hM hJ.1 rfl (by decide) rfl (hJ.2 1 (by decide)).2 (by decide) tb_1178 dX10_second_205 ?_
                                          refine lv_iconst (v := (5)) hx hb dX10_second_208 (by decide) ?_
                                          refine m_iald (1001) hx hb hE hM (hJ.2 1 (by decide)).1 rfl (vp_in_iff.mpr (by decide)) dX10_second_209 ?_
                                          rw [show (5 : Int32).toNatClampNeg = 5 from rfl]
                                          have g145 := hI.get (1001) 5 (lo := 0) (hi := 11) rfl
                                          refine lv_imul hx hb dX10_second_210 ?_
                                          refine lv_topi (fun v146 ev146 => ?_)
                                          have tv146 := a_mulL (c := 24) ev146 (by decide) (by omega) (by omega)
                                          refine lv_iload_n hx hb dX10_second_211 rfl (lv_at hl 10 rfl) ?_
                                          refine lv_iadd hx hb dX10_second_212 ?_
                                          refine lv_topi (fun v147 ev147 => ?_)
                                          have tv147 := a_add ev147 (by omega) (by omega)
                                          refine m_iald (1005) hx hb hE hM (hJ.2 5 (by decide)).1 rfl (vp_in_iff.mpr (by omega)) dX10_second_213 ?_
                                          refine m_callv (m_runV (1000) (As := [.int (x6_34), .int (x10_113), .int (Ia172 (1005) (v147).toNatClampNeg)]) (rest := []) hx hb hml hown hts hE hM hS hA ce_X10_traces tb_1644 (V_X10_traces_z l D A ad ns Ia172 La172 G (x6_34) (x10_113) (Ia172 (1005) (v147).toNatClampNeg) hJ hI) rfl rfl ⟨Nat.le_of_ble_eq_true rfl, Nat.le_of_ble_eq_true rfl⟩ hJ.1 rfl rfl (by decide) rfl hl.1 rfl (Nat.le_of_ble_eq_true rfl) dX10_second_214 ⟨Nat.le_of_ble_eq_true rfl, Nat.le_of_ble_eq_true rfl⟩) hS (fun u H locs hw hM hS => ?_)
                                          obtain ⟨I148, L149, rfl, hI, hkI148, xI148⟩ := hw
                                          have hM : Mem D A ad ns I148 L149 G H := hM
                                          have hK := hK.trans hkI148 rfl
                                          have zI148 := xI148
                                          have zt150a : ZA I148 := zI148
                                          refine lv_aload_n hx hb dX10_second_217 rfl (lv_at hl 9 rfl) ?_
                                          refine m_calli (m_runV (1000) (As := []) (rest := []) hx hb hml hown hts hE hM hS hA ce_X10_allGot tb_1707 (V_X10_allGot l D A ad ns I148 L149 G hJ hI) rfl rfl ⟨Nat.le_of_ble_eq_true rfl, Nat.le_of_ble_eq_true rfl⟩ hJ.1 rfl rfl (by decide) rfl hl.1 rfl (Nat.le_of_ble_eq_true rfl) dX10_second_218 ⟨Nat.le_of_ble_eq_true rfl, Nat.le_of_ble_eq_true rfl⟩) hS (fun r151 u H locs hw hM hS => ?_)
                                          obtain ⟨rfl, xr151⟩ := hw
                                          have hM : Mem D A ad ns I148 L149 G H := hM
                                          refine lv_istore (lv' := [(11, .int (r151)), (10, .int (x10_113)), (9, .int (1)), (8, .int (v11)), (7, .int (v10)), (6, .int (x6_34)), (5, .int (x5_113)), (4, .int (x4_113)), (3, .int (x3_113)), (0, .ref (ad (1000))), (1, .int (a0)), (2, .int (a1))]) hx hb dX10_second_221 hl (by decide) rfl (fun ls hl => ?_)
                                          refine lv_iload_n hx hb dX10_second_223 rfl (lv_at hl 8 rfl) ?_
                                          refine lv_bipush (v := (-2)) hx hb dX10_second_224 (by decide) ?_
                                          refine lv_icmp_eq (tgt := 236) hx hb dX10_second_226 (by decide) (fun c152 => ?_) (fun c152 => ?_)
                                          · have hc152 := c152
                                            have q152 := q_eq hc152
                                            refine lv_iload hx hb dX10_second_236 (lv_at hl 5 rfl) ?_
                                            refine lv_istore_n (lv' := [(3, .int (x6_34)), (11, .int (r151)), (10, .int (x10_113)), (9, .int (1)), (8, .int (v11)), (7, .int (v10)), (6, .int (x6_34)), (5, .int (x5_113)), (4, .int (x4_113)), (0, .ref (ad (1000))), (1, .int (a0)), (2, .int (a1))]) hx hb dX10_second_238 rfl hl (by decide) rfl (fun ls hl => ?_)
                                            refine lv_iload hx hb dX10_second_239 (lv_at hl 2 rfl) ?_
                                            refine lv_istore (lv' := [(4, .int (x10_113)), (3, .int (x6_34)), (11, .int (r151)), (10, .int (x10_113)), (9, .int (1)), (8, .int (v11)), (7, .int (v10)), (6, .int (x6_34)), (5, .int (x5_113)), (0, .ref (ad (1000))), (1, .int (a0)), (2, .int (a1))]) hx hb dX10_second_241 hl (by decide) rfl (fun ls hl => ?_)
                                            refine lv_iload hx hb dX10_second_243 (lv_at hl 2 rfl) ?_
                                            refine lv_istore (lv' := [(5, .int (r151)), (4, .int (x10_113)), (3, .int (x6_34)), (11, .int (r151)), (10, .int (x10_113)), (9, .int (1)), (8, .int (v11)), (7, .int (v10)), (6, .int (x6_34)), (0, .ref (ad (1000))), (1, .int (a0)), (2, .int (a1))]) hx hb dX10_second_245 hl (by decide) rfl (fun ls hl => ?_)
                                            obtain ⟨v153, ev153⟩ : ∃ z : Int32, z = x10_113 + Int32.ofInt (1) := ⟨_, rfl⟩
                                            have tv153 := a_inc ev153 (by decide) (by omega) (by omega)
                                            refine lv_iinc (v := v153) (lv' := [(10, .int (v153)), (5, .int (r151)), (4, .int (x10_113)), (3, .int (x6_34)), (11, .int (r151)), (9, .int (1)), (8, .int (v11)), (7, .int (v10)), (6, .int (x6_34)), (0, .ref (ad (1000))), (1, .int (a0)), (2, .int (a1))]) hx hb dX10_second_247 hl (k := 4) rfl ev153.symm (by decide) rfl (fun ls hl => ?_)
                                            refine lv_goto (tgt := 113) hx hb dX10_second_250 (by decide) ?_
                                            exact ih113 (v153) (r151) (x10_113) (x6_34) I148 L149 _ _ ls hI hK (by first | omega | decide) (ZA.z zt150a) (by omega) hM hS (lv_sub hl [0, 5, 6, 7, 8, 1, 2, 3, 9, 10, 11] rfl)
                                          · have hc152 := c152
                                            have q152 := q_ne hc152
                                            refine lv_iload hx hb dX10_second_229 (lv_at hl 0 rfl) ?_
                                            refine lv_iload hx hb dX10_second_231 (lv_at hl 6 rfl) ?_
                                            refine lv_icmp_le (tgt := 247) hx hb dX10_second_233 (by decide) (fun c154 => ?_) (fun c154 => ?_)
                                            · have hc154 := c154
                                              have q154 := q_le hc154
                                              obtain ⟨v155, ev155⟩ : ∃ z : Int32, z = x10_113 + Int32.ofInt (1) := ⟨_, rfl⟩
                                              have tv155 := a_inc ev155 (by decide) (by omega) (by omega)
                                              refine lv_iinc (v := v155) (lv' := [(10, .int (v155)), (11, .int (r151)), (9, .int (1)), (8, .int (v11)), (7, .int (v10)), (6, .int (x6_34)), (5, .int (x5_113)), (4, .int (x4_113)), (3, .int (x3_113)), (0, .ref (ad (1000))), (1, .int (a0)), (2, .int (a1))]) hx hb dX10_second_247 hl (k := 1) rfl ev155.symm (by decide) rfl (fun ls hl => ?_)
                                              refine lv_goto (tgt := 113) hx hb dX10_second_250 (by decide) ?_
                                              exact ih113 (v155) (x5_113) (x4_113) (x3_113) I148 L149 _ _ ls hI hK (by first | omega | decide) (ZA.z zt150a) (by omega) hM hS (lv_sub hl [0, 2, 3, 4, 5, 6, 7, 8, 9, 10, 11] rfl)
                                            · have hc154 := c154
                                              have q154 := q_nle hc154
                                              refine lv_iload hx hb dX10_second_236 (lv_at hl 5 rfl) ?_
                                              refine lv_istore_n (lv' := [(3, .int (x6_34)), (11, .int (r151)), (10, .int (x10_113)), (9, .int (1)), (8, .int (v11)), (7, .int (v10)), (6, .int (x6_34)), (5, .int (x5_113)), (4, .int (x4_113)), (0, .ref (ad (1000))), (1, .int (a0)), (2, .int (a1))]) hx hb dX10_second_238 rfl hl (by decide) rfl (fun ls hl => ?_)
                                              refine lv_iload hx hb dX10_second_239 (lv_at hl 2 rfl) ?_
                                              refine lv_istore (lv' := [(4, .int (x10_113)), (3, .int (x6_34)), (11, .int (r151)), (10, .int (x10_113)), (9, .int (1)), (8, .int (v11)), (7, .int (v10)), (6, .int (x6_34)), (5, .int (x5_113)), (0, .ref (ad (1000))), (1, .int (a0)), (2, .int (a1))]) hx hb dX10_second_241 hl (by decide) rfl (fun ls hl => ?_)
                                              refine lv_iload hx hb dX10_second_243 (lv_at hl 2 rfl) ?_
                                              refine lv_istore (lv' := [(5, .int (r151)), (4, .int (x10_113)), (3, .int (x6_34)), (11, .int (r151)), (10, .int (x10_113)), (9, .int (1)), (8, .int (v11)), (7, .int (v10)), (6, .int (x6_34)), (0, .ref (ad (1000))), (1, .int (a0)), (2, .int (a1))]) hx hb dX10_second_245 hl (by decide) rfl (fun ls hl => ?_)
                                              obtain ⟨v156, ev156⟩ : ∃ z : Int32, z = x10_113 + Int32.ofInt (1) := ⟨_, rfl⟩
                                              have tv156 := a_inc ev156 (by decide) (by omega) (by omega)
                                              refine lv_iinc (v := v156) (lv' := [(10, .int (v156)), (5, .int (r151)), (4, .int (x10_113)), (3, .int (x6_34)), (11, .int (r151)), (9, .int (1)), (8, .int (v11)), (7, .int (v10)), (6, .int (x6_34)), (0, .ref (ad (1000))), (1, .int (a0)), (2, .int (a1))]) hx hb dX10_second_247 hl (k := 4) rfl ev156.symm (by decide) rfl (fun ls hl => ?_)
                                              refine lv_goto (tgt := 113) hx hb dX10_second_250 (by decide) ?_
                                              exact ih113 (v156) (r151) (x10_113) (x6_34) I148 L149 _ _ ls hI hK (by first | omega | decide) (ZA.z zt150a) (by omega) hM hS (lv_sub hl [0, 5, 6, 7, 8, 1, 2, 3, 9, 10, 11] rfl)
                                        · have hc144 := c144
                                          have q144 := q_nle hc144
                                          refine lv_aload_n hx hb dX10_second_179 rfl (lv_at hl 9 rfl) ?_
                                          refine m_getr (1000) 50 (1050) hx hb hts hown hE oc10 hM hJ.1 rfl (by decide) rfl (hJ.2 50 (by decide)).2 (by decide) tb_1227 dX10_second_180 ?_
                                          refine lv_iload hx hb dX10_second_183 (lv_at hl 0 rfl) ?_
                                          refine lv_iconst (v := (0)) hx hb dX10_second_185 (by decide) ?_
                                          refine m_iast (1050) hx hb hE hM hS (hJ.2 50 (by decide)).1 rfl (vp_in_iff.mpr (by omega)) dX10_second_186 (fun H locs I157 eI157 hM hS => ?_)
                                          subst eI157
                                          have hI := hI.putF (n := 1050) (k := ((x11_172).toNatClampNeg)) (v := 0) rfl
                                          have hK := hK.put (n := 1050) (k := ((x11_172).toNatClampNeg)) (v := 0) (by first | rfl | simp [inR])
                                          have zt158 : Z59 I (u2 Ia172 (1050) ((x11_172).toNatClampNeg) (0)) := zz172.pt (fun z => absurd z.1 (by decide))
                                          obtain ⟨v159, ev159⟩ : ∃ z : Int32, z = x11_172 + Int32.ofInt (1) := ⟨_, rfl⟩
                                          have tv159 := a_inc ev159 (by decide) (by omega) (by omega)
                                          refine lv_iinc (v := v159) (lv' := [(11, .int (v159)), (10, .int (x10_113)), (9, .int (1)), (8, .int (v11)), (7, .int (v10)), (6, .int (x6_34)), (5, .int (x5_113)), (4, .int (x4_113)), (3, .int (x3_113)), (0, .ref (ad (1000))), (1, .int (a0)), (2, .int (a1))]) hx hb dX10_second_187 hl (k := 0) rfl ev159.symm (by decide) rfl (fun ls hl => ?_)
                                          refine lv_goto (tgt := 172) hx hb dX10_second_190 (by decide) ?_
                                          exact ih172 (v159) (u2 Ia172 (1050) ((x11_172).toNatClampNeg) (0)) La172 _ _ ls hI hK (by first | omega | decide) zt158 (by omega) hM hS (lv_sub hl [0, 1, 2, 3, 4, 5, 6, 7, 8, 9, 10, 11] rfl)
                                    exact loop172 (_ + 1) (0) Ia113 La113 _ _ ls hI hK (by first | omega | decide) zz113 (Nat.lt_succ_self _) hM hS (lv_sub hl [0, 1, 2, 3, 4, 5, 6, 7, 8, 9, 10, 11] rfl)
                      exact loop113 (_ + 1) (0) (x5_34) (x4_34) (x3_34) Ia34 La34 _ _ ls hI hK (by first | omega | decide) zz34 (Nat.lt_succ_self _) hM hS (lv_sub hl [0, 1, 2, 3, 4, 5, 6, 7, 8, 9, 10] rfl)
      exact loop34 (_ + 1) (0) (0) (0) ((-2 : Int32)) I L _ _ ls hI hK (by first | omega | decide) Z59.rf (Nat.lt_succ_self _) hM hS (lv_sub hl [0, 1, 2, 3, 4, 5, 6] rfl)
    · have hc5 := c5
      have q5 := xr4.f hc5
      refine lv_iconst (v := (-1)) hx hb dX10_second_20 (by decide) ?_
      exact m_iret hx hb hr hlocks hM hS (Nat.le_of_ble_eq_true rfl) (Nat.le_of_ble_eq_true rfl) ⟨_, _, rfl, hI, hK, Z59.rf⟩ dX10_second_21
set_option maxHeartbeats 4000000 in
set_option maxRecDepth 20000 in
theorem V_X10_thief_z (l : Launch) (D : va_G) (A : Nat → Prop) (ad : Nat → Nat) (ns : List Nat) (I : MI) (L : ML) (G : MG) (a0 : Int32) (a1 : Int32) (hJ : SGM ns G) (hI : INV I) : Met l yX10_thief (wd yX10_thief cX10_thief 7 (some .int)) ({ frames := 6, cells := 0, slots := 0, locals := 150 }) (va_Pc [.ref (ad (1000)), .int a0, .int a1] (PM D A ad ns I L G)) (va_Qi (fun r u => ∃ I2 L2, u = (ad, ns, I2, L2, G) ∧ INV I2 ∧ Kp [(1045, 1051), (1058, 1059), (1060, 1063)] [(1000, 51), (1000, 52), (1000, 53), (1000, 54), (1000, 55), (1000, 56), (1000, 57), (1000, 59), (1000, 63)] I I2 ∧ (Z59 I I2)) (BM D A) A) 0 0 A := by
  refine m_ofW (by decide) (Nat.le_of_ble_eq_true rfl) ?_
  intro p e s m below meth c ls args hC hE hM hA hS hl
  obtain ⟨hx, hb, hml, hown, hts, hr, hlocks, hin⟩ := hC
  have km2 : (-2 : Int32).toInt = -2 := by decide
  have km1 : (-1 : Int32).toInt = -1 := by decide
  have k0 : (0 : Int32).toInt = 0 := by decide
  have k1 : (1 : Int32).toInt = 1 := by decide
  have k8 : (8 : Int32).toInt = 8 := by decide
  have kl0 : (0 : Int64).toInt = 0 := by decide
  have kl2 : (2 : Int64).toInt = 2 := by decide
  have hK : Kp [(1045, 1051), (1058, 1059), (1060, 1063)] [(1000, 51), (1000, 52), (1000, 53), (1000, 54), (1000, 55), (1000, 56), (1000, 57), (1000, 59), (1000, 63)] I I := Kp.rf
  have hl : lv_has ls 7 [(0, .ref (ad (1000))), (1, .int (a0)), (2, .int (a1))] := hl
  refine lv_aload_n hx hb dX10_thief_0 rfl (lv_at hl 0 rfl) ?_
  refine lv_iload_n hx hb dX10_thief_1 rfl (lv_at hl 1 rfl) ?_
  refine m_calli (m_runV (1000) (As := [.int (a0)]) (rest := []) hx hb hml hown hts hE hM hS hA ce_X10_isBright tb_1698 (V_X10_isBright l D A ad ns I L G (a0) hJ hI) rfl rfl ⟨Nat.le_of_ble_eq_true rfl, Nat.le_of_ble_eq_true rfl⟩ hJ.1 rfl rfl (by decide) rfl hl.1 rfl (Nat.le_of_ble_eq_true rfl) dX10_thief_2 ⟨Nat.le_of_ble_eq_true rfl, Nat.le_of_ble_eq_true rfl⟩) hS (fun r1 u H locs hw hM hS => ?_)
  obtain ⟨rfl, xr1⟩ := hw
  have hM : Mem D A ad ns I L G H := hM
  refine lv_if_eq (tgt := 20) hx hb dX10_thief_5 (by decide) (fun c2 => ?_) (fun c2 => ?_)
  · have hc2 := c2
    have q2 := q_eq hc2
    refine lv_iconst (v := (-1)) hx hb dX10_thief_20 (by decide) ?_
    exact m_iret hx hb hr hlocks hM hS (Nat.le_of_ble_eq_true rfl) (Nat.le_of_ble_eq_true rfl) ⟨_, _, rfl, hI, hK, Z59.rf⟩ dX10_thief_21
  · have hc2 := c2
    have q2 := q_ne hc2
    refine lv_iload_n hx hb dX10_thief_8 rfl (lv_at hl 2 rfl) ?_
    refine lv_i2l hx hb dX10_thief_9 rfl ?_
    refine lv_topl (fun v3 ev3 => ?_)
    have tv3 := q_i2l ev3
    refine lv_lconst (v := 0) hx hb dX10_thief_10 (by decide) ?_
    refine lv_ldc2 (v := (2)) hx hb hown (hts _ tb_1789) dX10_thief_11 ?_
    refine m_calli (m_runS (As := [.long (v3), .long (0), .long ((2 : Int64))]) (rest := []) hx hb hml hown hts hE hM hS hA ce_X10_in tb_1425 (V_X10_in l D A ad ns I L G (v3) (0) ((2 : Int64)) hI) rfl rfl ⟨Nat.le_of_ble_eq_true rfl, Nat.le_of_ble_eq_true rfl⟩  rfl hl.1 rfl (Nat.le_of_ble_eq_true rfl) dX10_thief_14 ⟨Nat.le_of_ble_eq_true rfl, Nat.le_of_ble_eq_true rfl⟩) hS (fun r4 u H locs hw hM hS => ?_)
    obtain ⟨rfl, xr4⟩ := hw
    have hM : Mem D A ad ns I L G H := hM
    have yr4 := bo01 xr4
    refine lv_if_ne (tgt := 22) hx hb dX10_thief_17 (by decide) (fun c5 => ?_) (fun c5 => ?_)
    · have hc5 := c5
      have q5 := xr4.t hc5
      refine lv_aload_n hx hb dX10_thief_22 rfl (lv_at hl 0 rfl) ?_
      refine lv_iconst (v := (-1)) hx hb dX10_thief_23 (by decide) ?_
      refine m_puti (1000) 57 hx hb hts hown hE oc10 hM hS hJ.1 rfl (by decide) rfl rfl rfl rfl tb_1234 dX10_thief_24 (fun H locs I6 eI6 hM hS => ?_)
      subst eI6
      have hI := hI.putF (n := 1000) (k := 57) (v := (-1 : Int32)) rfl
      have hK := hK.put (n := 1000) (k := 57) (v := (-1 : Int32)) (by first | rfl | simp [inR])
      have zt7 : Z59 I (u2 I (1000) 57 ((-1 : Int32))) := Z59.rf.pt (by decide)
      refine lv_aload_n hx hb dX10_thief_27 rfl (lv_at hl 0 rfl) ?_
      refine lv_iload_n hx hb dX10_thief_28 rfl (lv_at hl 1 rfl) ?_
      refine m_callv (m_runV (1000) (As := [.int (a0)]) (rest := []) hx hb hml hown hts hE hM hS hA ce_X10_follows tb_1794 (V_X10_follows_z l D A ad ns (u2 I (1000) 57 ((-1 : Int32))) L G (a0) hJ hI (by first | omega | decide)) rfl rfl ⟨Nat.le_of_ble_eq_true rfl, Nat.le_of_ble_eq_true rfl⟩ hJ.1 rfl rfl (by decide) rfl hl.1 rfl (Nat.le_of_ble_eq_true rfl) dX10_thief_29 ⟨Nat.le_of_ble_eq_true rfl, Nat.le_of_ble_eq_true rfl⟩) hS (fun u H locs hw hM hS => ?_)
      obtain ⟨I8, L9, rfl, hI, hkI8, xI8⟩ := hw
      have hM : Mem D A ad ns I8 L9 G H := hM
      have hK := hK.trans hkI8 rfl
      have zI8 := xI8
      have zt10 : Z59 I I8 := zt7.tr zI8
      refine lv_iconst (v := (-1)) hx hb dX10_thief_32 (by decide) ?_
      refine lv_istore_n (lv' := [(3, .int ((-1 : Int32))), (0, .ref (ad (1000))), (1, .int (a0)), (2, .int (a1))]) hx hb dX10_thief_33 rfl hl (by decide) rfl (fun ls hl => ?_)
      refine lv_iconst (v := (0)) hx hb dX10_thief_34 (by decide) ?_
      refine lv_istore (lv' := [(4, .int (0)), (3, .int ((-1 : Int32))), (0, .ref (ad (1000))), (1, .int (a0)), (2, .int (a1))]) hx hb dX10_thief_35 hl (by decide) rfl (fun ls hl => ?_)
      have loop37 : ∀ (n : Nat) (x4_37 : Int32) (x3_37 : Int32) (Ia37 : MI) (La37 : ML) (H : Heap) (locs : List Loc) (ls : Array Slot), INV Ia37 → Kp [(1045, 1051), (1058, 1059), (1060, 1063)] [(1000, 51), (1000, 52), (1000, 53), (1000, 54), (1000, 55), (1000, 56), (1000, 57), (1000, 59), (1000, 63)] I Ia37 → (0 ≤ x4_37.toInt ∧ x4_37.toInt ≤ 24) → (-1 ≤ x3_37.toInt ∧ x3_37.toInt ≤ 23) → (Z59 I Ia37) → (24 - x4_37.toInt).toNat < n → Mem D A ad ns Ia37 La37 G H → va_S A s.heap H locs → lv_has ls 7 [(4, .int (x4_37)), (3, .int (x3_37)), (0, .ref (ad (1000))), (1, .int (a0)), (2, .int (a1))] → W p l e ({ frames := 6, cells := 0, slots := 0, locals := 150 } : Room) s m args below meth c H locs 0 0 (MQ below (va_Qi (fun r u => ∃ I2 L2, u = (ad, ns, I2, L2, G) ∧ INV I2 ∧ Kp [(1045, 1051), (1058, 1059), (1060, 1063)] [(1000, 51), (1000, 52), (1000, 53), (1000, 54), (1000, 55), (1000, 56), (1000, 57), (1000, 59), (1000, 63)] I I2 ∧ (Z59 I I2)) (BM D A) A) args s 0 0 A) (F0 m 37 ls []) := by
        intro n
        induction n with
        | zero =>
          intro x4_37 x3_37 Ia37 La37 H locs ls hI hK hr4_37 hr3_37 zz37 hmu
          exact absurd hmu (Nat.not_lt_zero _)
        | succ n ih37 =>
          intro x4_37 x3_37 Ia37 La37 H locs ls hI hK hr4_37 hr3_37 zz37 hmu37 hM hS hl
          refine lv_iload hx hb dX10_thief_37 (lv_at hl 0 rfl) ?_
          refine lv_aload_n hx hb dX10_thief_39 rfl (lv_at hl 2 rfl) ?_
          refine m_getr (1000) 1 (1001) hx hb hts hown hE oc10 hM hJ.1 rfl (by decide) rfl (hJ.2 1 (by decide)).2 (by decide) tb_1178 dX10_thief_40 ?_
          refine lv_bipush (v := (8)) hx hb dX10_thief_43 (by decide) ?_
          refine m_iald (1001) hx hb hE hM (hJ.2 1 (by decide)).1 rfl (vp_in_iff.mpr (by decide)) dX10_thief_45 ?_
          rw [show (8 : Int32).toNatClampNeg = 8 from rfl]
          have g11 := hI.get (1001) 8 (lo := 0) (hi := 24) rfl
          refine lv_icmp_ge (tgt := 133) hx hb dX10_thief_46 (by decide) (fun c12 => ?_) (fun c12 => ?_)
          · have hc12 := c12
            have q12 := q_le hc12
            refine lv_iload_n hx hb dX10_thief_133 rfl (lv_at hl 1 rfl) ?_
            refine lv_iconst (v := (-1)) hx hb dX10_thief_134 (by decide) ?_
            refine lv_icmp_ne (tgt := 149) hx hb dX10_thief_135 (by decide) (fun c13 => ?_) (fun c13 => ?_)
            · have hc13 := c13
              have q13 := q_ne hc13
              refine lv_aload_n hx hb dX10_thief_149 rfl (lv_at hl 2 rfl) ?_
              refine m_getr (1000) 61 (1061) hx hb hts hown hE oc10 hM hJ.1 rfl (by decide) rfl (hJ.2 61 (by decide)).2 (by decide) tb_1238 dX10_thief_150 ?_
              refine lv_iload_n hx hb dX10_thief_153 rfl (lv_at hl 1 rfl) ?_
              refine m_iald (1061) hx hb hE hM (hJ.2 61 (by decide)).1 rfl (vp_in_iff.mpr (by omega)) dX10_thief_154 ?_
              refine lv_aload_n hx hb dX10_thief_155 rfl (lv_at hl 2 rfl) ?_
              refine m_getr (1000) 16 (1016) hx hb hts hown hE oc10 hM hJ.1 rfl (by decide) rfl (hJ.2 16 (by decide)).2 (by decide) tb_1193 dX10_thief_156 ?_
              refine lv_iload_n hx hb dX10_thief_159 rfl (lv_at hl 1 rfl) ?_
              refine m_iald (1016) hx hb hE hM (hJ.2 16 (by decide)).1 rfl (vp_in_iff.mpr (by omega)) dX10_thief_160 ?_
              refine lv_isub hx hb dX10_thief_161 ?_
              refine lv_topi (fun v14 ev14 => ?_)
              refine lv_istore (lv' := [(4, .int (v14)), (3, .int (x3_37)), (0, .ref (ad (1000))), (1, .int (a0)), (2, .int (a1))]) hx hb dX10_thief_162 hl (by decide) rfl (fun ls hl => ?_)
              refine lv_aload_n hx hb dX10_thief_164 rfl (lv_at hl 2 rfl) ?_
              refine m_getr (1000) 62 (1062) hx hb hts hown hE oc10 hM hJ.1 rfl (by decide) rfl (hJ.2 62 (by decide)).2 (by decide) tb_1239 dX10_thief_165 ?_
              refine lv_aload_n hx hb dX10_thief_168 rfl (lv_at hl 2 rfl) ?_
              refine m_getr (1000) 60 (1060) hx hb hts hown hE oc10 hM hJ.1 rfl (by decide) rfl (hJ.2 60 (by decide)).2 (by decide) tb_1237 dX10_thief_169 ?_
              refine m_callv (m_runS (As := [.ref (ad (1062)), .ref (ad (1060))]) (rest := []) hx hb hml hown hts hE hM hS hA ce_X10_copy tb_1723 (V_X10_copy_1062_1060 l D A ad ns Ia37 La37 G hJ hI) rfl rfl ⟨Nat.le_of_ble_eq_true rfl, Nat.le_of_ble_eq_true rfl⟩  rfl hl.1 rfl (Nat.le_of_ble_eq_true rfl) dX10_thief_172 ⟨Nat.le_of_ble_eq_true rfl, Nat.le_of_ble_eq_true rfl⟩) hS (fun u H locs hw hM hS => ?_)
              obtain ⟨I15, L16, rfl, hI, hkI15⟩ := hw
              have hM : Mem D A ad ns I15 L16 G H := hM
              have hK := hK.trans hkI15 rfl
              have zt17 : Z59 I I15 := zz37.eq (hkI15.get 1000 59 rfl)
              refine lv_aload_n hx hb dX10_thief_175 rfl (lv_at hl 2 rfl) ?_
              refine lv_iload_n hx hb dX10_thief_176 rfl (lv_at hl 1 rfl) ?_
              refine m_puti (1000) 57 hx hb hts hown hE oc10 hM hS hJ.1 rfl (by decide) rfl rfl rfl rfl tb_1234 dX10_thief_177 (fun H locs I18 eI18 hM hS => ?_)
              subst eI18
              have hI := hI.putF (n := 1000) (k := 57) (v := x3_37) rfl
              have hK := hK.put (n := 1000) (k := 57) (v := x3_37) (by first | rfl | simp [inR])
              have zt19 : Z59 I (u2 I15 (1000) 57 (x3_37)) := zt17.pt (by decide)
              refine lv_aload_n hx hb dX10_thief_180 rfl (lv_at hl 2 rfl) ?_
              refine lv_iload_n hx hb dX10_thief_181 rfl (lv_at hl 3 rfl) ?_
              refine m_callv (m_runV (1000) (As := [.int (a0)]) (rest := []) hx hb hml hown hts hE hM hS hA ce_X10_follows tb_1794 (V_X10_follows_z l D A ad ns (u2 I15 (1000) 57 (x3_37)) L16 G (a0) hJ hI (by first | omega | decide)) rfl rfl ⟨Nat.le_of_ble_eq_true rfl, Nat.le_of_ble_eq_true rfl⟩ hJ.1 rfl rfl (by decide) rfl hl.1 rfl (Nat.le_of_ble_eq_true rfl) dX10_thief_182 ⟨Nat.le_of_ble_eq_true rfl, Nat.le_of_ble_eq_true rfl⟩) hS (fun u H locs hw hM hS => ?_)
              obtain ⟨I20, L21, rfl, hI, hkI20, xI20⟩ := hw
              have hM : Mem D A ad ns I20 L21 G H := hM
              have hK := hK.trans hkI20 rfl
              have zI20 := xI20
              have zt22 : Z59 I I20 := zt19.tr zI20
              refine lv_aload_n hx hb dX10_thief_185 rfl (lv_at hl 2 rfl) ?_
              refine lv_iconst (v := (-1)) hx hb dX10_thief_186 (by decide) ?_
              refine m_puti (1000) 57 hx hb hts hown hE oc10 hM hS hJ.1 rfl (by decide) rfl rfl rfl rfl tb_1234 dX10_thief_187 (fun H locs I23 eI23 hM hS => ?_)
              subst eI23
              have hI := hI.putF (n := 1000) (k := 57) (v := (-1 : Int32)) rfl
              have hK := hK.put (n := 1000) (k := 57) (v := (-1 : Int32)) (by first | rfl | simp [inR])
              have zt24 : Z59 I (u2 I20 (1000) 57 ((-1 : Int32))) := zt22.pt (by decide)
              refine lv_iconst (v := (1)) hx hb dX10_thief_190 (by decide) ?_
              refine lv_istore (lv' := [(5, .int (1)), (4, .int (v14)), (3, .int (x3_37)), (0, .ref (ad (1000))), (1, .int (a0)), (2, .int (a1))]) hx hb dX10_thief_191 hl (by decide) rfl (fun ls hl => ?_)
              refine lv_iconst (v := (0)) hx hb dX10_thief_193 (by decide) ?_
              refine lv_istore (lv' := [(6, .int (0)), (5, .int (1)), (4, .int (v14)), (3, .int (x3_37)), (0, .ref (ad (1000))), (1, .int (a0)), (2, .int (a1))]) hx hb dX10_thief_194 hl (by decide) rfl (fun ls hl => ?_)
              have loop196 : ∀ (n : Nat) (x6_196 : Int32) (x5_196 : Int32) (Ia196 : MI) (La196 : ML) (H : Heap) (locs : List Loc) (ls : Array Slot), INV Ia196 → Kp [(1045, 1051), (1058, 1059), (1060, 1063)] [(1000, 51), (1000, 52), (1000, 53), (1000, 54), (1000, 55), (1000, 56), (1000, 57), (1000, 59), (1000, 63)] I Ia196 → (0 ≤ x6_196.toInt ∧ x6_196.toInt ≤ 24) → (0 ≤ x5_196.toInt ∧ x5_196.toInt ≤ 1) → (Z59 I Ia196) → (24 - x6_196.toInt).toNat < n → Mem D A ad ns Ia196 La196 G H → va_S A s.heap H locs → lv_has ls 7 [(6, .int (x6_196)), (5, .int (x5_196)), (4, .int (v14)), (3, .int (x3_37)), (0, .ref (ad (1000))), (1, .int (a0)), (2, .int (a1))] → W p l e ({ frames := 6, cells := 0, slots := 0, locals := 150 } : Room) s m args below meth c H locs 0 0 (MQ below (va_Qi (fun r u => ∃ I2 L2, u = (ad, ns, I2, L2, G) ∧ INV I2 ∧ Kp [(1045, 1051), (1058, 1059), (1060, 1063)] [(1000, 51), (1000, 52), (1000, 53), (1000, 54), (1000, 55), (1000, 56), (1000, 57), (1000, 59), (1000, 63)] I I2 ∧ (Z59 I I2)) (BM D A) A) args s 0 0 A) (F0 m 196 ls []) := by
                intro n
                induction n with
                | zero =>
                  intro x6_196 x5_196 Ia196 La196 H locs ls hI hK hr6_196 hr5_196 zz196 hmu
                  exact absurd hmu (Nat.not_lt_zero _)
                | succ n ih196 =>
                  intro x6_196 x5_196 Ia196 La196 H locs ls hI hK hr6_196 hr5_196 zz196 hmu196 hM hS hl
                  refine lv_iload hx hb dX10_thief_196 (lv_at hl 0 rfl) ?_
                  refine lv_aload_n hx hb dX10_thief_198 rfl (lv_at hl 4 rfl) ?_
                  refine m_getr (1000) 1 (1001) hx hb hts hown hE oc10 hM hJ.1 rfl (by decide) rfl (hJ.2 1 (by decide)).2 (by decide) tb_1178 dX10_thief_199 ?_
                  refine lv_bipush (v := (8)) hx hb dX10_thief_202 (by decide) ?_
                  refine m_iald (1001) hx hb hE hM (hJ.2 1 (by decide)).1 rfl (vp_in_iff.mpr (by decide)) dX10_thief_204 ?_
                  rw [show (8 : Int32).toNatClampNeg = 8 from rfl]
                  have g25 := hI.get (1001) 8 (lo := 0) (hi := 24) rfl
                  refine lv_icmp_ge (tgt := 270) hx hb dX10_thief_205 (by decide) (fun c26 => ?_) (fun c26 => ?_)
                  · have hc26 := c26
                    have q26 := q_le hc26
                    refine lv_iload_n hx hb dX10_thief_270 rfl (lv_at hl 6 rfl) ?_
                    refine lv_if_ne (tgt := 278) hx hb dX10_thief_271 (by decide) (fun c27 => ?_) (fun c27 => ?_)
                    · have hc27 := c27
                      have q27 := q_ne hc27
                      refine lv_iload_n hx hb dX10_thief_278 rfl (lv_at hl 6 rfl) ?_
                      refine lv_iconst (v := (1)) hx hb dX10_thief_279 (by decide) ?_
                      refine lv_icmp_ne (tgt := 288) hx hb dX10_thief_280 (by decide) (fun c28 => ?_) (fun c28 => ?_)
                      · have hc28 := c28
                        have q28 := q_ne hc28
                        refine lv_iload hx hb dX10_thief_288 (lv_at hl 1 rfl) ?_
                        refine lv_if_eq (tgt := 297) hx hb dX10_thief_290 (by decide) (fun c29 => ?_) (fun c29 => ?_)
                        · have hc29 := c29
                          have q29 := q_eq hc29
                          refine lv_iconst (v := (0)) hx hb dX10_thief_297 (by decide) ?_
                          exact m_iret hx hb hr hlocks hM hS (Nat.le_of_ble_eq_true rfl) (Nat.le_of_ble_eq_true rfl) ⟨_, _, rfl, hI, hK, zz196⟩ dX10_thief_298
                        · have hc29 := c29
                          have q29 := q_ne hc29
                          refine lv_iconst (v := (1)) hx hb dX10_thief_293 (by decide) ?_
                          refine lv_goto (tgt := 298) hx hb dX10_thief_294 (by decide) ?_
                          exact m_iret hx hb hr hlocks hM hS (Nat.le_of_ble_eq_true rfl) (Nat.le_of_ble_eq_true rfl) ⟨_, _, rfl, hI, hK, zz196⟩ dX10_thief_298
                      · have hc28 := c28
                        have q28 := q_eq hc28
                        refine lv_iload hx hb dX10_thief_283 (lv_at hl 2 rfl) ?_
                        refine lv_goto (tgt := 298) hx hb dX10_thief_285 (by decide) ?_
                        exact m_iret hx hb hr hlocks hM hS (Nat.le_of_ble_eq_true rfl) (Nat.le_of_ble_eq_true rfl) ⟨_, _, rfl, hI, hK, zz196⟩ dX10_thief_298
                    · have hc27 := c27
                      have q27 := q_eq hc27
                      refine lv_iload_n hx hb dX10_thief_274 rfl (lv_at hl 3 rfl) ?_
                      refine lv_goto (tgt := 298) hx hb dX10_thief_275 (by decide) ?_
                      exact m_iret hx hb hr hlocks hM hS (Nat.le_of_ble_eq_true rfl) (Nat.le_of_ble_eq_true rfl) ⟨_, _, rfl, hI, hK, zz196⟩ dX10_thief_298
                  · have hc26 := c26
                    have q26 := q_nle hc26
                    refine lv_iload hx hb dX10_thief_208 (lv_at hl 1 rfl) ?_
                    refine lv_if_eq (tgt := 261) hx hb dX10_thief_210 (by decide) (fun c30 => ?_) (fun c30 => ?_)
                    · have hc30 := c30
                      have q30 := q_eq hc30
                      refine lv_iconst (v := (0)) hx hb dX10_thief_261 (by decide) ?_
                      refine lv_istore (lv' := [(5, .int (0)), (6, .int (x6_196)), (4, .int (v14)), (3, .int (x3_37)), (0, .ref (ad (1000))), (1, .int (a0)), (2, .int (a1))]) hx hb dX10_thief_262 hl (by decide) rfl (fun ls hl => ?_)
                      obtain ⟨v31, ev31⟩ : ∃ z : Int32, z = x6_196 + Int32.ofInt (1) := ⟨_, rfl⟩
                      have tv31 := a_inc ev31 (by decide) (by omega) (by omega)
                      refine lv_iinc (v := v31) (lv' := [(6, .int (v31)), (5, .int (0)), (4, .int (v14)), (3, .int (x3_37)), (0, .ref (ad (1000))), (1, .int (a0)), (2, .int (a1))]) hx hb dX10_thief_264 hl (k := 1) rfl ev31.symm (by decide) rfl (fun ls hl => ?_)
                      refine lv_goto (tgt := 196) hx hb dX10_thief_267 (by decide) ?_
                      exact ih196 (v31) (0) Ia196 La196 _ _ ls hI hK (by first | omega | decide) (by first | omega | decide) zz196 (by omega) hM hS (lv_sub hl [0, 1, 2, 3, 4, 5, 6] rfl)
                    · have hc30 := c30
                      have q30 := q_ne hc30
                      refine lv_aload_n hx hb dX10_thief_213 rfl (lv_at hl 4 rfl) ?_
                      refine m_getr (1000) 60 (1060) hx hb hts hown hE oc10 hM hJ.1 rfl (by decide) rfl (hJ.2 60 (by decide)).2 (by decide) tb_1237 dX10_thief_214 ?_
                      refine lv_iload hx hb dX10_thief_217 (lv_at hl 0 rfl) ?_
                      refine m_iald (1060) hx hb hE hM (hJ.2 60 (by decide)).1 rfl (vp_in_iff.mpr (by omega)) dX10_thief_219 ?_
                      refine lv_aload_n hx hb dX10_thief_220 rfl (lv_at hl 4 rfl) ?_
                      refine m_getr (1000) 60 (1060) hx hb hts hown hE oc10 hM hJ.1 rfl (by decide) rfl (hJ.2 60 (by decide)).2 (by decide) tb_1237 dX10_thief_221 ?_
                      refine lv_iload_n hx hb dX10_thief_224 rfl (lv_at hl 3 rfl) ?_
                      refine m_iald (1060) hx hb hE hM (hJ.2 60 (by decide)).1 rfl (vp_in_iff.mpr (by omega)) dX10_thief_225 ?_
                      refine lv_icmp_le (tgt := 257) hx hb dX10_thief_226 (by decide) (fun c32 => ?_) (fun c32 => ?_)
                      · have hc32 := c32
                        have q32 := q_le hc32
                        refine lv_iconst (v := (1)) hx hb dX10_thief_257 (by decide) ?_
                        refine lv_goto (tgt := 262) hx hb dX10_thief_258 (by decide) ?_
                        refine lv_istore (lv' := [(5, .int (1)), (6, .int (x6_196)), (4, .int (v14)), (3, .int (x3_37)), (0, .ref (ad (1000))), (1, .int (a0)), (2, .int (a1))]) hx hb dX10_thief_262 hl (by decide) rfl (fun ls hl => ?_)
                        obtain ⟨v33, ev33⟩ : ∃ z : Int32, z = x6_196 + Int32.ofInt (1) := ⟨_, rfl⟩
                        have tv33 := a_inc ev33 (by decide) (by omega) (by omega)
                        refine lv_iinc (v := v33) (lv' := [(6, .int (v33)), (5, .int (1)), (4, .int (v14)), (3, .int (x3_37)), (0, .ref (ad (1000))), (1, .int (a0)), (2, .int (a1))]) hx hb dX10_thief_264 hl (k := 1) rfl ev33.symm (by decide) rfl (fun ls hl => ?_)
                        refine lv_goto (tgt := 196) hx hb dX10_thief_267 (by decide) ?_
                        exact ih196 (v33) (1) Ia196 La196 _ _ ls hI hK (by first | omega | decide) (by first | omega | decide) zz196 (by omega) hM hS (lv_sub hl [0, 1, 2, 3, 4, 5, 6] rfl)
                      · have hc32 := c32
                        have q32 := q_nle hc32
                        refine lv_aload_n hx hb dX10_thief_229 rfl (lv_at hl 4 rfl) ?_
                        refine m_getr (1000) 16 (1016) hx hb hts hown hE oc10 hM hJ.1 rfl (by decide) rfl (hJ.2 16 (by decide)).2 (by decide) tb_1193 dX10_thief_230 ?_
                        refine lv_iload hx hb dX10_thief_233 (lv_at hl 0 rfl) ?_
                        refine m_iald (1016) hx hb hE hM (hJ.2 16 (by decide)).1 rfl (vp_in_iff.mpr (by omega)) dX10_thief_235 ?_
                        refine lv_iconst (v := (-1)) hx hb dX10_thief_236 (by decide) ?_
                        refine lv_icmp_eq (tgt := 257) hx hb dX10_thief_237 (by decide) (fun c34 => ?_) (fun c34 => ?_)
                        · have hc34 := c34
                          have q34 := q_eq hc34
                          refine lv_iconst (v := (1)) hx hb dX10_thief_257 (by decide) ?_
                          refine lv_goto (tgt := 262) hx hb dX10_thief_258 (by decide) ?_
                          refine lv_istore (lv' := [(5, .int (1)), (6, .int (x6_196)), (4, .int (v14)), (3, .int (x3_37)), (0, .ref (ad (1000))), (1, .int (a0)), (2, .int (a1))]) hx hb dX10_thief_262 hl (by decide) rfl (fun ls hl => ?_)
                          obtain ⟨v35, ev35⟩ : ∃ z : Int32, z = x6_196 + Int32.ofInt (1) := ⟨_, rfl⟩
                          have tv35 := a_inc ev35 (by decide) (by omega) (by omega)
                          refine lv_iinc (v := v35) (lv' := [(6, .int (v35)), (5, .int (1)), (4, .int (v14)), (3, .int (x3_37)), (0, .ref (ad (1000))), (1, .int (a0)), (2, .int (a1))]) hx hb dX10_thief_264 hl (k := 1) rfl ev35.symm (by decide) rfl (fun ls hl => ?_)
                          refine lv_goto (tgt := 196) hx hb dX10_thief_267 (by decide) ?_
                          exact ih196 (v35) (1) Ia196 La196 _ _ ls hI hK (by first | omega | decide) (by first | omega | decide) zz196 (by omega) hM hS (lv_sub hl [0, 1, 2, 3, 4, 5, 6] rfl)
                        · have hc34 := c34
                          have q34 := q_ne hc34
                          refine lv_aload_n hx hb dX10_thief_240 rfl (lv_at hl 4 rfl) ?_
                          refine m_getr (1000) 16 (1016) hx hb hts hown hE oc10 hM hJ.1 rfl (by decide) rfl (hJ.2 16 (by decide)).2 (by decide) tb_1193 dX10_thief_241 ?_
                          refine lv_iload hx hb dX10_thief_244 (lv_at hl 0 rfl) ?_
                          refine m_iald (1016) hx hb hE hM (hJ.2 16 (by decide)).1 rfl (vp_in_iff.mpr (by omega)) dX10_thief_246 ?_
                          refine lv_aload_n hx hb dX10_thief_247 rfl (lv_at hl 4 rfl) ?_
                          refine m_getr (1000) 61 (1061) hx hb hts hown hE oc10 hM hJ.1 rfl (by decide) rfl (hJ.2 61 (by decide)).2 (by decide) tb_1238 dX10_thief_248 ?_
                          refine lv_iload hx hb dX10_thief_251 (lv_at hl 0 rfl) ?_
                          refine m_iald (1061) hx hb hE hM (hJ.2 61 (by decide)).1 rfl (vp_in_iff.mpr (by omega)) dX10_thief_253 ?_
                          refine lv_icmp_ne (tgt := 261) hx hb dX10_thief_254 (by decide) (fun c36 => ?_) (fun c36 => ?_)
                          · have hc36 := c36
                            have q36 := q_ne hc36
                            refine lv_iconst (v := (0)) hx hb dX10_thief_261 (by decide) ?_
                            refine lv_istore (lv' := [(5, .int (0)), (6, .int (x6_196)), (4, .int (v14)), (3, .int (x3_37)), (0, .ref (ad (1000))), (1, .int (a0)), (2, .int (a1))]) hx hb dX10_thief_262 hl (by decide) rfl (fun ls hl => ?_)
                            obtain ⟨v37, ev37⟩ : ∃ z : Int32, z = x6_196 + Int32.ofInt (1) := ⟨_, rfl⟩
                            have tv37 := a_inc ev37 (by decide) (by omega) (by omega)
                            refine lv_iinc (v := v37) (lv' := [(6, .int (v37)), (5, .int (0)), (4, .int (v14)), (3, .int (x3_37)), (0, .ref (ad (1000))), (1, .int (a0)), (2, .int (a1))]) hx hb dX10_thief_264 hl (k := 1) rfl ev37.symm (by decide) rfl (fun ls hl => ?_)
                            refine lv_goto (tgt := 196) hx hb dX10_thief_267 (by decide) ?_
                            exact ih196 (v37) (0) Ia196 La196 _ _ ls hI hK (by first | omega | decide) (by first | omega | decide) zz196 (by omega) hM hS (lv_sub hl [0, 1, 2, 3, 4, 5, 6] rfl)
                          · have hc36 := c36
                            have q36 := q_eq hc36
                            refine lv_iconst (v := (1)) hx hb dX10_thief_257 (by decide) ?_
                            refine lv_goto (tgt := 262) hx hb dX10_thief_258 (by decide) ?_
                            refine lv_istore (lv' := [(5, .int (1)), (6, .int (x6_196)), (4, .int (v14)), (3, .int (x3_37)), (0, .ref (ad (1000))), (1, .int (a0)), (2, .int (a1))]) hx hb dX10_thief_262 hl (by decide) rfl (fun ls hl => ?_)
                            obtain ⟨v38, ev38⟩ : ∃ z : Int32, z = x6_196 + Int32.ofInt (1) := ⟨_, rfl⟩
                            have tv38 := a_inc ev38 (by decide) (by omega) (by omega)
                            refine lv_iinc (v := v38) (lv' := [(6, .int (v38)), (5, .int (1)), (4, .int (v14)), (3, .int (x3_37)), (0, .ref (ad (1000))), (1, .int (a0)), (2, .int (a1))]) hx hb dX10_thief_264 hl (k := 1) rfl ev38.symm (by decide) rfl (fun ls hl => ?_)
                            refine lv_goto (tgt := 196) hx hb dX10_thief_267 (by decide) ?_
                            exact ih196 (v38) (1) Ia196 La196 _ _ ls hI hK (by first | omega | decide) (by first | omega | decide) zz196 (by omega) hM hS (lv_sub hl [0, 1, 2, 3, 4, 5, 6] rfl)
              exact loop196 (_ + 1) (0) (1) (u2 I20 (1000) 57 ((-1 : Int32))) L21 _ _ ls hI hK (by first | omega | decide) (by first | omega | decide) zt24 (Nat.lt_succ_self _) hM hS (lv_sub hl [0, 1, 2, 3, 4, 5, 6] rfl)
            · have hc13 := c13
              have q13 := q_eq hc13
              refine lv_iload_n hx hb dX10_thief_138 rfl (lv_at hl 4 rfl) ?_
              refine lv_if_ne (tgt := 147) hx hb dX10_thief_139 (by decide) (fun c39 => ?_) (fun c39 => ?_)
              · have hc39 := c39
                have q39 := q_ne hc39
                refine lv_iconst (v := (0)) hx hb dX10_thief_147 (by decide) ?_
                exact m_iret hx hb hr hlocks hM hS (Nat.le_of_ble_eq_true rfl) (Nat.le_of_ble_eq_true rfl) ⟨_, _, rfl, hI, hK, zz37⟩ dX10_thief_148
              · have hc39 := c39
                have q39 := q_eq hc39
                refine lv_bipush (v := (-2)) hx hb dX10_thief_142 (by decide) ?_
                refine lv_goto (tgt := 148) hx hb dX10_thief_144 (by decide) ?_
                exact m_iret hx hb hr hlocks hM hS (Nat.le_of_ble_eq_true rfl) (Nat.le_of_ble_eq_true rfl) ⟨_, _, rfl, hI, hK, zz37⟩ dX10_thief_148
          · have hc12 := c12
            have q12 := q_nle hc12
            refine lv_aload_n hx hb dX10_thief_49 rfl (lv_at hl 2 rfl) ?_
            refine m_getr (1000) 62 (1062) hx hb hts hown hE oc10 hM hJ.1 rfl (by decide) rfl (hJ.2 62 (by decide)).2 (by decide) tb_1239 dX10_thief_50 ?_
            refine lv_iload hx hb dX10_thief_53 (lv_at hl 0 rfl) ?_
            refine m_iald (1062) hx hb hE hM (hJ.2 62 (by decide)).1 rfl (vp_in_iff.mpr (by omega)) dX10_thief_55 ?_
            refine lv_if_le (tgt := 91) hx hb dX10_thief_56 (by decide) (fun c40 => ?_) (fun c40 => ?_)
            · have hc40 := c40
              have q40 := q_le hc40
              refine lv_iconst (v := (0)) hx hb dX10_thief_91 (by decide) ?_
              refine lv_istore (lv' := [(5, .int (0)), (4, .int (x4_37)), (3, .int (x3_37)), (0, .ref (ad (1000))), (1, .int (a0)), (2, .int (a1))]) hx hb dX10_thief_92 hl (by decide) rfl (fun ls hl => ?_)
              refine lv_iload hx hb dX10_thief_94 (lv_at hl 0 rfl) ?_
              refine lv_if_eq (tgt := 125) hx hb dX10_thief_96 (by decide) (fun c41 => ?_) (fun c41 => ?_)
              · have hc41 := c41
                have q41 := q_eq hc41
                refine lv_iload_n hx hb dX10_thief_125 rfl (lv_at hl 2 rfl) ?_
                refine lv_istore_n (lv' := [(3, .int (x3_37)), (5, .int (0)), (4, .int (x4_37)), (0, .ref (ad (1000))), (1, .int (a0)), (2, .int (a1))]) hx hb dX10_thief_126 rfl hl (by decide) rfl (fun ls hl => ?_)
                obtain ⟨v42, ev42⟩ : ∃ z : Int32, z = x4_37 + Int32.ofInt (1) := ⟨_, rfl⟩
                have tv42 := a_inc ev42 (by decide) (by omega) (by omega)
                refine lv_iinc (v := v42) (lv' := [(4, .int (v42)), (3, .int (x3_37)), (5, .int (0)), (0, .ref (ad (1000))), (1, .int (a0)), (2, .int (a1))]) hx hb dX10_thief_127 hl (k := 2) rfl ev42.symm (by decide) rfl (fun ls hl => ?_)
                refine lv_goto (tgt := 37) hx hb dX10_thief_130 (by decide) ?_
                exact ih37 (v42) (x3_37) Ia37 La37 _ _ ls hI hK (by first | omega | decide) (by first | omega | decide) zz37 (by omega) hM hS (lv_sub hl [0, 1, 3, 4, 5] rfl)
              · exact absurd c41 (by decide)
            · have hc40 := c40
              have q40 := q_nle hc40
              refine lv_aload_n hx hb dX10_thief_59 rfl (lv_at hl 2 rfl) ?_
              refine m_getr (1000) 16 (1016) hx hb hts hown hE oc10 hM hJ.1 rfl (by decide) rfl (hJ.2 16 (by decide)).2 (by decide) tb_1193 dX10_thief_60 ?_
              refine lv_iload hx hb dX10_thief_63 (lv_at hl 0 rfl) ?_
              refine m_iald (1016) hx hb hE hM (hJ.2 16 (by decide)).1 rfl (vp_in_iff.mpr (by omega)) dX10_thief_65 ?_
              refine lv_iconst (v := (-1)) hx hb dX10_thief_66 (by decide) ?_
              refine lv_icmp_eq (tgt := 91) hx hb dX10_thief_67 (by decide) (fun c43 => ?_) (fun c43 => ?_)
              · have hc43 := c43
                have q43 := q_eq hc43
                refine lv_iconst (v := (0)) hx hb dX10_thief_91 (by decide) ?_
                refine lv_istore (lv' := [(5, .int (0)), (4, .int (x4_37)), (3, .int (x3_37)), (0, .ref (ad (1000))), (1, .int (a0)), (2, .int (a1))]) hx hb dX10_thief_92 hl (by decide) rfl (fun ls hl => ?_)
                refine lv_iload hx hb dX10_thief_94 (lv_at hl 0 rfl) ?_
                refine lv_if_eq (tgt := 125) hx hb dX10_thief_96 (by decide) (fun c44 => ?_) (fun c44 => ?_)
                · have hc44 := c44
                  have q44 := q_eq hc44
                  refine lv_iload_n hx hb dX10_thief_125 rfl (lv_at hl 2 rfl) ?_
                  refine lv_istore_n (lv' := [(3, .int (x3_37)), (5, .int (0)), (4, .int (x4_37)), (0, .ref (ad (1000))), (1, .int (a0)), (2, .int (a1))]) hx hb dX10_thief_126 rfl hl (by decide) rfl (fun ls hl => ?_)
                  obtain ⟨v45, ev45⟩ : ∃ z : Int32, z = x4_37 + Int32.ofInt (1) := ⟨_, rfl⟩
                  have tv45 := a_inc ev45 (by decide) (by omega) (by omega)
                  refine lv_iinc (v := v45) (lv' := [(4, .int (v45)), (3, .int (x3_37)), (5, .int (0)), (0, .ref (ad (1000))), (1, .int (a0)), (2, .int (a1))]) hx hb dX10_thief_127 hl (k := 2) rfl ev45.symm (by decide) rfl (fun ls hl => ?_)
                  refine lv_goto (tgt := 37) hx hb dX10_thief_130 (by decide) ?_
                  exact ih37 (v45) (x3_37) Ia37 La37 _ _ ls hI hK (by first | omega | decide) (by first | omega | decide) zz37 (by omega) hM hS (lv_sub hl [0, 1, 3, 4, 5] rfl)
                · exact absurd c44 (by decide)
              · have hc43 := c43
                have q43 := q_ne hc43
                refine lv_aload_n hx hb dX10_thief_70 rfl (lv_at hl 2 rfl) ?_
                refine m_getr (1000) 16 (1016) hx hb hts hown hE oc10 hM hJ.1 rfl (by decide) rfl (hJ.2 16 (by decide)).2 (by decide) tb_1193 dX10_thief_71 ?_
                refine lv_iload hx hb dX10_thief_74 (lv_at hl 0 rfl) ?_
                refine m_iald (1016) hx hb hE hM (hJ.2 16 (by decide)).1 rfl (vp_in_iff.mpr (by omega)) dX10_thief_76 ?_
                refine lv_aload_n hx hb dX10_thief_77 rfl (lv_at hl 2 rfl) ?_
                refine m_getr (1000) 61 (1061) hx hb hts hown hE oc10 hM hJ.1 rfl (by decide) rfl (hJ.2 61 (by decide)).2 (by decide) tb_1238 dX10_thief_78 ?_
                refine lv_iload hx hb dX10_thief_81 (lv_at hl 0 rfl) ?_
                refine m_iald (1061) hx hb hE hM (hJ.2 61 (by decide)).1 rfl (vp_in_iff.mpr (by omega)) dX10_thief_83 ?_
                refine lv_icmp_ge (tgt := 91) hx hb dX10_thief_84 (by decide) (fun c46 => ?_) (fun c46 => ?_)
                · have hc46 := c46
                  have q46 := q_le hc46
                  refine lv_iconst (v := (0)) hx hb dX10_thief_91 (by decide) ?_
                  refine lv_istore (lv' := [(5, .int (0)), (4, .int (x4_37)), (3, .int (x3_37)), (0, .ref (ad (1000))), (1, .int (a0)), (2, .int (a1))]) hx hb dX10_thief_92 hl (by decide) rfl (fun ls hl => ?_)
                  refine lv_iload hx hb dX10_thief_94 (lv_at hl 0 rfl) ?_
                  refine lv_if_eq (tgt := 125) hx hb dX10_thief_96 (by decide) (fun c47 => ?_) (fun c47 => ?_)
                  · have hc47 := c47
                    have q47 := q_eq hc47
                    refine lv_iload_n hx hb dX10_thief_125 rfl (lv_at hl 2 rfl) ?_
                    refine lv_istore_n (lv' := [(3, .int (x3_37)), (5, .int (0)), (4, .int (x4_37)), (0, .ref (ad (1000))), (1, .int (a0)), (2, .int (a1))]) hx hb dX10_thief_126 rfl hl (by decide) rfl (fun ls hl => ?_)
                    obtain ⟨v48, ev48⟩ : ∃ z : Int32, z = x4_37 + Int32.ofInt (1) := ⟨_, rfl⟩
                    have tv48 := a_inc ev48 (by decide) (by omega) (by omega)
                    refine lv_iinc (v := v48) (lv' := [(4, .int (v48)), (3, .int (x3_37)), (5, .int (0)), (0, .ref (ad (1000))), (1, .int (a0)), (2, .int (a1))]) hx hb dX10_thief_127 hl (k := 2) rfl ev48.symm (by decide) rfl (fun ls hl => ?_)
                    refine lv_goto (tgt := 37) hx hb dX10_thief_130 (by decide) ?_
                    exact ih37 (v48) (x3_37) Ia37 La37 _ _ ls hI hK (by first | omega | decide) (by first | omega | decide) zz37 (by omega) hM hS (lv_sub hl [0, 1, 3, 4, 5] rfl)
                  · exact absurd c47 (by decide)
                · have hc46 := c46
                  have q46 := q_nle hc46
                  refine lv_iconst (v := (1)) hx hb dX10_thief_87 (by decide) ?_
                  refine lv_goto (tgt := 92) hx hb dX10_thief_88 (by decide) ?_
                  refine lv_istore (lv' := [(5, .int (1)), (4, .int (x4_37)), (3, .int (x3_37)), (0, .ref (ad (1000))), (1, .int (a0)), (2, .int (a1))]) hx hb dX10_thief_92 hl (by decide) rfl (fun ls hl => ?_)
                  refine lv_iload hx hb dX10_thief_94 (lv_at hl 0 rfl) ?_
                  refine lv_if_eq (tgt := 125) hx hb dX10_thief_96 (by decide) (fun c49 => ?_) (fun c49 => ?_)
                  · exact absurd c49 (by decide)
                  · have hc49 := c49
                    have q49 := q_ne hc49
                    refine lv_iload_n hx hb dX10_thief_99 rfl (lv_at hl 2 rfl) ?_
                    refine lv_iconst (v := (-1)) hx hb dX10_thief_100 (by decide) ?_
                    refine lv_icmp_eq (tgt := 120) hx hb dX10_thief_101 (by decide) (fun c50 => ?_) (fun c50 => ?_)
                    · have hc50 := c50
                      have q50 := q_eq hc50
                      refine lv_iload hx hb dX10_thief_120 (lv_at hl 1 rfl) ?_
                      refine lv_goto (tgt := 126) hx hb dX10_thief_122 (by decide) ?_
                      refine lv_istore_n (lv' := [(3, .int (x4_37)), (5, .int (1)), (4, .int (x4_37)), (0, .ref (ad (1000))), (1, .int (a0)), (2, .int (a1))]) hx hb dX10_thief_126 rfl hl (by decide) rfl (fun ls hl => ?_)
                      obtain ⟨v51, ev51⟩ : ∃ z : Int32, z = x4_37 + Int32.ofInt (1) := ⟨_, rfl⟩
                      have tv51 := a_inc ev51 (by decide) (by omega) (by omega)
                      refine lv_iinc (v := v51) (lv' := [(4, .int (v51)), (3, .int (x4_37)), (5, .int (1)), (0, .ref (ad (1000))), (1, .int (a0)), (2, .int (a1))]) hx hb dX10_thief_127 hl (k := 2) rfl ev51.symm (by decide) rfl (fun ls hl => ?_)
                      refine lv_goto (tgt := 37) hx hb dX10_thief_130 (by decide) ?_
                      exact ih37 (v51) (x4_37) Ia37 La37 _ _ ls hI hK (by first | omega | decide) (by first | omega | decide) zz37 (by omega) hM hS (lv_sub hl [0, 1, 3, 4, 5] rfl)
                    · have hc50 := c50
                      have q50 := q_ne hc50
                      refine lv_aload_n hx hb dX10_thief_104 rfl (lv_at hl 3 rfl) ?_
                      refine m_getr (1000) 62 (1062) hx hb hts hown hE oc10 hM hJ.1 rfl (by decide) rfl (hJ.2 62 (by decide)).2 (by decide) tb_1239 dX10_thief_105 ?_
                      refine lv_iload hx hb dX10_thief_108 (lv_at hl 1 rfl) ?_
                      refine m_iald (1062) hx hb hE hM (hJ.2 62 (by decide)).1 rfl (vp_in_iff.mpr (by omega)) dX10_thief_110 ?_
                      refine lv_aload_n hx hb dX10_thief_111 rfl (lv_at hl 3 rfl) ?_
                      refine m_getr (1000) 62 (1062) hx hb hts hown hE oc10 hM hJ.1 rfl (by decide) rfl (hJ.2 62 (by decide)).2 (by decide) tb_1239 dX10_thief_112 ?_
                      refine lv_iload_n hx hb dX10_thief_115 rfl (lv_at hl 2 rfl) ?_
                      refine m_iald (1062) hx hb hE hM (hJ.2 62 (by decide)).1 rfl (vp_in_iff.mpr (by omega)) dX10_thief_116 ?_
                      refine lv_icmp_ge (tgt := 125) hx hb dX10_thief_117 (by decide) (fun c52 => ?_) (fun c52 => ?_)
                      · have hc52 := c52
                        have q52 := q_le hc52
                        refine lv_iload_n hx hb dX10_thief_125 rfl (lv_at hl 2 rfl) ?_
                        refine lv_istore_n (lv' := [(3, .int (x3_37)), (5, .int (1)), (4, .int (x4_37)), (0, .ref (ad (1000))), (1, .int (a0)), (2, .int (a1))]) hx hb dX10_thief_126 rfl hl (by decide) rfl (fun ls hl => ?_)
                        obtain ⟨v53, ev53⟩ : ∃ z : Int32, z = x4_37 + Int32.ofInt (1) := ⟨_, rfl⟩
                        have tv53 := a_inc ev53 (by decide) (by omega) (by omega)
                        refine lv_iinc (v := v53) (lv' := [(4, .int (v53)), (3, .int (x3_37)), (5, .int (1)), (0, .ref (ad (1000))), (1, .int (a0)), (2, .int (a1))]) hx hb dX10_thief_127 hl (k := 2) rfl ev53.symm (by decide) rfl (fun ls hl => ?_)
                        refine lv_goto (tgt := 37) hx hb dX10_thief_130 (by decide) ?_
                        exact ih37 (v53) (x3_37) Ia37 La37 _ _ ls hI hK (by first | omega | decide) (by first | omega | decide) zz37 (by omega) hM hS (lv_sub hl [0, 1, 3, 4, 5] rfl)
                      · have hc52 := c52
                        have q52 := q_nle hc52
                        refine lv_iload hx hb dX10_thief_120 (lv_at hl 1 rfl) ?_
                        refine lv_goto (tgt := 126) hx hb dX10_thief_122 (by decide) ?_
                        refine lv_istore_n (lv' := [(3, .int (x4_37)), (5, .int (1)), (4, .int (x4_37)), (0, .ref (ad (1000))), (1, .int (a0)), (2, .int (a1))]) hx hb dX10_thief_126 rfl hl (by decide) rfl (fun ls hl => ?_)
                        obtain ⟨v54, ev54⟩ : ∃ z : Int32, z = x4_37 + Int32.ofInt (1) := ⟨_, rfl⟩
                        have tv54 := a_inc ev54 (by decide) (by omega) (by omega)
                        refine lv_iinc (v := v54) (lv' := [(4, .int (v54)), (3, .int (x4_37)), (5, .int (1)), (0, .ref (ad (1000))), (1, .int (a0)), (2, .int (a1))]) hx hb dX10_thief_127 hl (k := 2) rfl ev54.symm (by decide) rfl (fun ls hl => ?_)
                        refine lv_goto (tgt := 37) hx hb dX10_thief_130 (by decide) ?_
                        exact ih37 (v54) (x4_37) Ia37 La37 _ _ ls hI hK (by first | omega | decide) (by first | omega | decide) zz37 (by omega) hM hS (lv_sub hl [0, 1, 3, 4, 5] rfl)
      exact loop37 (_ + 1) (0) ((-1 : Int32)) I8 L9 _ _ ls hI hK (by first | omega | decide) (by first | omega | decide) zt10 (Nat.lt_succ_self _) hM hS (lv_sub hl [0, 1, 2, 3, 4] rfl)
    · have hc5 := c5
      have q5 := xr4.f hc5
      refine lv_iconst (v := (-1)) hx hb dX10_thief_20 (by decide) ?_
      exact m_iret hx hb hr hlocks hM hS (Nat.le_of_ble_eq_true rfl) (Nat.le_of_ble_eq_true rfl) ⟨_, _, rfl, hI, hK, Z59.rf⟩ dX10_thief_21
