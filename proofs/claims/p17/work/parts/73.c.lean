set_option maxHeartbeats 4000000 in
set_option maxRecDepth 20000 in
theorem V_X8_addYard_g (l : Launch) (D : va_G) (A : Nat → Prop) (ad : Nat → Nat) (ns : List Nat) (I : MI) (L : ML) (G : MG) (a0 : Int32) (a1 : Int32) (a2 : Int32) (a3 : Int32) (hG : SGC ns G) (hI : INV I) (hc : (I 100 9).toInt < 8) (ha0 : 0 ≤ a0.toInt ∧ a0.toInt ≤ 23) (ha1 : 0 ≤ a1.toInt ∧ a1.toInt ≤ 23) (ha2 : 0 ≤ a2.toInt ∧ a2.toInt ≤ 23) (ha3 : 0 ≤ a3.toInt ∧ a3.toInt ≤ 23) : Met l yX8_addYard (wd yX8_addYard cX8_addYard 8 (some .int)) ({ frames := 1, cells := 0, slots := 0, locals := 23 }) (va_Pc [.ref (ad (100)), .int a0, .int a1, .int a2, .int a3] (PM D A ad ns I L G)) (va_Qi (fun r u => ∃ I2 L2, u = (ad, ns, I2, L2, G) ∧ INV I2 ∧ Kp [(104, 105), (108, 109)] [(100, 9)] I I2 ∧ (r = I 100 9 ∧ (I2 100 9).toInt = (I 100 9).toInt + 1 ∧ YF (I 104) (I2 104) (I 100 9) a0 a1 a2 a3)) (BM D A) A) 0 0 A := by
  refine m_ofW (by decide) (Nat.le_of_ble_eq_true rfl) ?_
  intro p e s m below meth c ls args hC hE hM hA hS hl
  obtain ⟨hx, hb, hml, hown, hts, hr, hlocks, hin⟩ := hC
  have km1 : (-1 : Int32).toInt = -1 := by decide
  have k0 : (0 : Int32).toInt = 0 := by decide
  have k1 : (1 : Int32).toInt = 1 := by decide
  have k3 : (3 : Int32).toInt = 3 := by decide
  have k4 : (4 : Int32).toInt = 4 := by decide
  have k5 : (5 : Int32).toInt = 5 := by decide
  have k6 : (6 : Int32).toInt = 6 := by decide
  have hK : Kp [(104, 105), (108, 109)] [(100, 9)] I I := Kp.rf
  have hl : lv_has ls 8 [(0, .ref (ad (100))), (1, .int (a0)), (2, .int (a1)), (3, .int (a2)), (4, .int (a3))] := hl
  refine lv_aload_n hx hb dX8_addYard_0 rfl (lv_at hl 0 rfl) ?_
  refine m_geti (100) 9 hx hb hts hown hE oc8 hM (hG.1 100 (by decide)) rfl (by decide) rfl tb_63 dX8_addYard_1 ?_
  have g1 := hI.get (100) 9 (lo := 0) (hi := 8) rfl
  refine lv_istore (lv' := [(5, .int (I (100) 9)), (0, .ref (ad (100))), (1, .int (a0)), (2, .int (a1)), (3, .int (a2)), (4, .int (a3))]) hx hb dX8_addYard_4 hl (by decide) rfl (fun ls hl => ?_)
  refine lv_aload_n hx hb dX8_addYard_6 rfl (lv_at hl 1 rfl) ?_
  refine lv_dup hx hb dX8_addYard_7 rfl ?_
  refine m_geti (100) 9 hx hb hts hown hE oc8 hM (hG.1 100 (by decide)) rfl (by decide) rfl tb_63 dX8_addYard_8 ?_
  refine lv_iconst (v := (1)) hx hb dX8_addYard_11 (by decide) ?_
  refine lv_iadd hx hb dX8_addYard_12 ?_
  refine lv_topi (fun v2 ev2 => ?_)
  have tv2 := a_add ev2 (by omega) (by omega)
  refine m_puti (100) 9 hx hb hts hown hE oc8 hM hS (hG.1 100 (by decide)) rfl (by decide) rfl rfl rfl rfl tb_63 dX8_addYard_13 (fun H locs I3 eI3 hM hS => ?_)
  subst eI3
  have hI := hI.put (n := 100) (k := 9) (v := v2) (lo := 0) (hi := 8) rfl (by first | omega | decide)
  have hK := hK.put (n := 100) (k := 9) (v := v2) (by first | rfl | simp [inR])
  refine lv_iload_n hx hb dX8_addYard_16 rfl (lv_at hl 3 rfl) ?_
  refine lv_istore (lv' := [(6, .int (a1)), (5, .int (I (100) 9)), (0, .ref (ad (100))), (1, .int (a0)), (2, .int (a1)), (3, .int (a2)), (4, .int (a3))]) hx hb dX8_addYard_17 hl (by decide) rfl (fun ls hl => ?_)
  have tz4 : ((u2 I (100) 9 (v2)) 100 9).toInt = _ := congrArg Int32.toInt ((show (u2 I (100) 9 (v2)) (100) 9 = v2 from by simp [u2_v]))
  have loop19 : ∀ (n : Nat) (x6_19 : Int32) (Ia19 : MI) (La19 : ML) (H : Heap) (locs : List Loc) (ls : Array Slot), INV Ia19 → Kp [(104, 105), (108, 109)] [(100, 9)] I Ia19 → (0 ≤ x6_19.toInt ∧ x6_19.toInt ≤ 24) → ((Ia19 100 9).toInt = (I 100 9).toInt + 1 ∧ a1.toInt ≤ (x6_19).toInt) → (YP (I 104) (Ia19 104) (I 100 9) a0 a1 a2 a3 (x6_19).toInt (a0).toInt) → (24 - x6_19.toInt).toNat < n → Mem D A ad ns Ia19 La19 G H → va_S A s.heap H locs → lv_has ls 8 [(6, .int (x6_19)), (5, .int (I (100) 9)), (0, .ref (ad (100))), (1, .int (a0)), (2, .int (a1)), (3, .int (a2)), (4, .int (a3))] → W p l e ({ frames := 1, cells := 0, slots := 0, locals := 23 } : Room) s m args below meth c H locs 0 0 (MQ below (va_Qi (fun r u => ∃ I2 L2, u = (ad, ns, I2, L2, G) ∧ INV I2 ∧ Kp [(104, 105), (108, 109)] [(100, 9)] I I2 ∧ (r = I 100 9 ∧ (I2 100 9).toInt = (I 100 9).toInt + 1 ∧ YF (I 104) (I2 104) (I 100 9) a0 a1 a2 a3)) (BM D A) A) args s 0 0 A) (F0 m 19 ls []) := by
    intro n
    induction n with
    | zero =>
      intro x6_19 Ia19 La19 H locs ls hI hK hr6_19 h9_6 hy6 hmu
      exact absurd hmu (Nat.not_lt_zero _)
    | succ n ih19 =>
      intro x6_19 Ia19 La19 H locs ls hI hK hr6_19 h9_6 hy6 hmu19 hM hS hl
      refine lv_iload hx hb dX8_addYard_19 (lv_at hl 0 rfl) ?_
      refine lv_iload hx hb dX8_addYard_21 (lv_at hl 6 rfl) ?_
      refine lv_icmp_gt (tgt := 77) hx hb dX8_addYard_23 (by decide) (fun c5 => ?_) (fun c5 => ?_)
      · have hc5 := c5
        have q5 := q_lt hc5
        refine lv_aload_n hx hb dX8_addYard_77 rfl (lv_at hl 2 rfl) ?_
        refine lv_iload hx hb dX8_addYard_78 (lv_at hl 1 rfl) ?_
        refine lv_iconst (v := (0)) hx hb dX8_addYard_80 (by decide) ?_
        refine lv_iconst (v := (0)) hx hb dX8_addYard_81 (by decide) ?_
        refine m_callv (m_runV (100) (As := [.int (I (100) 9), .int (0), .int (0)]) (rest := []) hx hb hml hown hts hE hM hS hA ce_X8_setYard tb_529 (V_X8_setYard_100 l D A ad ns Ia19 La19 G (I (100) 9) (0) (0) hG hI (by first | omega | decide) (by first | omega | decide)) rfl rfl ⟨Nat.le_of_ble_eq_true rfl, Nat.le_of_ble_eq_true rfl⟩ (hG.1 100 (by decide)) rfl rfl (by decide) rfl hl.1 rfl (Nat.le_of_ble_eq_true rfl) dX8_addYard_82 ⟨Nat.le_of_ble_eq_true rfl, Nat.le_of_ble_eq_true rfl⟩) hS (fun u H locs hw hM hS => ?_)
        obtain ⟨I6, L7, rfl, hI, hkI6⟩ := hw
        have hM : Mem D A ad ns I6 L7 G H := hM
        have hK := hK.trans hkI6 rfl
        refine lv_aload_n hx hb dX8_addYard_85 rfl (lv_at hl 2 rfl) ?_
        refine lv_iload hx hb dX8_addYard_86 (lv_at hl 1 rfl) ?_
        refine lv_iconst (v := (3)) hx hb dX8_addYard_88 (by decide) ?_
        refine lv_iload_n hx hb dX8_addYard_89 rfl (lv_at hl 3 rfl) ?_
        refine m_callv (m_runV (100) (As := [.int (I (100) 9), .int (3), .int (a0)]) (rest := []) hx hb hml hown hts hE hM hS hA ce_X8_setYard tb_529 (V_X8_setYard_100 l D A ad ns I6 L7 G (I (100) 9) (3) (a0) hG hI (by first | omega | decide) (by first | omega | decide)) rfl rfl ⟨Nat.le_of_ble_eq_true rfl, Nat.le_of_ble_eq_true rfl⟩ (hG.1 100 (by decide)) rfl rfl (by decide) rfl hl.1 rfl (Nat.le_of_ble_eq_true rfl) dX8_addYard_90 ⟨Nat.le_of_ble_eq_true rfl, Nat.le_of_ble_eq_true rfl⟩) hS (fun u H locs hw hM hS => ?_)
        obtain ⟨I8, L9, rfl, hI, hkI8⟩ := hw
        have hM : Mem D A ad ns I8 L9 G H := hM
        have hK := hK.trans hkI8 rfl
        refine lv_aload_n hx hb dX8_addYard_93 rfl (lv_at hl 2 rfl) ?_
        refine lv_iload hx hb dX8_addYard_94 (lv_at hl 1 rfl) ?_
        refine lv_iconst (v := (4)) hx hb dX8_addYard_96 (by decide) ?_
        refine lv_iload_n hx hb dX8_addYard_97 rfl (lv_at hl 4 rfl) ?_
        refine m_callv (m_runV (100) (As := [.int (I (100) 9), .int (4), .int (a1)]) (rest := []) hx hb hml hown hts hE hM hS hA ce_X8_setYard tb_529 (V_X8_setYard_100 l D A ad ns I8 L9 G (I (100) 9) (4) (a1) hG hI (by first | omega | decide) (by first | omega | decide)) rfl rfl ⟨Nat.le_of_ble_eq_true rfl, Nat.le_of_ble_eq_true rfl⟩ (hG.1 100 (by decide)) rfl rfl (by decide) rfl hl.1 rfl (Nat.le_of_ble_eq_true rfl) dX8_addYard_98 ⟨Nat.le_of_ble_eq_true rfl, Nat.le_of_ble_eq_true rfl⟩) hS (fun u H locs hw hM hS => ?_)
        obtain ⟨I10, L11, rfl, hI, hkI10⟩ := hw
        have hM : Mem D A ad ns I10 L11 G H := hM
        have hK := hK.trans hkI10 rfl
        refine lv_aload_n hx hb dX8_addYard_101 rfl (lv_at hl 2 rfl) ?_
        refine lv_iload hx hb dX8_addYard_102 (lv_at hl 1 rfl) ?_
        refine lv_iconst (v := (5)) hx hb dX8_addYard_104 (by decide) ?_
        refine lv_iload_n hx hb dX8_addYard_105 rfl (lv_at hl 5 rfl) ?_
        refine m_callv (m_runV (100) (As := [.int (I (100) 9), .int (5), .int (a2)]) (rest := []) hx hb hml hown hts hE hM hS hA ce_X8_setYard tb_529 (V_X8_setYard_100 l D A ad ns I10 L11 G (I (100) 9) (5) (a2) hG hI (by first | omega | decide) (by first | omega | decide)) rfl rfl ⟨Nat.le_of_ble_eq_true rfl, Nat.le_of_ble_eq_true rfl⟩ (hG.1 100 (by decide)) rfl rfl (by decide) rfl hl.1 rfl (Nat.le_of_ble_eq_true rfl) dX8_addYard_106 ⟨Nat.le_of_ble_eq_true rfl, Nat.le_of_ble_eq_true rfl⟩) hS (fun u H locs hw hM hS => ?_)
        obtain ⟨I12, L13, rfl, hI, hkI12⟩ := hw
        have hM : Mem D A ad ns I12 L13 G H := hM
        have hK := hK.trans hkI12 rfl
        refine lv_aload_n hx hb dX8_addYard_109 rfl (lv_at hl 2 rfl) ?_
        refine lv_iload hx hb dX8_addYard_110 (lv_at hl 1 rfl) ?_
        refine lv_bipush (v := (6)) hx hb dX8_addYard_112 (by decide) ?_
        refine lv_iload hx hb dX8_addYard_114 (lv_at hl 6 rfl) ?_
        refine m_callv (m_runV (100) (As := [.int (I (100) 9), .int (6), .int (a3)]) (rest := []) hx hb hml hown hts hE hM hS hA ce_X8_setYard tb_529 (V_X8_setYard_100 l D A ad ns I12 L13 G (I (100) 9) (6) (a3) hG hI (by first | omega | decide) (by first | omega | decide)) rfl rfl ⟨Nat.le_of_ble_eq_true rfl, Nat.le_of_ble_eq_true rfl⟩ (hG.1 100 (by decide)) rfl rfl (by decide) rfl hl.1 rfl (Nat.le_of_ble_eq_true rfl) dX8_addYard_116 ⟨Nat.le_of_ble_eq_true rfl, Nat.le_of_ble_eq_true rfl⟩) hS (fun u H locs hw hM hS => ?_)
        obtain ⟨I14, L15, rfl, hI, hkI14⟩ := hw
        have hM : Mem D A ad ns I14 L15 G H := hM
        have hK := hK.trans hkI14 rfl
        refine lv_iload hx hb dX8_addYard_119 (lv_at hl 1 rfl) ?_
        have tz9 : (I14 100 9).toInt = _ := congrArg Int32.toInt ((((((hkI14.get (100) 9 rfl)).trans (hkI12.get (100) 9 rfl)).trans (hkI10.get (100) 9 rfl)).trans (hkI8.get (100) 9 rfl)).trans (hkI6.get (100) 9 rfl))
        exact m_iret hx hb hr hlocks hM hS (Nat.le_of_ble_eq_true rfl) (Nat.le_of_ble_eq_true rfl) ⟨_, _, rfl, hI, hK, ⟨rfl, by omega, by rw [show I14 104 = Ia19 104 from (((((hkI14.getA 104 rfl)).trans (hkI12.getA 104 rfl)).trans (hkI10.getA 104 rfl)).trans (hkI8.getA 104 rfl)).trans (hkI6.getA 104 rfl)]; exact hy6.fin (by omega)⟩⟩ dX8_addYard_121
      · have hc5 := c5
        have q5 := q_nlt hc5
        refine lv_iload_n hx hb dX8_addYard_26 rfl (lv_at hl 3 rfl) ?_
        refine lv_istore (lv' := [(7, .int (a0)), (6, .int (x6_19)), (5, .int (I (100) 9)), (0, .ref (ad (100))), (1, .int (a0)), (2, .int (a1)), (3, .int (a2)), (4, .int (a3))]) hx hb dX8_addYard_27 hl (by decide) rfl (fun ls hl => ?_)
        have loop29 : ∀ (n : Nat) (x7_29 : Int32) (Ia29 : MI) (La29 : ML) (H : Heap) (locs : List Loc) (ls : Array Slot), INV Ia29 → Kp [(104, 105), (108, 109)] [(100, 9)] I Ia29 → (0 ≤ x7_29.toInt ∧ x7_29.toInt ≤ 24) → ((Ia29 100 9).toInt = (I 100 9).toInt + 1 ∧ a0.toInt ≤ (x7_29).toInt) → (YP (I 104) (Ia29 104) (I 100 9) a0 a1 a2 a3 (x6_19).toInt (x7_29).toInt) → (24 - x7_29.toInt).toNat < n → Mem D A ad ns Ia29 La29 G H → va_S A s.heap H locs → lv_has ls 8 [(7, .int (x7_29)), (6, .int (x6_19)), (5, .int (I (100) 9)), (0, .ref (ad (100))), (1, .int (a0)), (2, .int (a1)), (3, .int (a2)), (4, .int (a3))] → W p l e ({ frames := 1, cells := 0, slots := 0, locals := 23 } : Room) s m args below meth c H locs 0 0 (MQ below (va_Qi (fun r u => ∃ I2 L2, u = (ad, ns, I2, L2, G) ∧ INV I2 ∧ Kp [(104, 105), (108, 109)] [(100, 9)] I I2 ∧ (r = I 100 9 ∧ (I2 100 9).toInt = (I 100 9).toInt + 1 ∧ YF (I 104) (I2 104) (I 100 9) a0 a1 a2 a3)) (BM D A) A) args s 0 0 A) (F0 m 29 ls []) := by
          intro n
          induction n with
          | zero =>
            intro x7_29 Ia29 La29 H locs ls hI hK hr7_29 h9_7 hy7 hmu
            exact absurd hmu (Nat.not_lt_zero _)
          | succ n ih29 =>
            intro x7_29 Ia29 La29 H locs ls hI hK hr7_29 h9_7 hy7 hmu29 hM hS hl
            refine lv_iload hx hb dX8_addYard_29 (lv_at hl 0 rfl) ?_
            refine lv_iload_n hx hb dX8_addYard_31 rfl (lv_at hl 6 rfl) ?_
            refine lv_icmp_gt (tgt := 71) hx hb dX8_addYard_32 (by decide) (fun c16 => ?_) (fun c16 => ?_)
            · have hc16 := c16
              have q16 := q_lt hc16
              obtain ⟨v17, ev17⟩ : ∃ z : Int32, z = x6_19 + Int32.ofInt (1) := ⟨_, rfl⟩
              have tv17 := a_inc ev17 (by decide) (by omega) (by omega)
              refine lv_iinc (v := v17) (lv' := [(6, .int (v17)), (7, .int (x7_29)), (5, .int (I (100) 9)), (0, .ref (ad (100))), (1, .int (a0)), (2, .int (a1)), (3, .int (a2)), (4, .int (a3))]) hx hb dX8_addYard_71 hl (k := 1) rfl ev17.symm (by decide) rfl (fun ls hl => ?_)
              refine lv_goto (tgt := 19) hx hb dX8_addYard_74 (by decide) ?_
              exact ih19 (v17) Ia29 La29 _ _ ls hI hK (by first | omega | decide) (by omega) (by have hh := hy7.row (by omega); rw [show (v17).toInt = (x6_19).toInt + 1 from by omega]; exact hh) (by omega) hM hS (lv_sub hl [0, 2, 3, 4, 5, 6, 7] rfl)
            · have hc16 := c16
              have q16 := q_nlt hc16
              refine lv_aload_n hx hb dX8_addYard_35 rfl (lv_at hl 3 rfl) ?_
              refine m_getr (100) 13 (104) hx hb hts hown hE oc8 hM (hG.1 100 (by decide)) rfl (by decide) rfl (hG.2 (100, 13, 104) (by decide)) (by decide) tb_75 dX8_addYard_36 ?_
              refine lv_iload hx hb dX8_addYard_39 (lv_at hl 0 rfl) ?_
              refine lv_iload hx hb dX8_addYard_41 (lv_at hl 1 rfl) ?_
              refine m_calli (m_runSN (As := [.int (x7_29), .int (x6_19)]) (rest := [.ref (ad (104))]) hx hb hml hown hts hE hM hS hA ce_X9_cellOf (List.mem_of_getElem? (i := 5) rfl) (V_X9_cellOf l D A ad ns Ia29 La29 G (x7_29) (x6_19) hI (by first | omega | decide) (by first | omega | decide)) rfl rfl ⟨Nat.le_of_ble_eq_true rfl, Nat.le_of_ble_eq_true rfl⟩  rfl hl.1 rfl (Nat.le_of_ble_eq_true rfl) dX8_addYard_43 ⟨Nat.le_of_ble_eq_true rfl, Nat.le_of_ble_eq_true rfl⟩) hS (fun r18 u H locs hw hM hS => ?_)
              obtain ⟨rfl, xr18⟩ := hw
              have hM : Mem D A ad ns Ia29 La29 G H := hM
              refine m_iald (104) hx hb hE hM (hG.1 104 (by decide)) rfl (vp_in_iff.mpr (by omega)) dX8_addYard_46 ?_
              have g19 := hI.get (104) ((r18).toNatClampNeg) (lo := -1) (hi := 7) rfl
              refine lv_iconst (v := (-1)) hx hb dX8_addYard_47 (by decide) ?_
              refine lv_icmp_ne (tgt := 65) hx hb dX8_addYard_48 (by decide) (fun c20 => ?_) (fun c20 => ?_)
              · have hc20 := c20
                have q20 := q_ne hc20
                obtain ⟨v21, ev21⟩ : ∃ z : Int32, z = x7_29 + Int32.ofInt (1) := ⟨_, rfl⟩
                have tv21 := a_inc ev21 (by decide) (by omega) (by omega)
                refine lv_iinc (v := v21) (lv' := [(7, .int (v21)), (6, .int (x6_19)), (5, .int (I (100) 9)), (0, .ref (ad (100))), (1, .int (a0)), (2, .int (a1)), (3, .int (a2)), (4, .int (a3))]) hx hb dX8_addYard_65 hl (k := 0) rfl ev21.symm (by decide) rfl (fun ls hl => ?_)
                refine lv_goto (tgt := 29) hx hb dX8_addYard_68 (by decide) ?_
                have z1 := tn (i := r18) (by omega)
                exact ih29 (v21) Ia29 La29 _ _ ls hI hK (by first | omega | decide) (by omega) (by rw [show (v21).toInt = (x7_29).toInt + 1 from by omega]; exact YP.step (q0 := (r18).toNatClampNeg) hy7 (by omega) (by omega) (by omega) (fun q => by rw [if_neg (fun z => absurd (Int32.toInt_inj.mp (z.2.trans km1.symm)) c20)])) (by omega) hM hS (lv_sub hl [0, 1, 2, 3, 4, 5, 6, 7] rfl)
              · have hc20 := c20
                have q20 := q_eq hc20
                refine lv_aload_n hx hb dX8_addYard_51 rfl (lv_at hl 3 rfl) ?_
                refine m_getr (100) 13 (104) hx hb hts hown hE oc8 hM (hG.1 100 (by decide)) rfl (by decide) rfl (hG.2 (100, 13, 104) (by decide)) (by decide) tb_75 dX8_addYard_52 ?_
                refine lv_iload hx hb dX8_addYard_55 (lv_at hl 0 rfl) ?_
                refine lv_iload hx hb dX8_addYard_57 (lv_at hl 1 rfl) ?_
                refine m_calli (m_runSN (As := [.int (x7_29), .int (x6_19)]) (rest := [.ref (ad (104))]) hx hb hml hown hts hE hM hS hA ce_X9_cellOf (List.mem_of_getElem? (i := 5) rfl) (V_X9_cellOf l D A ad ns Ia29 La29 G (x7_29) (x6_19) hI (by first | omega | decide) (by first | omega | decide)) rfl rfl ⟨Nat.le_of_ble_eq_true rfl, Nat.le_of_ble_eq_true rfl⟩  rfl hl.1 rfl (Nat.le_of_ble_eq_true rfl) dX8_addYard_59 ⟨Nat.le_of_ble_eq_true rfl, Nat.le_of_ble_eq_true rfl⟩) hS (fun r23 u H locs hw hM hS => ?_)
                obtain ⟨rfl, xr23⟩ := hw
                have hM : Mem D A ad ns Ia29 La29 G H := hM
                refine lv_iload hx hb dX8_addYard_62 (lv_at hl 2 rfl) ?_
                refine m_iast (104) hx hb hE hM hS (hG.1 104 (by decide)) rfl (vp_in_iff.mpr (by omega)) dX8_addYard_64 (fun H locs I24 eI24 hM hS => ?_)
                subst eI24
                have hI := hI.put (n := 104) (k := ((r23).toNatClampNeg)) (v := I (100) 9) (lo := -1) (hi := 7) rfl (by first | omega | decide)
                have hK := hK.put (n := 104) (k := ((r23).toNatClampNeg)) (v := I (100) 9) (by first | rfl | simp [inR])
                obtain ⟨v25, ev25⟩ : ∃ z : Int32, z = x7_29 + Int32.ofInt (1) := ⟨_, rfl⟩
                have tv25 := a_inc ev25 (by decide) (by omega) (by omega)
                refine lv_iinc (v := v25) (lv' := [(7, .int (v25)), (6, .int (x6_19)), (5, .int (I (100) 9)), (0, .ref (ad (100))), (1, .int (a0)), (2, .int (a1)), (3, .int (a2)), (4, .int (a3))]) hx hb dX8_addYard_65 hl (k := 0) rfl ev25.symm (by decide) rfl (fun ls hl => ?_)
                refine lv_goto (tgt := 29) hx hb dX8_addYard_68 (by decide) ?_
                have tz26 : ((u2 Ia29 (104) ((r23).toNatClampNeg) (I (100) 9)) 100 9).toInt = _ := congrArg Int32.toInt ((show (u2 Ia29 (104) ((r23).toNatClampNeg) (I (100) 9)) (100) 9 = Ia29 (100) 9 from by simp [u2_v]))
                have z1 := tn (i := r18) (by omega)
                have z2 := tn (i := r23) (by omega)
                exact ih29 (v25) (u2 Ia29 (104) ((r23).toNatClampNeg) (I (100) 9)) La29 _ _ ls hI hK (by first | omega | decide) (by omega) (by rw [show (v25).toInt = (x7_29).toInt + 1 from by omega]; exact YP.step (q0 := (r18).toNatClampNeg) hy7 (by omega) (by omega) (by omega) (fun q => by rw [u2_v]; by_cases hq : q = (r18).toNatClampNeg; rw [if_pos ⟨rfl, by omega⟩, if_pos ⟨hq, by rw [c20]; exact km1⟩]; rw [if_neg (fun z => hq (by omega)), if_neg (fun z => hq z.1)])) (by omega) hM hS (lv_sub hl [0, 1, 2, 3, 4, 5, 6, 7] rfl)
        exact loop29 (_ + 1) (a0) Ia19 La19 _ _ ls hI hK (by first | omega | decide) (by omega) hy6 (Nat.lt_succ_self _) hM hS (lv_sub hl [0, 1, 2, 3, 4, 5, 6, 7] rfl)
  exact loop19 (_ + 1) (a1) (u2 I (100) 9 (v2)) L _ _ ls hI hK (by first | omega | decide) (by omega) (by rw [show (u2 I (100) 9 (v2)) 104 = I 104 from (show (u2 I (100) 9 (v2)) 104 = I 104 from by funext zz; simp [u2_v])]; exact YP.z) (Nat.lt_succ_self _) hM hS (lv_sub hl [0, 1, 2, 3, 4, 5, 6] rfl)
def ADDY (ok : Prop) (r : Int32) (I I2 : MI) (a b c d : Int32) : Prop := (ok ∧ r = I 100 9 ∧ (I2 100 9).toInt = (I 100 9).toInt + 1 ∧ YF (I 104) (I2 104) (I 100 9) a b c d) ∨ (¬ ok ∧ r = -1 ∧ I2 = I)
def ADDYM (ok : Prop) (r : Int32) (I I2 : MI) (a b c d : Int32) : Prop := (ok ∧ r = I 1001 9 ∧ (I2 1001 9).toInt = (I 1001 9).toInt + 1 ∧ I2 1017 = u2 I 1017 (I 1001 9).toNatClampNeg a 1017 ∧ I2 1018 = u2 I 1018 (I 1001 9).toNatClampNeg b 1018 ∧ I2 1019 = u2 I 1019 (I 1001 9).toNatClampNeg c 1019 ∧ I2 1020 = u2 I 1020 (I 1001 9).toNatClampNeg d 1020) ∨ (¬ ok ∧ r = -1 ∧ I2 = I)
set_option maxHeartbeats 4000000 in
set_option maxRecDepth 20000 in
theorem V_X9_yard_g (l : Launch) (D : va_G) (A : Nat → Prop) (ad : Nat → Nat) (ns : List Nat) (I : MI) (L : ML) (G : MG) (a0 : Int32) (a1 : Int32) (a2 : Int32) (a3 : Int32) (a4 : Int32) (a5 : Int32) (hG : SGC ns G) (hI : INV I) : Met l yX9_yard (wd yX9_yard cX9_yard 8 (some .int)) ({ frames := 2, cells := 0, slots := 0, locals := 50 }) (va_Pc [.ref (ad (0)), .int a0, .int a1, .int a2, .int a3, .int a4, .int a5] (PM D A ad ns I L G)) (va_Qi (fun r u => ∃ I2 L2, u = (ad, ns, I2, L2, G) ∧ INV I2 ∧ Kp [(104, 105), (108, 109)] [(100, 9)] I I2 ∧ (ADDY (((0 ≤ a0.toInt ∧ a0.toInt < (I 100 0).toInt ∧ 0 ≤ a1.toInt ∧ a1.toInt < (I 100 1).toInt) ∧ (0 ≤ a2.toInt ∧ a2.toInt < (I 100 0).toInt ∧ 0 ≤ a3.toInt ∧ a3.toInt < (I 100 1).toInt) ∧ a0.toInt ≤ a2.toInt ∧ a1.toInt ≤ a3.toInt) ∧ (I 100 9).toInt < 8 ∧ (1 ≤ a4.toInt ∧ a4.toInt ≤ 1000) ∧ 0 ≤ a5.toInt ∧ a5.toInt ≤ 9999999) r I I2 a0 a1 a2 a3)) (BM D A) A) 0 0 A := by
  refine m_ofW (by decide) (Nat.le_of_ble_eq_true rfl) ?_
  intro p e s m below meth c ls args hC hE hM hA hS hl
  obtain ⟨hx, hb, hml, hown, hts, hr, hlocks, hin⟩ := hC
  have km1 : (-1 : Int32).toInt = -1 := by decide
  have k0 : (0 : Int32).toInt = 0 := by decide
  have k1 : (1 : Int32).toInt = 1 := by decide
  have k2 : (2 : Int32).toInt = 2 := by decide
  have k8 : (8 : Int32).toInt = 8 := by decide
  have k1000 : (1000 : Int32).toInt = 1000 := by decide
  have k9999999 : (9999999 : Int32).toInt = 9999999 := by decide
  have hK : Kp [(104, 105), (108, 109)] [(100, 9)] I I := Kp.rf
  have hl : lv_has ls 8 [(0, .ref (ad (0))), (1, .int (a0)), (2, .int (a1)), (3, .int (a2)), (4, .int (a3)), (5, .int (a4)), (6, .int (a5))] := hl
  refine lv_aload_n hx hb dX9_yard_0 rfl (lv_at hl 0 rfl) ?_
  refine m_getr (0) 0 (100) hx hb hts hown hE oc9 hM (hG.1 0 (by decide)) rfl (by decide) rfl (hG.2 (0, 0, 100) (by decide)) (by decide) tb_398 dX9_yard_1 ?_
  refine lv_iload_n hx hb dX9_yard_4 rfl (lv_at hl 1 rfl) ?_
  refine lv_iload_n hx hb dX9_yard_5 rfl (lv_at hl 2 rfl) ?_
  refine lv_iload_n hx hb dX9_yard_6 rfl (lv_at hl 3 rfl) ?_
  refine lv_iload hx hb dX9_yard_7 (lv_at hl 4 rfl) ?_
  refine m_calli (m_runV (100) (As := [.int (a0), .int (a1), .int (a2), .int (a3)]) (rest := []) hx hb hml hown hts hE hM hS hA ce_X8_hasRectangle tb_465 (V_X8_hasRectangle_100 l D A ad ns I L G (a0) (a1) (a2) (a3) hG hI) rfl rfl ⟨Nat.le_of_ble_eq_true rfl, Nat.le_of_ble_eq_true rfl⟩ (hG.1 100 (by decide)) rfl rfl (by decide) rfl hl.1 rfl (Nat.le_of_ble_eq_true rfl) dX9_yard_9 ⟨Nat.le_of_ble_eq_true rfl, Nat.le_of_ble_eq_true rfl⟩) hS (fun r1 u H locs hw hM hS => ?_)
  obtain ⟨rfl, xr1⟩ := hw
  have hM : Mem D A ad ns I L G H := hM
  have yr1 := bo01 xr1
  have g2 := hI.get 100 0 (lo := 0) (hi := 24) rfl
  have g3 := hI.get 100 1 (lo := 0) (hi := 24) rfl
  refine lv_if_eq (tgt := 27) hx hb dX9_yard_12 (by decide) (fun c4 => ?_) (fun c4 => ?_)
  · have hc4 := c4
    have q4 := xr1.f hc4
    refine lv_iconst (v := (-1)) hx hb dX9_yard_27 (by decide) ?_
    exact m_iret hx hb hr hlocks hM hS (Nat.le_of_ble_eq_true rfl) (Nat.le_of_ble_eq_true rfl) ⟨_, _, rfl, hI, hK, (Or.inr ⟨by omega, rfl, rfl⟩)⟩ dX9_yard_28
  · have hc4 := c4
    have q4 := xr1.t hc4
    refine lv_aload_n hx hb dX9_yard_15 rfl (lv_at hl 0 rfl) ?_
    refine m_getr (0) 0 (100) hx hb hts hown hE oc9 hM (hG.1 0 (by decide)) rfl (by decide) rfl (hG.2 (0, 0, 100) (by decide)) (by decide) tb_398 dX9_yard_16 ?_
    refine m_geti (100) 9 hx hb hts hown hE oc8 hM (hG.1 100 (by decide)) rfl (by decide) rfl tb_64 dX9_yard_19 ?_
    have g5 := hI.get (100) 9 (lo := 0) (hi := 8) rfl
    refine lv_bipush (v := (8)) hx hb dX9_yard_22 (by decide) ?_
    refine lv_icmp_lt (tgt := 29) hx hb dX9_yard_24 (by decide) (fun c6 => ?_) (fun c6 => ?_)
    · have hc6 := c6
      have q6 := q_lt hc6
      refine lv_iload hx hb dX9_yard_29 (lv_at hl 5 rfl) ?_
      refine lv_iconst (v := (1)) hx hb dX9_yard_31 (by decide) ?_
      refine lv_sipush (v := (1000)) hx hb dX9_yard_32 (by decide) ?_
      refine m_calli (m_runS (As := [.int (a4), .int (1), .int (1000)]) (rest := []) hx hb hml hown hts hE hM hS hA ce_X9_isWithin tb_451 (V_X9_isWithin l D A ad ns I L G (a4) (1) (1000) hI) rfl rfl ⟨Nat.le_of_ble_eq_true rfl, Nat.le_of_ble_eq_true rfl⟩  rfl hl.1 rfl (Nat.le_of_ble_eq_true rfl) dX9_yard_35 ⟨Nat.le_of_ble_eq_true rfl, Nat.le_of_ble_eq_true rfl⟩) hS (fun r7 u H locs hw hM hS => ?_)
      obtain ⟨rfl, xr7⟩ := hw
      have hM : Mem D A ad ns I L G H := hM
      have yr7 := bo01 xr7
      refine lv_if_eq (tgt := 52) hx hb dX9_yard_38 (by decide) (fun c8 => ?_) (fun c8 => ?_)
      · have hc8 := c8
        have q8 := xr7.f hc8
        refine lv_iconst (v := (-1)) hx hb dX9_yard_52 (by decide) ?_
        exact m_iret hx hb hr hlocks hM hS (Nat.le_of_ble_eq_true rfl) (Nat.le_of_ble_eq_true rfl) ⟨_, _, rfl, hI, hK, (Or.inr ⟨by omega, rfl, rfl⟩)⟩ dX9_yard_53
      · have hc8 := c8
        have q8 := xr7.t hc8
        refine lv_iload hx hb dX9_yard_41 (lv_at hl 6 rfl) ?_
        refine lv_iconst (v := (0)) hx hb dX9_yard_43 (by decide) ?_
        refine lv_ldc (v := (9999999)) hx hb hown (hts _ tb_524) dX9_yard_44 ?_
        refine m_calli (m_runS (As := [.int (a5), .int (0), .int (9999999)]) (rest := []) hx hb hml hown hts hE hM hS hA ce_X9_isWithin tb_451 (V_X9_isWithin l D A ad ns I L G (a5) (0) (9999999) hI) rfl rfl ⟨Nat.le_of_ble_eq_true rfl, Nat.le_of_ble_eq_true rfl⟩  rfl hl.1 rfl (Nat.le_of_ble_eq_true rfl) dX9_yard_46 ⟨Nat.le_of_ble_eq_true rfl, Nat.le_of_ble_eq_true rfl⟩) hS (fun r9 u H locs hw hM hS => ?_)
        obtain ⟨rfl, xr9⟩ := hw
        have hM : Mem D A ad ns I L G H := hM
        have yr9 := bo01 xr9
        refine lv_if_ne (tgt := 54) hx hb dX9_yard_49 (by decide) (fun c10 => ?_) (fun c10 => ?_)
        · have hc10 := c10
          have q10 := xr9.t hc10
          refine lv_aload_n hx hb dX9_yard_54 rfl (lv_at hl 0 rfl) ?_
          refine m_getr (0) 0 (100) hx hb hts hown hE oc9 hM (hG.1 0 (by decide)) rfl (by decide) rfl (hG.2 (0, 0, 100) (by decide)) (by decide) tb_398 dX9_yard_55 ?_
          refine lv_iload_n hx hb dX9_yard_58 rfl (lv_at hl 1 rfl) ?_
          refine lv_iload_n hx hb dX9_yard_59 rfl (lv_at hl 2 rfl) ?_
          refine lv_iload_n hx hb dX9_yard_60 rfl (lv_at hl 3 rfl) ?_
          refine lv_iload hx hb dX9_yard_61 (lv_at hl 4 rfl) ?_
          refine m_calli (m_runV (100) (As := [.int (a0), .int (a1), .int (a2), .int (a3)]) (rest := []) hx hb hml hown hts hE hM hS hA ce_X8_addYard tb_525 (V_X8_addYard_g l D A ad ns I L G (a0) (a1) (a2) (a3) hG hI (by first | omega | decide) (by first | omega | decide) (by first | omega | decide) (by first | omega | decide) (by first | omega | decide)) rfl rfl ⟨Nat.le_of_ble_eq_true rfl, Nat.le_of_ble_eq_true rfl⟩ (hG.1 100 (by decide)) rfl rfl (by decide) rfl hl.1 rfl (Nat.le_of_ble_eq_true rfl) dX9_yard_63 ⟨Nat.le_of_ble_eq_true rfl, Nat.le_of_ble_eq_true rfl⟩) hS (fun r11 u H locs hw hM hS => ?_)
          obtain ⟨I12, L13, rfl, hI, hkI12, xr11⟩ := hw
          have hM : Mem D A ad ns I12 L13 G H := hM
          have hK := hK.trans hkI12 rfl
          have rrr11 := congrArg Int32.toInt xr11.1
          refine lv_istore (lv' := [(7, .int (r11)), (0, .ref (ad (0))), (1, .int (a0)), (2, .int (a1)), (3, .int (a2)), (4, .int (a3)), (5, .int (a4)), (6, .int (a5))]) hx hb dX9_yard_66 hl (by decide) rfl (fun ls hl => ?_)
          refine lv_aload_n hx hb dX9_yard_68 rfl (lv_at hl 1 rfl) ?_
          refine m_getr (0) 0 (100) hx hb hts hown hE oc9 hM (hG.1 0 (by decide)) rfl (by decide) rfl (hG.2 (0, 0, 100) (by decide)) (by decide) tb_398 dX9_yard_69 ?_
          refine lv_iload hx hb dX9_yard_72 (lv_at hl 0 rfl) ?_
          refine lv_iconst (v := (2)) hx hb dX9_yard_74 (by decide) ?_
          refine lv_iload hx hb dX9_yard_75 (lv_at hl 6 rfl) ?_
          refine m_callv (m_runV (100) (As := [.int (r11), .int (2), .int (a4)]) (rest := []) hx hb hml hown hts hE hM hS hA ce_X8_setYard tb_533 (V_X8_setYard_100 l D A ad ns I12 L13 G (r11) (2) (a4) hG hI (by first | omega | decide) (by first | omega | decide)) rfl rfl ⟨Nat.le_of_ble_eq_true rfl, Nat.le_of_ble_eq_true rfl⟩ (hG.1 100 (by decide)) rfl rfl (by decide) rfl hl.1 rfl (Nat.le_of_ble_eq_true rfl) dX9_yard_77 ⟨Nat.le_of_ble_eq_true rfl, Nat.le_of_ble_eq_true rfl⟩) hS (fun u H locs hw hM hS => ?_)
          obtain ⟨I14, L15, rfl, hI, hkI14⟩ := hw
          have hM : Mem D A ad ns I14 L15 G H := hM
          have hK := hK.trans hkI14 rfl
          refine lv_aload_n hx hb dX9_yard_80 rfl (lv_at hl 1 rfl) ?_
          refine m_getr (0) 0 (100) hx hb hts hown hE oc9 hM (hG.1 0 (by decide)) rfl (by decide) rfl (hG.2 (0, 0, 100) (by decide)) (by decide) tb_398 dX9_yard_81 ?_
          refine lv_iload hx hb dX9_yard_84 (lv_at hl 0 rfl) ?_
          refine lv_iconst (v := (1)) hx hb dX9_yard_86 (by decide) ?_
          refine lv_iload hx hb dX9_yard_87 (lv_at hl 7 rfl) ?_
          refine m_callv (m_runV (100) (As := [.int (r11), .int (1), .int (a5)]) (rest := []) hx hb hml hown hts hE hM hS hA ce_X8_setYard tb_533 (V_X8_setYard_100 l D A ad ns I14 L15 G (r11) (1) (a5) hG hI (by first | omega | decide) (by first | omega | decide)) rfl rfl ⟨Nat.le_of_ble_eq_true rfl, Nat.le_of_ble_eq_true rfl⟩ (hG.1 100 (by decide)) rfl rfl (by decide) rfl hl.1 rfl (Nat.le_of_ble_eq_true rfl) dX9_yard_89 ⟨Nat.le_of_ble_eq_true rfl, Nat.le_of_ble_eq_true rfl⟩) hS (fun u H locs hw hM hS => ?_)
          obtain ⟨I16, L17, rfl, hI, hkI16⟩ := hw
          have hM : Mem D A ad ns I16 L17 G H := hM
          have hK := hK.trans hkI16 rfl
          refine lv_iload hx hb dX9_yard_92 (lv_at hl 0 rfl) ?_
          have tz9 : (I16 100 9).toInt = _ := congrArg Int32.toInt (((hkI16.get (100) 9 rfl)).trans (hkI14.get (100) 9 rfl))
          exact m_iret hx hb hr hlocks hM hS (Nat.le_of_ble_eq_true rfl) (Nat.le_of_ble_eq_true rfl) ⟨_, _, rfl, hI, hK, (Or.inl ⟨by omega, xr11.1, by omega, by rw [show I16 104 = I12 104 from ((hkI16.getA 104 rfl)).trans (hkI14.getA 104 rfl)]; exact xr11.2.2⟩)⟩ dX9_yard_94
        · have hc10 := c10
          have q10 := xr9.f hc10
          refine lv_iconst (v := (-1)) hx hb dX9_yard_52 (by decide) ?_
          exact m_iret hx hb hr hlocks hM hS (Nat.le_of_ble_eq_true rfl) (Nat.le_of_ble_eq_true rfl) ⟨_, _, rfl, hI, hK, (Or.inr ⟨by omega, rfl, rfl⟩)⟩ dX9_yard_53
    · have hc6 := c6
      have q6 := q_nlt hc6
      refine lv_iconst (v := (-1)) hx hb dX9_yard_27 (by decide) ?_
      exact m_iret hx hb hr hlocks hM hS (Nat.le_of_ble_eq_true rfl) (Nat.le_of_ble_eq_true rfl) ⟨_, _, rfl, hI, hK, (Or.inr ⟨by omega, rfl, rfl⟩)⟩ dX9_yard_28
set_option maxHeartbeats 4000000 in
set_option maxRecDepth 20000 in
theorem V_X10_yard_g (l : Launch) (D : va_G) (A : Nat → Prop) (ad : Nat → Nat) (ns : List Nat) (I : MI) (L : ML) (G : MG) (a0 : Int32) (a1 : Int32) (a2 : Int32) (a3 : Int32) (a4 : Int32) (a5 : Int32) (hJ : SGM ns G) (hI : INV I) : Met l yX10_yard (wd yX10_yard cX10_yard 8 (some .int)) ({ frames := 3, cells := 0, slots := 0, locals := 71 }) (va_Pc [.ref (ad (1000)), .int a0, .int a1, .int a2, .int a3, .int a4, .int a5] (PM D A ad ns I L G)) (va_Qi (fun r u => ∃ I2 L2, u = (ad, ns, I2, L2, G) ∧ INV I2 ∧ Kp [(1017, 1024)] [(1001, 9)] I I2 ∧ (ADDYM (((I 1001 0).toInt = 1 ∧ (0 ≤ a0.toInt ∧ a0.toInt < (I 1001 1).toInt ∧ 0 ≤ a1.toInt ∧ a1.toInt < (I 1001 2).toInt) ∧ (0 ≤ a2.toInt ∧ a2.toInt < (I 1001 1).toInt ∧ 0 ≤ a3.toInt ∧ a3.toInt < (I 1001 2).toInt) ∧ a0.toInt ≤ a2.toInt ∧ a1.toInt ≤ a3.toInt) ∧ (I 1001 9).toInt < 8 ∧ (1 ≤ a4.toInt ∧ a4.toInt ≤ 1000) ∧ 0 ≤ a5.toInt ∧ a5.toInt ≤ 9999999) r I I2 a0 a1 a2 a3)) (BM D A) A) 0 0 A := by
  refine m_ofW (by decide) (Nat.le_of_ble_eq_true rfl) ?_
  intro p e s m below meth c ls args hC hE hM hA hS hl
  obtain ⟨hx, hb, hml, hown, hts, hr, hlocks, hin⟩ := hC
  have km1 : (-1 : Int32).toInt = -1 := by decide
  have k0 : (0 : Int32).toInt = 0 := by decide
  have k1 : (1 : Int32).toInt = 1 := by decide
  have k8 : (8 : Int32).toInt = 8 := by decide
  have k9 : (9 : Int32).toInt = 9 := by decide
  have kl0 : (0 : Int64).toInt = 0 := by decide
  have kl1 : (1 : Int64).toInt = 1 := by decide
  have kl1000 : (1000 : Int64).toInt = 1000 := by decide
  have kl9999999 : (9999999 : Int64).toInt = 9999999 := by decide
  have hK : Kp [(1017, 1024)] [(1001, 9)] I I := Kp.rf
  have hl : lv_has ls 8 [(0, .ref (ad (1000))), (1, .int (a0)), (2, .int (a1)), (3, .int (a2)), (4, .int (a3)), (5, .int (a4)), (6, .int (a5))] := hl
  refine lv_aload_n hx hb dX10_yard_0 rfl (lv_at hl 0 rfl) ?_
  refine m_getr (1000) 1 (1001) hx hb hts hown hE oc10 hM hJ.1 rfl (by decide) rfl (hJ.2 1 (by decide)).2 (by decide) tb_1178 dX10_yard_1 ?_
  refine lv_bipush (v := (9)) hx hb dX10_yard_4 (by decide) ?_
  refine m_iald (1001) hx hb hE hM (hJ.2 1 (by decide)).1 rfl (vp_in_iff.mpr (by decide)) dX10_yard_6 ?_
  rw [show (9 : Int32).toNatClampNeg = 9 from rfl]
  have g1 := hI.get (1001) 9 (lo := 0) (hi := 8) rfl
  refine lv_istore (lv' := [(7, .int (I (1001) 9)), (0, .ref (ad (1000))), (1, .int (a0)), (2, .int (a1)), (3, .int (a2)), (4, .int (a3)), (5, .int (a4)), (6, .int (a5))]) hx hb dX10_yard_7 hl (by decide) rfl (fun ls hl => ?_)
  refine lv_aload_n hx hb dX10_yard_9 rfl (lv_at hl 1 rfl) ?_
  refine lv_iload_n hx hb dX10_yard_10 rfl (lv_at hl 2 rfl) ?_
  refine lv_iload_n hx hb dX10_yard_11 rfl (lv_at hl 3 rfl) ?_
  refine lv_iload_n hx hb dX10_yard_12 rfl (lv_at hl 4 rfl) ?_
  refine lv_iload hx hb dX10_yard_13 (lv_at hl 5 rfl) ?_
  refine m_calli (m_runV (1000) (As := [.int (a0), .int (a1), .int (a2), .int (a3)]) (rest := []) hx hb hml hown hts hE hM hS hA ce_X10_isArea tb_1433 (V_X10_isArea l D A ad ns I L G (a0) (a1) (a2) (a3) hJ hI) rfl rfl ⟨Nat.le_of_ble_eq_true rfl, Nat.le_of_ble_eq_true rfl⟩ hJ.1 rfl rfl (by decide) rfl hl.1 rfl (Nat.le_of_ble_eq_true rfl) dX10_yard_15 ⟨Nat.le_of_ble_eq_true rfl, Nat.le_of_ble_eq_true rfl⟩) hS (fun r2 u H locs hw hM hS => ?_)
  obtain ⟨rfl, xr2⟩ := hw
  have hM : Mem D A ad ns I L G H := hM
  have yr2 := bo01 xr2
  have g3 := hI.get 1001 1 (lo := 0) (hi := 24) rfl
  have g4 := hI.get 1001 2 (lo := 0) (hi := 24) rfl
  refine lv_if_eq (tgt := 54) hx hb dX10_yard_18 (by decide) (fun c5 => ?_) (fun c5 => ?_)
  · have hc5 := c5
    have q5 := xr2.f hc5
    refine lv_iconst (v := (-1)) hx hb dX10_yard_54 (by decide) ?_
    exact m_iret hx hb hr hlocks hM hS (Nat.le_of_ble_eq_true rfl) (Nat.le_of_ble_eq_true rfl) ⟨_, _, rfl, hI, hK, (Or.inr ⟨by omega, rfl, rfl⟩)⟩ dX10_yard_55
  · have hc5 := c5
    have q5 := xr2.t hc5
    refine lv_iload hx hb dX10_yard_21 (lv_at hl 0 rfl) ?_
    refine lv_bipush (v := (8)) hx hb dX10_yard_23 (by decide) ?_
    refine lv_icmp_eq (tgt := 54) hx hb dX10_yard_25 (by decide) (fun c6 => ?_) (fun c6 => ?_)
    · have hc6 := c6
      have q6 := q_eq hc6
      refine lv_iconst (v := (-1)) hx hb dX10_yard_54 (by decide) ?_
      exact m_iret hx hb hr hlocks hM hS (Nat.le_of_ble_eq_true rfl) (Nat.le_of_ble_eq_true rfl) ⟨_, _, rfl, hI, hK, (Or.inr ⟨by omega, rfl, rfl⟩)⟩ dX10_yard_55
    · have hc6 := c6
      have q6 := q_ne hc6
      refine lv_iload hx hb dX10_yard_28 (lv_at hl 6 rfl) ?_
      refine lv_i2l hx hb dX10_yard_30 rfl ?_
      refine lv_topl (fun v7 ev7 => ?_)
      have tv7 := q_i2l ev7
      refine lv_lconst (v := 1) hx hb dX10_yard_31 (by decide) ?_
      refine lv_ldc2 (v := (1000)) hx hb hown (hts _ tb_1428) dX10_yard_32 ?_
      refine m_calli (m_runS (As := [.long (v7), .long (1), .long ((1000 : Int64))]) (rest := []) hx hb hml hown hts hE hM hS hA ce_X10_in tb_1425 (V_X10_in l D A ad ns I L G (v7) (1) ((1000 : Int64)) hI) rfl rfl ⟨Nat.le_of_ble_eq_true rfl, Nat.le_of_ble_eq_true rfl⟩  rfl hl.1 rfl (Nat.le_of_ble_eq_true rfl) dX10_yard_35 ⟨Nat.le_of_ble_eq_true rfl, Nat.le_of_ble_eq_true rfl⟩) hS (fun r8 u H locs hw hM hS => ?_)
      obtain ⟨rfl, xr8⟩ := hw
      have hM : Mem D A ad ns I L G H := hM
      have yr8 := bo01 xr8
      refine lv_if_eq (tgt := 54) hx hb dX10_yard_38 (by decide) (fun c9 => ?_) (fun c9 => ?_)
      · have hc9 := c9
        have q9 := xr8.f hc9
        refine lv_iconst (v := (-1)) hx hb dX10_yard_54 (by decide) ?_
        exact m_iret hx hb hr hlocks hM hS (Nat.le_of_ble_eq_true rfl) (Nat.le_of_ble_eq_true rfl) ⟨_, _, rfl, hI, hK, (Or.inr ⟨by omega, rfl, rfl⟩)⟩ dX10_yard_55
      · have hc9 := c9
        have q9 := xr8.t hc9
        refine lv_iload hx hb dX10_yard_41 (lv_at hl 7 rfl) ?_
        refine lv_i2l hx hb dX10_yard_43 rfl ?_
        refine lv_topl (fun v10 ev10 => ?_)
        have tv10 := q_i2l ev10
        refine lv_lconst (v := 0) hx hb dX10_yard_44 (by decide) ?_
        refine lv_ldc2 (v := (9999999)) hx hb hown (hts _ tb_1472) dX10_yard_45 ?_
        refine m_calli (m_runS (As := [.long (v10), .long (0), .long ((9999999 : Int64))]) (rest := []) hx hb hml hown hts hE hM hS hA ce_X10_in tb_1425 (V_X10_in l D A ad ns I L G (v10) (0) ((9999999 : Int64)) hI) rfl rfl ⟨Nat.le_of_ble_eq_true rfl, Nat.le_of_ble_eq_true rfl⟩  rfl hl.1 rfl (Nat.le_of_ble_eq_true rfl) dX10_yard_48 ⟨Nat.le_of_ble_eq_true rfl, Nat.le_of_ble_eq_true rfl⟩) hS (fun r11 u H locs hw hM hS => ?_)
        obtain ⟨rfl, xr11⟩ := hw
        have hM : Mem D A ad ns I L G H := hM
        have yr11 := bo01 xr11
        refine lv_if_ne (tgt := 56) hx hb dX10_yard_51 (by decide) (fun c12 => ?_) (fun c12 => ?_)
        · have hc12 := c12
          have q12 := xr11.t hc12
          refine lv_aload_n hx hb dX10_yard_56 rfl (lv_at hl 1 rfl) ?_
          refine m_getr (1000) 17 (1017) hx hb hts hown hE oc10 hM hJ.1 rfl (by decide) rfl (hJ.2 17 (by decide)).2 (by decide) tb_1194 dX10_yard_57 ?_
          refine lv_iload hx hb dX10_yard_60 (lv_at hl 0 rfl) ?_
          refine lv_iload_n hx hb dX10_yard_62 rfl (lv_at hl 2 rfl) ?_
          refine m_iast (1017) hx hb hE hM hS (hJ.2 17 (by decide)).1 rfl (vp_in_iff.mpr (by omega)) dX10_yard_63 (fun H locs I13 eI13 hM hS => ?_)
          subst eI13
          have hI := hI.putF (n := 1017) (k := ((I (1001) 9).toNatClampNeg)) (v := a0) rfl
          have hK := hK.put (n := 1017) (k := ((I (1001) 9).toNatClampNeg)) (v := a0) (by first | rfl | simp [inR])
          refine lv_aload_n hx hb dX10_yard_64 rfl (lv_at hl 1 rfl) ?_
          refine m_getr (1000) 18 (1018) hx hb hts hown hE oc10 hM hJ.1 rfl (by decide) rfl (hJ.2 18 (by decide)).2 (by decide) tb_1195 dX10_yard_65 ?_
          refine lv_iload hx hb dX10_yard_68 (lv_at hl 0 rfl) ?_
          refine lv_iload_n hx hb dX10_yard_70 rfl (lv_at hl 3 rfl) ?_
          refine m_iast (1018) hx hb hE hM hS (hJ.2 18 (by decide)).1 rfl (vp_in_iff.mpr (by omega)) dX10_yard_71 (fun H locs I14 eI14 hM hS => ?_)
          subst eI14
          have hI := hI.putF (n := 1018) (k := ((I (1001) 9).toNatClampNeg)) (v := a1) rfl
          have hK := hK.put (n := 1018) (k := ((I (1001) 9).toNatClampNeg)) (v := a1) (by first | rfl | simp [inR])
          refine lv_aload_n hx hb dX10_yard_72 rfl (lv_at hl 1 rfl) ?_
          refine m_getr (1000) 19 (1019) hx hb hts hown hE oc10 hM hJ.1 rfl (by decide) rfl (hJ.2 19 (by decide)).2 (by decide) tb_1196 dX10_yard_73 ?_
          refine lv_iload hx hb dX10_yard_76 (lv_at hl 0 rfl) ?_
          refine lv_iload_n hx hb dX10_yard_78 rfl (lv_at hl 4 rfl) ?_
          refine m_iast (1019) hx hb hE hM hS (hJ.2 19 (by decide)).1 rfl (vp_in_iff.mpr (by omega)) dX10_yard_79 (fun H locs I15 eI15 hM hS => ?_)
          subst eI15
          have hI := hI.putF (n := 1019) (k := ((I (1001) 9).toNatClampNeg)) (v := a2) rfl
          have hK := hK.put (n := 1019) (k := ((I (1001) 9).toNatClampNeg)) (v := a2) (by first | rfl | simp [inR])
          refine lv_aload_n hx hb dX10_yard_80 rfl (lv_at hl 1 rfl) ?_
          refine m_getr (1000) 20 (1020) hx hb hts hown hE oc10 hM hJ.1 rfl (by decide) rfl (hJ.2 20 (by decide)).2 (by decide) tb_1197 dX10_yard_81 ?_
          refine lv_iload hx hb dX10_yard_84 (lv_at hl 0 rfl) ?_
          refine lv_iload hx hb dX10_yard_86 (lv_at hl 5 rfl) ?_
          refine m_iast (1020) hx hb hE hM hS (hJ.2 20 (by decide)).1 rfl (vp_in_iff.mpr (by omega)) dX10_yard_88 (fun H locs I16 eI16 hM hS => ?_)
          subst eI16
          have hI := hI.putF (n := 1020) (k := ((I (1001) 9).toNatClampNeg)) (v := a3) rfl
          have hK := hK.put (n := 1020) (k := ((I (1001) 9).toNatClampNeg)) (v := a3) (by first | rfl | simp [inR])
          refine lv_aload_n hx hb dX10_yard_89 rfl (lv_at hl 1 rfl) ?_
          refine m_getr (1000) 21 (1021) hx hb hts hown hE oc10 hM hJ.1 rfl (by decide) rfl (hJ.2 21 (by decide)).2 (by decide) tb_1198 dX10_yard_90 ?_
          refine lv_iload hx hb dX10_yard_93 (lv_at hl 0 rfl) ?_
          refine lv_iload hx hb dX10_yard_95 (lv_at hl 6 rfl) ?_
          refine m_iast (1021) hx hb hE hM hS (hJ.2 21 (by decide)).1 rfl (vp_in_iff.mpr (by omega)) dX10_yard_97 (fun H locs I17 eI17 hM hS => ?_)
          subst eI17
          have hI := hI.putF (n := 1021) (k := ((I (1001) 9).toNatClampNeg)) (v := a4) rfl
          have hK := hK.put (n := 1021) (k := ((I (1001) 9).toNatClampNeg)) (v := a4) (by first | rfl | simp [inR])
          refine lv_aload_n hx hb dX10_yard_98 rfl (lv_at hl 1 rfl) ?_
          refine m_getr (1000) 22 (1022) hx hb hts hown hE oc10 hM hJ.1 rfl (by decide) rfl (hJ.2 22 (by decide)).2 (by decide) tb_1199 dX10_yard_99 ?_
          refine lv_iload hx hb dX10_yard_102 (lv_at hl 0 rfl) ?_
          refine lv_iload hx hb dX10_yard_104 (lv_at hl 7 rfl) ?_
          refine m_iast (1022) hx hb hE hM hS (hJ.2 22 (by decide)).1 rfl (vp_in_iff.mpr (by omega)) dX10_yard_106 (fun H locs I18 eI18 hM hS => ?_)
          subst eI18
          have hI := hI.putF (n := 1022) (k := ((I (1001) 9).toNatClampNeg)) (v := a5) rfl
          have hK := hK.put (n := 1022) (k := ((I (1001) 9).toNatClampNeg)) (v := a5) (by first | rfl | simp [inR])
          refine lv_aload_n hx hb dX10_yard_107 rfl (lv_at hl 1 rfl) ?_
          refine m_getr (1000) 23 (1023) hx hb hts hown hE oc10 hM hJ.1 rfl (by decide) rfl (hJ.2 23 (by decide)).2 (by decide) tb_1200 dX10_yard_108 ?_
          refine lv_iload hx hb dX10_yard_111 (lv_at hl 0 rfl) ?_
          refine lv_iconst (v := (0)) hx hb dX10_yard_113 (by decide) ?_
          refine m_iast (1023) hx hb hE hM hS (hJ.2 23 (by decide)).1 rfl (vp_in_iff.mpr (by omega)) dX10_yard_114 (fun H locs I19 eI19 hM hS => ?_)
          subst eI19
          have hI := hI.putF (n := 1023) (k := ((I (1001) 9).toNatClampNeg)) (v := 0) rfl
          have hK := hK.put (n := 1023) (k := ((I (1001) 9).toNatClampNeg)) (v := 0) (by first | rfl | simp [inR])
          refine lv_aload_n hx hb dX10_yard_115 rfl (lv_at hl 1 rfl) ?_
          refine m_getr (1000) 1 (1001) hx hb hts hown hE oc10 hM hJ.1 rfl (by decide) rfl (hJ.2 1 (by decide)).2 (by decide) tb_1178 dX10_yard_116 ?_
          refine lv_bipush (v := (9)) hx hb dX10_yard_119 (by decide) ?_
          refine lv_dup2_11 hx hb dX10_yard_121 rfl rfl ?_
          refine m_iald (1001) hx hb hE hM (hJ.2 1 (by decide)).1 rfl (vp_in_iff.mpr (by decide)) dX10_yard_122 ?_
          rw [show (9 : Int32).toNatClampNeg = 9 from rfl]
          have z20 : (u2 (u2 (u2 (u2 (u2 (u2 (u2 I (1017) ((I (1001) 9).toNatClampNeg) (a0)) (1018) ((I (1001) 9).toNatClampNeg) (a1)) (1019) ((I (1001) 9).toNatClampNeg) (a2)) (1020) ((I (1001) 9).toNatClampNeg) (a3)) (1021) ((I (1001) 9).toNatClampNeg) (a4)) (1022) ((I (1001) 9).toNatClampNeg) (a5)) (1023) ((I (1001) 9).toNatClampNeg) (0)) (1001) 9 = I (1001) 9 := (show (u2 (u2 (u2 (u2 (u2 (u2 (u2 I (1017) ((I (1001) 9).toNatClampNeg) (a0)) (1018) ((I (1001) 9).toNatClampNeg) (a1)) (1019) ((I (1001) 9).toNatClampNeg) (a2)) (1020) ((I (1001) 9).toNatClampNeg) (a3)) (1021) ((I (1001) 9).toNatClampNeg) (a4)) (1022) ((I (1001) 9).toNatClampNeg) (a5)) (1023) ((I (1001) 9).toNatClampNeg) (0)) (1001) 9 = I (1001) 9 from by simp [u2_v])
          rw [z20]
          refine lv_iconst (v := (1)) hx hb dX10_yard_123 (by decide) ?_
          refine lv_iadd hx hb dX10_yard_124 ?_
          refine lv_topi (fun v21 ev21 => ?_)
          have tv21 := a_add ev21 (by omega) (by omega)
          refine m_iast (1001) hx hb hE hM hS (hJ.2 1 (by decide)).1 rfl (vp_in_iff.mpr (by decide)) dX10_yard_125 (fun H locs I22 eI22 hM hS => ?_)
          rw [show (9 : Int32).toNatClampNeg = 9 from rfl] at eI22
          subst eI22
          have hI := hI.put (n := 1001) (k := 9) (v := v21) (lo := 0) (hi := 8) rfl (by first | omega | decide)
          have hK := hK.put (n := 1001) (k := 9) (v := v21) (by first | rfl | simp [inR])
          refine lv_iload hx hb dX10_yard_126 (lv_at hl 0 rfl) ?_
          have tz9 : ((u2 (u2 (u2 (u2 (u2 (u2 (u2 (u2 I (1017) ((I (1001) 9).toNatClampNeg) (a0)) (1018) ((I (1001) 9).toNatClampNeg) (a1)) (1019) ((I (1001) 9).toNatClampNeg) (a2)) (1020) ((I (1001) 9).toNatClampNeg) (a3)) (1021) ((I (1001) 9).toNatClampNeg) (a4)) (1022) ((I (1001) 9).toNatClampNeg) (a5)) (1023) ((I (1001) 9).toNatClampNeg) (0)) (1001) 9 (v21)) 1001 9).toInt = _ := congrArg Int32.toInt ((show (u2 (u2 (u2 (u2 (u2 (u2 (u2 (u2 I (1017) ((I (1001) 9).toNatClampNeg) (a0)) (1018) ((I (1001) 9).toNatClampNeg) (a1)) (1019) ((I (1001) 9).toNatClampNeg) (a2)) (1020) ((I (1001) 9).toNatClampNeg) (a3)) (1021) ((I (1001) 9).toNatClampNeg) (a4)) (1022) ((I (1001) 9).toNatClampNeg) (a5)) (1023) ((I (1001) 9).toNatClampNeg) (0)) (1001) 9 (v21)) (1001) 9 = v21 from by simp [u2_v]))
          exact m_iret hx hb hr hlocks hM hS (Nat.le_of_ble_eq_true rfl) (Nat.le_of_ble_eq_true rfl) ⟨_, _, rfl, hI, hK, (Or.inl ⟨by omega, rfl, by omega, (by funext zz; simp [u2_v]), (by funext zz; simp [u2_v]), (by funext zz; simp [u2_v]), (by funext zz; simp [u2_v])⟩)⟩ dX10_yard_128
        · have hc12 := c12
          have q12 := xr11.f hc12
          refine lv_iconst (v := (-1)) hx hb dX10_yard_54 (by decide) ?_
          exact m_iret hx hb hr hlocks hM hS (Nat.le_of_ble_eq_true rfl) (Nat.le_of_ble_eq_true rfl) ⟨_, _, rfl, hI, hK, (Or.inr ⟨by omega, rfl, rfl⟩)⟩ dX10_yard_55
set_option maxHeartbeats 4000000 in
set_option maxRecDepth 20000 in
theorem V_X10_yardOf_g (l : Launch) (D : va_G) (A : Nat → Prop) (ad : Nat → Nat) (ns : List Nat) (I : MI) (L : ML) (G : MG) (a0 : Int32) (a1 : Int32) (hJ : SGM ns G) (hI : INV I) (ha0 : 0 ≤ a0.toInt ∧ a0.toInt ≤ 23) (ha1 : 0 ≤ a1.toInt ∧ a1.toInt ≤ 23) : Met l yX10_yardOf (wd yX10_yardOf cX10_yardOf 4 (some .int)) ({ frames := 1, cells := 0, slots := 0, locals := 25 }) (va_Pc [.ref (ad (1000)), .int a0, .int a1] (PM D A ad ns I L G)) (va_Qi (fun r u => u = (ad, ns, I, L, G) ∧ (r.toInt = yo (live I) (24 * (a1).toNatClampNeg + (a0).toNatClampNeg) (I 1001 9).toNatClampNeg)) (BM D A) A) 0 0 A := by
  refine m_ofW (by decide) (Nat.le_of_ble_eq_true rfl) ?_
  intro p e s m below meth c ls args hC hE hM hA hS hl
  obtain ⟨hx, hb, hml, hown, hts, hr, hlocks, hin⟩ := hC
  have km1 : (-1 : Int32).toInt = -1 := by decide
  have k0 : (0 : Int32).toInt = 0 := by decide
  have k9 : (9 : Int32).toInt = 9 := by decide
  have hl : lv_has ls 4 [(0, .ref (ad (1000))), (1, .int (a0)), (2, .int (a1))] := hl
  refine lv_iconst (v := (0)) hx hb dX10_yardOf_0 (by decide) ?_
  refine lv_istore_n (lv' := [(3, .int (0)), (0, .ref (ad (1000))), (1, .int (a0)), (2, .int (a1))]) hx hb dX10_yardOf_1 rfl hl (by decide) rfl (fun ls hl => ?_)
  have loop2 : ∀ (n : Nat) (x3_2 : Int32) (H : Heap) (locs : List Loc) (ls : Array Slot), (0 ≤ x3_2.toInt ∧ x3_2.toInt ≤ 8) → ((x3_2).toInt ≤ (I 1001 9).toInt) → (yo (live I) (24 * (a1).toNatClampNeg + (a0).toNatClampNeg) (x3_2).toNatClampNeg = -1) → (8 - x3_2.toInt).toNat < n → Mem D A ad ns I L G H → va_S A s.heap H locs → lv_has ls 4 [(3, .int (x3_2)), (0, .ref (ad (1000))), (1, .int (a0)), (2, .int (a1))] → W p l e ({ frames := 1, cells := 0, slots := 0, locals := 25 } : Room) s m args below meth c H locs 0 0 (MQ below (va_Qi (fun r u => u = (ad, ns, I, L, G) ∧ (r.toInt = yo (live I) (24 * (a1).toNatClampNeg + (a0).toNatClampNeg) (I 1001 9).toNatClampNeg)) (BM D A) A) args s 0 0 A) (F0 m 2 ls []) := by
    intro n
    induction n with
    | zero =>
      intro x3_2 H locs ls hr3_2 hle2 hy2 hmu
      exact absurd hmu (Nat.not_lt_zero _)
    | succ n ih2 =>
      intro x3_2 H locs ls hr3_2 hle2 hy2 hmu2 hM hS hl
      refine lv_iload_n hx hb dX10_yardOf_2 rfl (lv_at hl 0 rfl) ?_
      refine lv_aload_n hx hb dX10_yardOf_3 rfl (lv_at hl 1 rfl) ?_
      refine m_getr (1000) 1 (1001) hx hb hts hown hE oc10 hM hJ.1 rfl (by decide) rfl (hJ.2 1 (by decide)).2 (by decide) tb_1178 dX10_yardOf_4 ?_
      refine lv_bipush (v := (9)) hx hb dX10_yardOf_7 (by decide) ?_
      refine m_iald (1001) hx hb hE hM (hJ.2 1 (by decide)).1 rfl (vp_in_iff.mpr (by decide)) dX10_yardOf_9 ?_
      rw [show (9 : Int32).toNatClampNeg = 9 from rfl]
      have g1 := hI.get (1001) 9 (lo := 0) (hi := 8) rfl
      refine lv_icmp_ge (tgt := 65) hx hb dX10_yardOf_10 (by decide) (fun c2 => ?_) (fun c2 => ?_)
      · have hc2 := c2
        have q2 := q_le hc2
        refine lv_iconst (v := (-1)) hx hb dX10_yardOf_65 (by decide) ?_
        exact m_iret hx hb hr hlocks hM hS (Nat.le_of_ble_eq_true rfl) (Nat.le_of_ble_eq_true rfl) ⟨rfl, (by rw [show (I 1001 9).toNatClampNeg = (x3_2).toNatClampNeg from congrArg Int32.toNatClampNeg (Int32.toInt_inj.mp (by omega)), hy2]; decide)⟩ dX10_yardOf_66
      · have hc2 := c2
        have q2 := q_nle hc2
        refine lv_iload_n hx hb dX10_yardOf_13 rfl (lv_at hl 2 rfl) ?_
        refine lv_i2l hx hb dX10_yardOf_14 rfl ?_
        refine lv_topl (fun v3 ev3 => ?_)
        have tv3 := q_i2l ev3
        refine lv_aload_n hx hb dX10_yardOf_15 rfl (lv_at hl 1 rfl) ?_
        refine m_getr (1000) 17 (1017) hx hb hts hown hE oc10 hM hJ.1 rfl (by decide) rfl (hJ.2 17 (by decide)).2 (by decide) tb_1194 dX10_yardOf_16 ?_
        refine lv_iload_n hx hb dX10_yardOf_19 rfl (lv_at hl 0 rfl) ?_
        refine m_iald (1017) hx hb hE hM (hJ.2 17 (by decide)).1 rfl (vp_in_iff.mpr (by omega)) dX10_yardOf_20 ?_
        refine lv_i2l hx hb dX10_yardOf_21 rfl ?_
        refine lv_topl (fun v4 ev4 => ?_)
        have tv4 := q_i2l ev4
        refine lv_aload_n hx hb dX10_yardOf_22 rfl (lv_at hl 1 rfl) ?_
        refine m_getr (1000) 19 (1019) hx hb hts hown hE oc10 hM hJ.1 rfl (by decide) rfl (hJ.2 19 (by decide)).2 (by decide) tb_1196 dX10_yardOf_23 ?_
        refine lv_iload_n hx hb dX10_yardOf_26 rfl (lv_at hl 0 rfl) ?_
        refine m_iald (1019) hx hb hE hM (hJ.2 19 (by decide)).1 rfl (vp_in_iff.mpr (by omega)) dX10_yardOf_27 ?_
        refine lv_i2l hx hb dX10_yardOf_28 rfl ?_
        refine lv_topl (fun v5 ev5 => ?_)
        have tv5 := q_i2l ev5
        refine m_calli (m_runS (As := [.long (v3), .long (v4), .long (v5)]) (rest := []) hx hb hml hown hts hE hM hS hA ce_X10_in tb_1425 (V_X10_in l D A ad ns I L G (v3) (v4) (v5) hI) rfl rfl ⟨Nat.le_of_ble_eq_true rfl, Nat.le_of_ble_eq_true rfl⟩  rfl hl.1 rfl (Nat.le_of_ble_eq_true rfl) dX10_yardOf_29 ⟨Nat.le_of_ble_eq_true rfl, Nat.le_of_ble_eq_true rfl⟩) hS (fun r6 u H locs hw hM hS => ?_)
        obtain ⟨rfl, xr6⟩ := hw
        have hM : Mem D A ad ns I L G H := hM
        have yr6 := bo01 xr6
        refine lv_if_eq (tgt := 59) hx hb dX10_yardOf_32 (by decide) (fun c7 => ?_) (fun c7 => ?_)
        · have hc7 := c7
          have q7 := xr6.f hc7
          obtain ⟨v8, ev8⟩ : ∃ z : Int32, z = x3_2 + Int32.ofInt (1) := ⟨_, rfl⟩
          have tv8 := a_inc ev8 (by decide) (by omega) (by omega)
          refine lv_iinc (v := v8) (lv' := [(3, .int (v8)), (0, .ref (ad (1000))), (1, .int (a0)), (2, .int (a1))]) hx hb dX10_yardOf_59 hl (k := 0) rfl ev8.symm (by decide) rfl (fun ls hl => ?_)
          refine lv_goto (tgt := 2) hx hb dX10_yardOf_62 (by decide) ?_
          exact ih2 (v8) _ _ ls (by first | omega | decide) (by omega) (by have z1 := tn (i := x3_2) (by omega); have z2 := tn (i := v8) (by omega); have z3 := tn (i := a0) (by omega); have z4 := tn (i := a1) (by omega); rw [show (v8).toNatClampNeg = (x3_2).toNatClampNeg + 1 from by omega]; exact yo_miss hy2 (fun hh => by have h1 : (I 1017 (x3_2).toNatClampNeg).toInt ≤ _ := hh.1.1; have h2 : _ ≤ (I 1019 (x3_2).toNatClampNeg).toInt := hh.1.2; have h3 : (I 1018 (x3_2).toNatClampNeg).toInt ≤ _ := hh.2.1; have h4 : _ ≤ (I 1020 (x3_2).toNatClampNeg).toInt := hh.2.2; omega)) (by omega) hM hS (lv_sub hl [0, 1, 2, 3] rfl)
        · have hc7 := c7
          have q7 := xr6.t hc7
          refine lv_iload_n hx hb dX10_yardOf_35 rfl (lv_at hl 3 rfl) ?_
          refine lv_i2l hx hb dX10_yardOf_36 rfl ?_
          refine lv_topl (fun v9 ev9 => ?_)
          have tv9 := q_i2l ev9
          refine lv_aload_n hx hb dX10_yardOf_37 rfl (lv_at hl 1 rfl) ?_
          refine m_getr (1000) 18 (1018) hx hb hts hown hE oc10 hM hJ.1 rfl (by decide) rfl (hJ.2 18 (by decide)).2 (by decide) tb_1195 dX10_yardOf_38 ?_
          refine lv_iload_n hx hb dX10_yardOf_41 rfl (lv_at hl 0 rfl) ?_
          refine m_iald (1018) hx hb hE hM (hJ.2 18 (by decide)).1 rfl (vp_in_iff.mpr (by omega)) dX10_yardOf_42 ?_
          refine lv_i2l hx hb dX10_yardOf_43 rfl ?_
          refine lv_topl (fun v10 ev10 => ?_)
          have tv10 := q_i2l ev10
          refine lv_aload_n hx hb dX10_yardOf_44 rfl (lv_at hl 1 rfl) ?_
          refine m_getr (1000) 20 (1020) hx hb hts hown hE oc10 hM hJ.1 rfl (by decide) rfl (hJ.2 20 (by decide)).2 (by decide) tb_1197 dX10_yardOf_45 ?_
          refine lv_iload_n hx hb dX10_yardOf_48 rfl (lv_at hl 0 rfl) ?_
          refine m_iald (1020) hx hb hE hM (hJ.2 20 (by decide)).1 rfl (vp_in_iff.mpr (by omega)) dX10_yardOf_49 ?_
          refine lv_i2l hx hb dX10_yardOf_50 rfl ?_
          refine lv_topl (fun v11 ev11 => ?_)
          have tv11 := q_i2l ev11
          refine m_calli (m_runS (As := [.long (v9), .long (v10), .long (v11)]) (rest := []) hx hb hml hown hts hE hM hS hA ce_X10_in tb_1425 (V_X10_in l D A ad ns I L G (v9) (v10) (v11) hI) rfl rfl ⟨Nat.le_of_ble_eq_true rfl, Nat.le_of_ble_eq_true rfl⟩  rfl hl.1 rfl (Nat.le_of_ble_eq_true rfl) dX10_yardOf_51 ⟨Nat.le_of_ble_eq_true rfl, Nat.le_of_ble_eq_true rfl⟩) hS (fun r12 u H locs hw hM hS => ?_)
          obtain ⟨rfl, xr12⟩ := hw
          have hM : Mem D A ad ns I L G H := hM
          have yr12 := bo01 xr12
          refine lv_if_eq (tgt := 59) hx hb dX10_yardOf_54 (by decide) (fun c13 => ?_) (fun c13 => ?_)
          · have hc13 := c13
            have q13 := xr12.f hc13
            obtain ⟨v14, ev14⟩ : ∃ z : Int32, z = x3_2 + Int32.ofInt (1) := ⟨_, rfl⟩
            have tv14 := a_inc ev14 (by decide) (by omega) (by omega)
            refine lv_iinc (v := v14) (lv' := [(3, .int (v14)), (0, .ref (ad (1000))), (1, .int (a0)), (2, .int (a1))]) hx hb dX10_yardOf_59 hl (k := 0) rfl ev14.symm (by decide) rfl (fun ls hl => ?_)
            refine lv_goto (tgt := 2) hx hb dX10_yardOf_62 (by decide) ?_
            exact ih2 (v14) _ _ ls (by first | omega | decide) (by omega) (by have z1 := tn (i := x3_2) (by omega); have z2 := tn (i := v14) (by omega); have z3 := tn (i := a0) (by omega); have z4 := tn (i := a1) (by omega); rw [show (v14).toNatClampNeg = (x3_2).toNatClampNeg + 1 from by omega]; exact yo_miss hy2 (fun hh => by have h1 : (I 1017 (x3_2).toNatClampNeg).toInt ≤ _ := hh.1.1; have h2 : _ ≤ (I 1019 (x3_2).toNatClampNeg).toInt := hh.1.2; have h3 : (I 1018 (x3_2).toNatClampNeg).toInt ≤ _ := hh.2.1; have h4 : _ ≤ (I 1020 (x3_2).toNatClampNeg).toInt := hh.2.2; omega)) (by omega) hM hS (lv_sub hl [0, 1, 2, 3] rfl)
          · have hc13 := c13
            have q13 := xr12.t hc13
            refine lv_iload_n hx hb dX10_yardOf_57 rfl (lv_at hl 0 rfl) ?_
            exact m_iret hx hb hr hlocks hM hS (Nat.le_of_ble_eq_true rfl) (Nat.le_of_ble_eq_true rfl) ⟨rfl, (by have z1 := tn (i := x3_2) (by omega); have z2 := tn (i := I 1001 9) (by omega); have z3 := tn (i := a0) (by omega); have z4 := tn (i := a1) (by omega); have hh := yo_hit hy2 (show yin (live I) (x3_2).toNatClampNeg (24 * (a1).toNatClampNeg + (a0).toNatClampNeg) from ⟨⟨show (I 1017 (x3_2).toNatClampNeg).toInt ≤ _ from by omega, show _ ≤ (I 1019 (x3_2).toNatClampNeg).toInt from by omega⟩, show (I 1018 (x3_2).toNatClampNeg).toInt ≤ _ from by omega, show _ ≤ (I 1020 (x3_2).toNatClampNeg).toInt from by omega⟩); rw [yo_stay (k := (x3_2).toNatClampNeg + 1) (by omega) _ (by omega), hh]; omega)⟩ dX10_yardOf_58
  exact loop2 (_ + 1) (0) _ _ ls (by first | omega | decide) (by have := hI.get 1001 9 (lo := 0) (hi := 8) rfl; omega) rfl (Nat.lt_succ_self _) hM hS (lv_sub hl [0, 1, 2, 3] rfl)
set_option maxHeartbeats 4000000 in
set_option maxRecDepth 20000 in
theorem V_X9_cell_g (l : Launch) (D : va_G) (A : Nat → Prop) (ad : Nat → Nat) (ns : List Nat) (I : MI) (L : ML) (G : MG) (a0 : Int32) (a1 : Int32) (a2 : Int32) (hG : SGC ns G) (hI : INV I) : Met l yX9_cell (wd yX9_cell cX9_cell 5 (some .int)) ({ frames := 1, cells := 0, slots := 0, locals := 22 }) (va_Pc [.ref (ad (0)), .int a0, .int a1, .int a2] (PM D A ad ns I L G)) (va_Qi (fun r u => u = (ad, ns, I, L, G) ∧ (CELX (0 ≤ a0.toInt ∧ a0.toInt < (I 100 0).toInt ∧ 0 ≤ a1.toInt ∧ a1.toInt < (I 100 1).toInt) r a2 (I 101 (24 * (a1).toNatClampNeg + (a0).toNatClampNeg)) (I 102 (24 * (a1).toNatClampNeg + (a0).toNatClampNeg)) (I 103 (24 * (a1).toNatClampNeg + (a0).toNatClampNeg)) (I 104 (24 * (a1).toNatClampNeg + (a0).toNatClampNeg)).toInt)) (BM D A) A) 0 0 A := by
  refine m_ofW (by decide) (Nat.le_of_ble_eq_true rfl) ?_
  intro p e s m below meth c ls args hC hE hM hA hS hl
  obtain ⟨hx, hb, hml, hown, hts, hr, hlocks, hin⟩ := hC
  have km2 : (-2 : Int32).toInt = -2 := by decide
  have k0 : (0 : Int32).toInt = 0 := by decide
  have hl : lv_has ls 5 [(0, .ref (ad (0))), (1, .int (a0)), (2, .int (a1)), (3, .int (a2))] := hl
  refine lv_aload_n hx hb dX9_cell_0 rfl (lv_at hl 0 rfl) ?_
  refine m_getr (0) 0 (100) hx hb hts hown hE oc9 hM (hG.1 0 (by decide)) rfl (by decide) rfl (hG.2 (0, 0, 100) (by decide)) (by decide) tb_398 dX9_cell_1 ?_
  refine lv_iload_n hx hb dX9_cell_4 rfl (lv_at hl 1 rfl) ?_
  refine lv_iload_n hx hb dX9_cell_5 rfl (lv_at hl 2 rfl) ?_
  refine m_calli (m_runV (100) (As := [.int (a0), .int (a1)]) (rest := []) hx hb hml hown hts hE hM hS hA ce_X8_hasCell tb_493 (V_X8_hasCell_100 l D A ad ns I L G (a0) (a1) hG hI) rfl rfl ⟨Nat.le_of_ble_eq_true rfl, Nat.le_of_ble_eq_true rfl⟩ (hG.1 100 (by decide)) rfl rfl (by decide) rfl hl.1 rfl (Nat.le_of_ble_eq_true rfl) dX9_cell_6 ⟨Nat.le_of_ble_eq_true rfl, Nat.le_of_ble_eq_true rfl⟩) hS (fun r1 u H locs hw hM hS => ?_)
  obtain ⟨rfl, xr1⟩ := hw
  have hM : Mem D A ad ns I L G H := hM
  have yr1 := bo01 xr1
  have g2 := hI.get 100 0 (lo := 0) (hi := 24) rfl
  have g3 := hI.get 100 1 (lo := 0) (hi := 24) rfl
  refine lv_if_ne (tgt := 15) hx hb dX9_cell_9 (by decide) (fun c4 => ?_) (fun c4 => ?_)
  · have hc4 := c4
    have q4 := xr1.t hc4
    refine lv_iload_n hx hb dX9_cell_15 rfl (lv_at hl 1 rfl) ?_
    refine lv_iload_n hx hb dX9_cell_16 rfl (lv_at hl 2 rfl) ?_
    refine m_calli (m_runS (As := [.int (a0), .int (a1)]) (rest := []) hx hb hml hown hts hE hM hS hA ce_X9_cellOf tb_494 (V_X9_cellOf l D A ad ns I L G (a0) (a1) hI (by first | omega | decide) (by first | omega | decide)) rfl rfl ⟨Nat.le_of_ble_eq_true rfl, Nat.le_of_ble_eq_true rfl⟩  rfl hl.1 rfl (Nat.le_of_ble_eq_true rfl) dX9_cell_17 ⟨Nat.le_of_ble_eq_true rfl, Nat.le_of_ble_eq_true rfl⟩) hS (fun r5 u H locs hw hM hS => ?_)
    obtain ⟨rfl, xr5⟩ := hw
    have hM : Mem D A ad ns I L G H := hM
    refine lv_istore (lv' := [(4, .int (r5)), (0, .ref (ad (0))), (1, .int (a0)), (2, .int (a1)), (3, .int (a2))]) hx hb dX9_cell_20 hl (by decide) rfl (fun ls hl => ?_)
    refine lv_iload_n hx hb dX9_cell_22 rfl (lv_at hl 4 rfl) ?_
    by_cases c6 : (a2).toInt < 0 ∨ 3 < (a2).toInt
    · refine lv_tableOut (tgt := 96) hx hb dX9_cell_23 c6 (by decide) ?_
      refine lv_bipush (v := (-2)) hx hb dX9_cell_96 (by decide) ?_
      exact m_iret hx hb hr hlocks hM hS (Nat.le_of_ble_eq_true rfl) (Nat.le_of_ble_eq_true rfl) ⟨rfl, (Or.inl ⟨by omega, rfl⟩)⟩ dX9_cell_98
    · have qc6 : (a2).toInt = 0 ∨ (a2).toInt = 1 ∨ (a2).toInt = 2 ∨ (a2).toInt = 3 := by omega
      rcases qc6 with qc6 | qc6 | qc6 | qc6
      · refine lv_tableIn (off := 29) (tgt := 52) hx hb dX9_cell_23 (by omega) (by omega) (by rw [qc6]; rfl) (by decide) ?_
        refine lv_aload_n hx hb dX9_cell_52 rfl (lv_at hl 1 rfl) ?_
        refine m_getr (0) 0 (100) hx hb hts hown hE oc9 hM (hG.1 0 (by decide)) rfl (by decide) rfl (hG.2 (0, 0, 100) (by decide)) (by decide) tb_398 dX9_cell_53 ?_
        refine m_getr (100) 10 (101) hx hb hts hown hE oc8 hM (hG.1 100 (by decide)) rfl (by decide) rfl (hG.2 (100, 10, 101) (by decide)) (by decide) tb_67 dX9_cell_56 ?_
        refine lv_iload hx hb dX9_cell_59 (lv_at hl 0 rfl) ?_
        refine m_iald (101) hx hb hE hM (hG.1 101 (by decide)) rfl (vp_in_iff.mpr (by omega)) dX9_cell_61 ?_
        have ec7 : (r5).toNatClampNeg = 24 * (a1).toNatClampNeg + (a0).toNatClampNeg := by have z1 := tn (i := r5) (by omega); have z2 := tn (i := a0) (by omega); have z3 := tn (i := a1) (by omega); omega
        exact m_iret hx hb hr hlocks hM hS (Nat.le_of_ble_eq_true rfl) (Nat.le_of_ble_eq_true rfl) ⟨rfl, (Or.inr (Or.inl ⟨by omega, by omega, congrArg (I 101) ec7⟩))⟩ dX9_cell_62
      · refine lv_tableIn (off := 40) (tgt := 63) hx hb dX9_cell_23 (by omega) (by omega) (by rw [qc6]; rfl) (by decide) ?_
        refine lv_aload_n hx hb dX9_cell_63 rfl (lv_at hl 1 rfl) ?_
        refine m_getr (0) 0 (100) hx hb hts hown hE oc9 hM (hG.1 0 (by decide)) rfl (by decide) rfl (hG.2 (0, 0, 100) (by decide)) (by decide) tb_398 dX9_cell_64 ?_
        refine m_getr (100) 11 (102) hx hb hts hown hE oc8 hM (hG.1 100 (by decide)) rfl (by decide) rfl (hG.2 (100, 11, 102) (by decide)) (by decide) tb_69 dX9_cell_67 ?_
        refine lv_iload hx hb dX9_cell_70 (lv_at hl 0 rfl) ?_
        refine m_iald (102) hx hb hE hM (hG.1 102 (by decide)) rfl (vp_in_iff.mpr (by omega)) dX9_cell_72 ?_
        have ec8 : (r5).toNatClampNeg = 24 * (a1).toNatClampNeg + (a0).toNatClampNeg := by have z1 := tn (i := r5) (by omega); have z2 := tn (i := a0) (by omega); have z3 := tn (i := a1) (by omega); omega
        exact m_iret hx hb hr hlocks hM hS (Nat.le_of_ble_eq_true rfl) (Nat.le_of_ble_eq_true rfl) ⟨rfl, (Or.inr (Or.inr (Or.inl ⟨by omega, by omega, congrArg (I 102) ec8⟩)))⟩ dX9_cell_73
      · refine lv_tableIn (off := 51) (tgt := 74) hx hb dX9_cell_23 (by omega) (by omega) (by rw [qc6]; rfl) (by decide) ?_
        refine lv_aload_n hx hb dX9_cell_74 rfl (lv_at hl 1 rfl) ?_
        refine m_getr (0) 0 (100) hx hb hts hown hE oc9 hM (hG.1 0 (by decide)) rfl (by decide) rfl (hG.2 (0, 0, 100) (by decide)) (by decide) tb_398 dX9_cell_75 ?_
        refine m_getr (100) 12 (103) hx hb hts hown hE oc8 hM (hG.1 100 (by decide)) rfl (by decide) rfl (hG.2 (100, 12, 103) (by decide)) (by decide) tb_73 dX9_cell_78 ?_
        refine lv_iload hx hb dX9_cell_81 (lv_at hl 0 rfl) ?_
        refine m_iald (103) hx hb hE hM (hG.1 103 (by decide)) rfl (vp_in_iff.mpr (by omega)) dX9_cell_83 ?_
        have g9 := hI.get (103) ((r5).toNatClampNeg) (lo := -1) (hi := 23) rfl
        have ec10 : (r5).toNatClampNeg = 24 * (a1).toNatClampNeg + (a0).toNatClampNeg := by have z1 := tn (i := r5) (by omega); have z2 := tn (i := a0) (by omega); have z3 := tn (i := a1) (by omega); omega
        exact m_iret hx hb hr hlocks hM hS (Nat.le_of_ble_eq_true rfl) (Nat.le_of_ble_eq_true rfl) ⟨rfl, (Or.inr (Or.inr (Or.inr (Or.inl ⟨by omega, by omega, congrArg (I 103) ec10⟩))))⟩ dX9_cell_84
      · refine lv_tableIn (off := 62) (tgt := 85) hx hb dX9_cell_23 (by omega) (by omega) (by rw [qc6]; rfl) (by decide) ?_
        refine lv_aload_n hx hb dX9_cell_85 rfl (lv_at hl 1 rfl) ?_
        refine m_getr (0) 0 (100) hx hb hts hown hE oc9 hM (hG.1 0 (by decide)) rfl (by decide) rfl (hG.2 (0, 0, 100) (by decide)) (by decide) tb_398 dX9_cell_86 ?_
        refine m_getr (100) 13 (104) hx hb hts hown hE oc8 hM (hG.1 100 (by decide)) rfl (by decide) rfl (hG.2 (100, 13, 104) (by decide)) (by decide) tb_77 dX9_cell_89 ?_
        refine lv_iload hx hb dX9_cell_92 (lv_at hl 0 rfl) ?_
        refine m_iald (104) hx hb hE hM (hG.1 104 (by decide)) rfl (vp_in_iff.mpr (by omega)) dX9_cell_94 ?_
        have g11 := hI.get (104) ((r5).toNatClampNeg) (lo := -1) (hi := 7) rfl
        have ec12 : (r5).toNatClampNeg = 24 * (a1).toNatClampNeg + (a0).toNatClampNeg := by have z1 := tn (i := r5) (by omega); have z2 := tn (i := a0) (by omega); have z3 := tn (i := a1) (by omega); omega
        exact m_iret hx hb hr hlocks hM hS (Nat.le_of_ble_eq_true rfl) (Nat.le_of_ble_eq_true rfl) ⟨rfl, (Or.inr (Or.inr (Or.inr (Or.inr ⟨by omega, by omega, by rw [ec12]⟩))))⟩ dX9_cell_95
  · have hc4 := c4
    have q4 := xr1.f hc4
    refine lv_bipush (v := (-2)) hx hb dX9_cell_12 (by decide) ?_
    exact m_iret hx hb hr hlocks hM hS (Nat.le_of_ble_eq_true rfl) (Nat.le_of_ble_eq_true rfl) ⟨rfl, (Or.inl ⟨by omega, rfl⟩)⟩ dX9_cell_14
set_option maxHeartbeats 4000000 in
set_option maxRecDepth 20000 in
theorem V_X10_cell_g (l : Launch) (D : va_G) (A : Nat → Prop) (ad : Nat → Nat) (ns : List Nat) (I : MI) (L : ML) (G : MG) (a0 : Int32) (a1 : Int32) (a2 : Int32) (hJ : SGM ns G) (hI : INV I) : Met l yX10_cell (wd yX10_cell cX10_cell 5 (some .int)) ({ frames := 2, cells := 0, slots := 0, locals := 48 }) (va_Pc [.ref (ad (1000)), .int a0, .int a1, .int a2] (PM D A ad ns I L G)) (va_Qi (fun r u => u = (ad, ns, I, L, G) ∧ (CELX ((I 1001 0).toInt = 1 ∧ 0 ≤ a0.toInt ∧ a0.toInt < (I 1001 1).toInt ∧ 0 ≤ a1.toInt ∧ a1.toInt < (I 1001 2).toInt) r a2 (I 1002 (24 * (a1).toNatClampNeg + (a0).toNatClampNeg)) (I 1003 (24 * (a1).toNatClampNeg + (a0).toNatClampNeg)) (I 1006 (24 * (a1).toNatClampNeg + (a0).toNatClampNeg)) (yo (live I) (24 * (a1).toNatClampNeg + (a0).toNatClampNeg) (I 1001 9).toNatClampNeg))) (BM D A) A) 0 0 A := by
  refine m_ofW (by decide) (Nat.le_of_ble_eq_true rfl) ?_
  intro p e s m below meth c ls args hC hE hM hA hS hl
  obtain ⟨hx, hb, hml, hown, hts, hr, hlocks, hin⟩ := hC
  have km2 : (-2 : Int32).toInt = -2 := by decide
  have k0 : (0 : Int32).toInt = 0 := by decide
  have k1 : (1 : Int32).toInt = 1 := by decide
  have k2 : (2 : Int32).toInt = 2 := by decide
  have k24 : (24 : Int32).toInt = 24 := by decide
  have kl0 : (0 : Int64).toInt = 0 := by decide
  have kl3 : (3 : Int64).toInt = 3 := by decide
  have hl : lv_has ls 5 [(0, .ref (ad (1000))), (1, .int (a0)), (2, .int (a1)), (3, .int (a2))] := hl
  refine lv_aload_n hx hb dX10_cell_0 rfl (lv_at hl 0 rfl) ?_
  refine lv_iload_n hx hb dX10_cell_1 rfl (lv_at hl 1 rfl) ?_
  refine lv_iload_n hx hb dX10_cell_2 rfl (lv_at hl 2 rfl) ?_
  refine m_calli (m_runV (1000) (As := [.int (a0), .int (a1)]) (rest := []) hx hb hml hown hts hE hM hS hA ce_X10_isCell tb_1437 (V_X10_isCell l D A ad ns I L G (a0) (a1) hJ hI) rfl rfl ⟨Nat.le_of_ble_eq_true rfl, Nat.le_of_ble_eq_true rfl⟩ hJ.1 rfl rfl (by decide) rfl hl.1 rfl (Nat.le_of_ble_eq_true rfl) dX10_cell_3 ⟨Nat.le_of_ble_eq_true rfl, Nat.le_of_ble_eq_true rfl⟩) hS (fun r1 u H locs hw hM hS => ?_)
  obtain ⟨rfl, xr1⟩ := hw
  have hM : Mem D A ad ns I L G H := hM
  have yr1 := bo01 xr1
  have g2 := hI.get 1001 1 (lo := 0) (hi := 24) rfl
  have g3 := hI.get 1001 2 (lo := 0) (hi := 24) rfl
  refine lv_if_eq (tgt := 21) hx hb dX10_cell_6 (by decide) (fun c4 => ?_) (fun c4 => ?_)
  · have hc4 := c4
    have q4 := xr1.f hc4
    refine lv_bipush (v := (-2)) hx hb dX10_cell_21 (by decide) ?_
    exact m_iret hx hb hr hlocks hM hS (Nat.le_of_ble_eq_true rfl) (Nat.le_of_ble_eq_true rfl) ⟨rfl, (Or.inl ⟨by omega, rfl⟩)⟩ dX10_cell_23
  · have hc4 := c4
    have q4 := xr1.t hc4
    refine lv_iload_n hx hb dX10_cell_9 rfl (lv_at hl 3 rfl) ?_
    refine lv_i2l hx hb dX10_cell_10 rfl ?_
    refine lv_topl (fun v5 ev5 => ?_)
    have tv5 := q_i2l ev5
    refine lv_lconst (v := 0) hx hb dX10_cell_11 (by decide) ?_
    refine lv_ldc2 (v := (3)) hx hb hown (hts _ tb_1466) dX10_cell_12 ?_
    refine m_calli (m_runS (As := [.long (v5), .long (0), .long ((3 : Int64))]) (rest := []) hx hb hml hown hts hE hM hS hA ce_X10_in tb_1425 (V_X10_in l D A ad ns I L G (v5) (0) ((3 : Int64)) hI) rfl rfl ⟨Nat.le_of_ble_eq_true rfl, Nat.le_of_ble_eq_true rfl⟩  rfl hl.1 rfl (Nat.le_of_ble_eq_true rfl) dX10_cell_15 ⟨Nat.le_of_ble_eq_true rfl, Nat.le_of_ble_eq_true rfl⟩) hS (fun r6 u H locs hw hM hS => ?_)
    obtain ⟨rfl, xr6⟩ := hw
    have hM : Mem D A ad ns I L G H := hM
    have yr6 := bo01 xr6
    refine lv_if_ne (tgt := 24) hx hb dX10_cell_18 (by decide) (fun c7 => ?_) (fun c7 => ?_)
    · have hc7 := c7
      have q7 := xr6.t hc7
      refine lv_bipush (v := (24)) hx hb dX10_cell_24 (by decide) ?_
      refine lv_iload_n hx hb dX10_cell_26 rfl (lv_at hl 2 rfl) ?_
      refine lv_imul hx hb dX10_cell_27 ?_
      refine lv_topi (fun v8 ev8 => ?_)
      have tv8 := a_mulL (c := 24) ev8 (by decide) (by omega) (by omega)
      refine lv_iload_n hx hb dX10_cell_28 rfl (lv_at hl 1 rfl) ?_
      refine lv_iadd hx hb dX10_cell_29 ?_
      refine lv_topi (fun v9 ev9 => ?_)
      have tv9 := a_add ev9 (by omega) (by omega)
      refine lv_istore (lv' := [(4, .int (v9)), (0, .ref (ad (1000))), (1, .int (a0)), (2, .int (a1)), (3, .int (a2))]) hx hb dX10_cell_30 hl (by decide) rfl (fun ls hl => ?_)
      refine lv_iload_n hx hb dX10_cell_32 rfl (lv_at hl 4 rfl) ?_
      refine lv_if_ne (tgt := 46) hx hb dX10_cell_33 (by decide) (fun c10 => ?_) (fun c10 => ?_)
      · have hc10 := c10
        have q10 := q_ne hc10
        refine lv_iload_n hx hb dX10_cell_46 rfl (lv_at hl 4 rfl) ?_
        refine lv_iconst (v := (1)) hx hb dX10_cell_47 (by decide) ?_
        refine lv_icmp_ne (tgt := 61) hx hb dX10_cell_48 (by decide) (fun c11 => ?_) (fun c11 => ?_)
        · have hc11 := c11
          have q11 := q_ne hc11
          refine lv_iload_n hx hb dX10_cell_61 rfl (lv_at hl 4 rfl) ?_
          refine lv_iconst (v := (2)) hx hb dX10_cell_62 (by decide) ?_
          refine lv_icmp_ne (tgt := 76) hx hb dX10_cell_63 (by decide) (fun c12 => ?_) (fun c12 => ?_)
          · have hc12 := c12
            have q12 := q_ne hc12
            refine lv_aload_n hx hb dX10_cell_76 rfl (lv_at hl 1 rfl) ?_
            refine lv_iload_n hx hb dX10_cell_77 rfl (lv_at hl 2 rfl) ?_
            refine lv_iload_n hx hb dX10_cell_78 rfl (lv_at hl 3 rfl) ?_
            refine m_calli (m_runV (1000) (As := [.int (a0), .int (a1)]) (rest := []) hx hb hml hown hts hE hM hS hA ce_X10_yardOf tb_1652 (V_X10_yardOf_g l D A ad ns I L G (a0) (a1) hJ hI (by first | omega | decide) (by first | omega | decide)) rfl rfl ⟨Nat.le_of_ble_eq_true rfl, Nat.le_of_ble_eq_true rfl⟩ hJ.1 rfl rfl (by decide) rfl hl.1 rfl (Nat.le_of_ble_eq_true rfl) dX10_cell_79 ⟨Nat.le_of_ble_eq_true rfl, Nat.le_of_ble_eq_true rfl⟩) hS (fun r13 u H locs hw hM hS => ?_)
            obtain ⟨rfl, xr13⟩ := hw
            have hM : Mem D A ad ns I L G H := hM
            exact m_iret hx hb hr hlocks hM hS (Nat.le_of_ble_eq_true rfl) (Nat.le_of_ble_eq_true rfl) ⟨rfl, (Or.inr (Or.inr (Or.inr (Or.inr ⟨by omega, by omega, xr13⟩))))⟩ dX10_cell_82
          · have hc12 := c12
            have q12 := q_eq hc12
            refine lv_aload_n hx hb dX10_cell_66 rfl (lv_at hl 1 rfl) ?_
            refine m_getr (1000) 6 (1006) hx hb hts hown hE oc10 hM hJ.1 rfl (by decide) rfl (hJ.2 6 (by decide)).2 (by decide) tb_1183 dX10_cell_67 ?_
            refine lv_iload hx hb dX10_cell_70 (lv_at hl 0 rfl) ?_
            refine m_iald (1006) hx hb hE hM (hJ.2 6 (by decide)).1 rfl (vp_in_iff.mpr (by omega)) dX10_cell_72 ?_
            have g14 := hI.get (1006) ((v9).toNatClampNeg) (lo := -1) (hi := 23) rfl
            refine lv_goto (tgt := 82) hx hb dX10_cell_73 (by decide) ?_
            have ec15 : (v9).toNatClampNeg = 24 * (a1).toNatClampNeg + (a0).toNatClampNeg := by have z1 := tn (i := v9) (by omega); have z2 := tn (i := a0) (by omega); have z3 := tn (i := a1) (by omega); omega
            exact m_iret hx hb hr hlocks hM hS (Nat.le_of_ble_eq_true rfl) (Nat.le_of_ble_eq_true rfl) ⟨rfl, (Or.inr (Or.inr (Or.inr (Or.inl ⟨by omega, by omega, congrArg (I 1006) ec15⟩))))⟩ dX10_cell_82
        · have hc11 := c11
          have q11 := q_eq hc11
          refine lv_aload_n hx hb dX10_cell_51 rfl (lv_at hl 1 rfl) ?_
          refine m_getr (1000) 3 (1003) hx hb hts hown hE oc10 hM hJ.1 rfl (by decide) rfl (hJ.2 3 (by decide)).2 (by decide) tb_1180 dX10_cell_52 ?_
          refine lv_iload hx hb dX10_cell_55 (lv_at hl 0 rfl) ?_
          refine m_iald (1003) hx hb hE hM (hJ.2 3 (by decide)).1 rfl (vp_in_iff.mpr (by omega)) dX10_cell_57 ?_
          refine lv_goto (tgt := 82) hx hb dX10_cell_58 (by decide) ?_
          have ec16 : (v9).toNatClampNeg = 24 * (a1).toNatClampNeg + (a0).toNatClampNeg := by have z1 := tn (i := v9) (by omega); have z2 := tn (i := a0) (by omega); have z3 := tn (i := a1) (by omega); omega
          exact m_iret hx hb hr hlocks hM hS (Nat.le_of_ble_eq_true rfl) (Nat.le_of_ble_eq_true rfl) ⟨rfl, (Or.inr (Or.inr (Or.inl ⟨by omega, by omega, congrArg (I 1003) ec16⟩)))⟩ dX10_cell_82
      · have hc10 := c10
        have q10 := q_eq hc10
        refine lv_aload_n hx hb dX10_cell_36 rfl (lv_at hl 1 rfl) ?_
        refine m_getr (1000) 2 (1002) hx hb hts hown hE oc10 hM hJ.1 rfl (by decide) rfl (hJ.2 2 (by decide)).2 (by decide) tb_1179 dX10_cell_37 ?_
        refine lv_iload hx hb dX10_cell_40 (lv_at hl 0 rfl) ?_
        refine m_iald (1002) hx hb hE hM (hJ.2 2 (by decide)).1 rfl (vp_in_iff.mpr (by omega)) dX10_cell_42 ?_
        refine lv_goto (tgt := 82) hx hb dX10_cell_43 (by decide) ?_
        have ec17 : (v9).toNatClampNeg = 24 * (a1).toNatClampNeg + (a0).toNatClampNeg := by have z1 := tn (i := v9) (by omega); have z2 := tn (i := a0) (by omega); have z3 := tn (i := a1) (by omega); omega
        exact m_iret hx hb hr hlocks hM hS (Nat.le_of_ble_eq_true rfl) (Nat.le_of_ble_eq_true rfl) ⟨rfl, (Or.inr (Or.inl ⟨by omega, by omega, congrArg (I 1002) ec17⟩))⟩ dX10_cell_82
    · have hc7 := c7
      have q7 := xr6.f hc7
      refine lv_bipush (v := (-2)) hx hb dX10_cell_21 (by decide) ?_
      exact m_iret hx hb hr hlocks hM hS (Nat.le_of_ble_eq_true rfl) (Nat.le_of_ble_eq_true rfl) ⟨rfl, (Or.inl ⟨by omega, rfl⟩)⟩ dX10_cell_23
