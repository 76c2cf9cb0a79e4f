set_option maxHeartbeats 4000000 in
set_option maxRecDepth 20000 in
theorem V_X8_addYard_t (l : Launch) (D : va_G) (A : Nat → Prop) (ad : Nat → Nat) (ns : List Nat) (I : MI) (L : ML) (G : MG) (a0 : Int32) (a1 : Int32) (a2 : Int32) (a3 : Int32) (hG : SGC ns G) (hI : INV I) (hc : (I 100 9).toInt < 8) (ha0 : 0 ≤ a0.toInt ∧ a0.toInt ≤ 23) (ha1 : 0 ≤ a1.toInt ∧ a1.toInt ≤ 23) (ha2 : 0 ≤ a2.toInt ∧ a2.toInt ≤ 23) (ha3 : 0 ≤ a3.toInt ∧ a3.toInt ≤ 23) : Met l yX8_addYard (wd yX8_addYard cX8_addYard 8 (some .int)) ({ frames := 1, cells := 0, slots := 0, locals := 23 }) (va_Pc [.ref (ad (100)), .int a0, .int a1, .int a2, .int a3] (PM D A ad ns I L G)) (va_Qi (fun r u => ∃ I2 L2, u = (ad, ns, I2, L2, G) ∧ INV I2 ∧ Kp [(104, 105), (108, 109)] [(100, 9)] I I2 ∧ (r = I 100 9 ∧ YF (I 104) (I2 104) (I 100 9) a0 a1 a2 a3 ∧ EqV (stV (stV (stV (stV (stV (stV (cF 100 I) 1 9 (I 100 9 + 1)) 23 (I 100 9).toNatClampNeg 0) 17 (I 100 9).toNatClampNeg a0) 18 (I 100 9).toNatClampNeg a1) 19 (I 100 9).toNatClampNeg a2) 20 (I 100 9).toNatClampNeg a3) (cF 100 I2))) (BM D A) A) 0 0 A := by
  refine m_ofW (by decide) (Nat.le_of_ble_eq_true rfl) ?_
  intro p e s m below meth c ls args hC hE hM hA hS hl
  obtain ⟨hx, hb, hml, hown, hts, hr, hlocks, hin⟩ := hC
  have km1 : (-1 : Int32).toInt = -1 := by decide
  have k0 : (0 : Int32).toInt = 0 := by decide
  have k1 : (1 : Int32).toInt = 1 := by decide
  have k3 : (3 : Int32).toInt = 3 := by decide
  have k4 : (4 : Int32).toInt = 4 := by decide
  have k5 : (5 : Int32).toInt = 5 := by decide
  have k6 : (6 : Int32).toInt = 6 := by decide
  have hK : Kp [(104, 105), (108, 109)] [(100, 9)] I I := Kp.rf
  have hl : lv_has ls 8 [(0, .ref (ad (100))), (1, .int (a0)), (2, .int (a1)), (3, .int (a2)), (4, .int (a3))] := hl
  refine lv_aload_n hx hb dX8_addYard_0 rfl (lv_at hl 0 rfl) ?_
  refine m_geti (100) 9 hx hb hts hown hE oc8 hM (hG.1 100 (by decide)) rfl (by decide) rfl tb_63 dX8_addYard_1 ?_
  have g1 := hI.get (100) 9 (lo := 0) (hi := 8) rfl
  refine lv_istore (lv' := [(5, .int (I (100) 9)), (0, .ref (ad (100))), (1, .int (a0)), (2, .int (a1)), (3, .int (a2)), (4, .int (a3))]) hx hb dX8_addYard_4 hl (by decide) rfl (fun ls hl => ?_)
  refine lv_aload_n hx hb dX8_addYard_6 rfl (lv_at hl 1 rfl) ?_
  refine lv_dup hx hb dX8_addYard_7 rfl ?_
  refine m_geti (100) 9 hx hb hts hown hE oc8 hM (hG.1 100 (by decide)) rfl (by decide) rfl tb_63 dX8_addYard_8 ?_
  refine lv_iconst (v := (1)) hx hb dX8_addYard_11 (by decide) ?_
  refine lv_iadd hx hb dX8_addYard_12 ?_
  refine lv_topi (fun v2 ev2 => ?_)
  have tv2 := a_add ev2 (by omega) (by omega)
  refine m_puti (100) 9 hx hb hts hown hE oc8 hM hS (hG.1 100 (by decide)) rfl (by decide) rfl rfl rfl rfl tb_63 dX8_addYard_13 (fun H locs I3 eI3 hM hS => ?_)
  subst eI3
  have hI := hI.put (n := 100) (k := 9) (v := v2) (lo := 0) (hi := 8) rfl (by first | omega | decide)
  have hK := hK.put (n := 100) (k := 9) (v := v2) (by first | rfl | simp [inR])
  refine lv_iload_n hx hb dX8_addYard_16 rfl (lv_at hl 3 rfl) ?_
  refine lv_istore (lv' := [(6, .int (a1)), (5, .int (I (100) 9)), (0, .ref (ad (100))), (1, .int (a0)), (2, .int (a1)), (3, .int (a2)), (4, .int (a3))]) hx hb dX8_addYard_17 hl (by decide) rfl (fun ls hl => ?_)
  have tz4 : ((u2 I (100) 9 (v2)) 100 9).toInt = _ := congrArg Int32.toInt ((show (u2 I (100) 9 (v2)) (100) 9 = v2 from by simp [u2_v]))
  have loop19 : ∀ (n : Nat) (x6_19 : Int32) (Ia19 : MI) (La19 : ML) (H : Heap) (locs : List Loc) (ls : Array Slot), INV Ia19 → Kp [(104, 105), (108, 109)] [(100, 9)] I Ia19 → (0 ≤ x6_19.toInt ∧ x6_19.toInt ≤ 24) → ((Ia19 100 9).toInt = (I 100 9).toInt + 1 ∧ a1.toInt ≤ (x6_19).toInt) → (YP (I 104) (Ia19 104) (I 100 9) a0 a1 a2 a3 (x6_19).toInt (a0).toInt) → (EqV (stV (cF 100 I) 1 9 (I 100 9 + 1)) (cF 100 Ia19)) → (24 - x6_19.toInt).toNat < n → Mem D A ad ns Ia19 La19 G H → va_S A s.heap H locs → lv_has ls 8 [(6, .int (x6_19)), (5, .int (I (100) 9)), (0, .ref (ad (100))), (1, .int (a0)), (2, .int (a1)), (3, .int (a2)), (4, .int (a3))] → W p l e ({ frames := 1, cells := 0, slots := 0, locals := 23 } : Room) s m args below meth c H locs 0 0 (MQ below (va_Qi (fun r u => ∃ I2 L2, u = (ad, ns, I2, L2, G) ∧ INV I2 ∧ Kp [(104, 105), (108, 109)] [(100, 9)] I I2 ∧ (r = I 100 9 ∧ YF (I 104) (I2 104) (I 100 9) a0 a1 a2 a3 ∧ EqV (stV (stV (stV (stV (stV (stV (cF 100 I) 1 9 (I 100 9 + 1)) 23 (I 100 9).toNatClampNeg 0) 17 (I 100 9).toNatClampNeg a0) 18 (I 100 9).toNatClampNeg a1) 19 (I 100 9).toNatClampNeg a2) 20 (I 100 9).toNatClampNeg a3) (cF 100 I2))) (BM D A) A) args s 0 0 A) (F0 m 19 ls []) := by
    intro n
    induction n with
    | zero =>
      intro x6_19 Ia19 La19 H locs ls hI hK hr6_19 h9_6 hy6 hv19 hmu
      exact absurd hmu (Nat.not_lt_zero _)
    | succ n ih19 =>
      intro x6_19 Ia19 La19 H locs ls hI hK hr6_19 h9_6 hy6 hv19 hmu19 hM hS hl
      refine lv_iload hx hb dX8_addYard_19 (lv_at hl 0 rfl) ?_
      refine lv_iload hx hb dX8_addYard_21 (lv_at hl 6 rfl) ?_
      refine lv_icmp_gt (tgt := 77) hx hb dX8_addYard_23 (by decide) (fun c5 => ?_) (fun c5 => ?_)
      · have hc5 := c5
        have q5 := q_lt hc5
        refine lv_aload_n hx hb dX8_addYard_77 rfl (lv_at hl 2 rfl) ?_
        refine lv_iload hx hb dX8_addYard_78 (lv_at hl 1 rfl) ?_
        refine lv_iconst (v := (0)) hx hb dX8_addYard_80 (by decide) ?_
        refine lv_iconst (v := (0)) hx hb dX8_addYard_81 (by decide) ?_
        refine m_callv (m_runV (100) (As := [.int (I (100) 9), .int (0), .int (0)]) (rest := []) hx hb hml hown hts hE hM hS hA ce_X8_setYard tb_529 (V_X8_setYard_100_t l D A ad ns Ia19 La19 G (I (100) 9) (0) (0) hG hI (by first | omega | decide) (by first | omega | decide)) rfl rfl ⟨Nat.le_of_ble_eq_true rfl, Nat.le_of_ble_eq_true rfl⟩ (hG.1 100 (by decide)) rfl rfl (by decide) rfl hl.1 rfl (Nat.le_of_ble_eq_true rfl) dX8_addYard_82 ⟨Nat.le_of_ble_eq_true rfl, Nat.le_of_ble_eq_true rfl⟩) hS (fun u H locs hw hM hS => ?_)
        obtain ⟨I6, L7, rfl, hI, hkI6, xI6⟩ := hw
        have hM : Mem D A ad ns I6 L7 G H := hM
        have hK := hK.trans hkI6 rfl
        refine lv_aload_n hx hb dX8_addYard_85 rfl (lv_at hl 2 rfl) ?_
        refine lv_iload hx hb dX8_addYard_86 (lv_at hl 1 rfl) ?_
        refine lv_iconst (v := (3)) hx hb dX8_addYard_88 (by decide) ?_
        refine lv_iload_n hx hb dX8_addYard_89 rfl (lv_at hl 3 rfl) ?_
        refine m_callv (m_runV (100) (As := [.int (I (100) 9), .int (3), .int (a0)]) (rest := []) hx hb hml hown hts hE hM hS hA ce_X8_setYard tb_529 (V_X8_setYard_100_t l D A ad ns I6 L7 G (I (100) 9) (3) (a0) hG hI (by first | omega | decide) (by first | omega | decide)) rfl rfl ⟨Nat.le_of_ble_eq_true rfl, Nat.le_of_ble_eq_true rfl⟩ (hG.1 100 (by decide)) rfl rfl (by decide) rfl hl.1 rfl (Nat.le_of_ble_eq_true rfl) dX8_addYard_90 ⟨Nat.le_of_ble_eq_true rfl, Nat.le_of_ble_eq_true rfl⟩) hS (fun u H locs hw hM hS => ?_)
        obtain ⟨I8, L9, rfl, hI, hkI8, xI8⟩ := hw
        have hM : Mem D A ad ns I8 L9 G H := hM
        have hK := hK.trans hkI8 rfl
        refine lv_aload_n hx hb dX8_addYard_93 rfl (lv_at hl 2 rfl) ?_
        refine lv_iload hx hb dX8_addYard_94 (lv_at hl 1 rfl) ?_
        refine lv_iconst (v := (4)) hx hb dX8_addYard_96 (by decide) ?_
        refine lv_iload_n hx hb dX8_addYard_97 rfl (lv_at hl 4 rfl) ?_
        refine m_callv (m_runV (100) (As := [.int (I (100) 9), .int (4), .int (a1)]) (rest := []) hx hb hml hown hts hE hM hS hA ce_X8_setYard tb_529 (V_X8_setYard_100_t l D A ad ns I8 L9 G (I (100) 9) (4) (a1) hG hI (by first | omega | decide) (by first | omega | decide)) rfl rfl ⟨Nat.le_of_ble_eq_true rfl, Nat.le_of_ble_eq_true rfl⟩ (hG.1 100 (by decide)) rfl rfl (by decide) rfl hl.1 rfl (Nat.le_of_ble_eq_true rfl) dX8_addYard_98 ⟨Nat.le_of_ble_eq_true rfl, Nat.le_of_ble_eq_true rfl⟩) hS (fun u H locs hw hM hS => ?_)
        obtain ⟨I10, L11, rfl, hI, hkI10, xI10⟩ := hw
        have hM : Mem D A ad ns I10 L11 G H := hM
        have hK := hK.trans hkI10 rfl
        refine lv_aload_n hx hb dX8_addYard_101 rfl (lv_at hl 2 rfl) ?_
        refine lv_iload hx hb dX8_addYard_102 (lv_at hl 1 rfl) ?_
        refine lv_iconst (v := (5)) hx hb dX8_addYard_104 (by decide) ?_
        refine lv_iload_n hx hb dX8_addYard_105 rfl (lv_at hl 5 rfl) ?_
        refine m_callv (m_runV (100) (As := [.int (I (100) 9), .int (5), .int (a2)]) (rest := []) hx hb hml hown hts hE hM hS hA ce_X8_setYard tb_529 (V_X8_setYard_100_t l D A ad ns I10 L11 G (I (100) 9) (5) (a2) hG hI (by first | omega | decide) (by first | omega | decide)) rfl rfl ⟨Nat.le_of_ble_eq_true rfl, Nat.le_of_ble_eq_true rfl⟩ (hG.1 100 (by decide)) rfl rfl (by decide) rfl hl.1 rfl (Nat.le_of_ble_eq_true rfl) dX8_addYard_106 ⟨Nat.le_of_ble_eq_true rfl, Nat.le_of_ble_eq_true rfl⟩) hS (fun u H locs hw hM hS => ?_)
        obtain ⟨I12, L13, rfl, hI, hkI12, xI12⟩ := hw
        have hM : Mem D A ad ns I12 L13 G H := hM
        have hK := hK.trans hkI12 rfl
        refine lv_aload_n hx hb dX8_addYard_109 rfl (lv_at hl 2 rfl) ?_
        refine lv_iload hx hb dX8_addYard_110 (lv_at hl 1 rfl) ?_
        refine lv_bipush (v := (6)) hx hb dX8_addYard_112 (by decide) ?_
        refine lv_iload hx hb dX8_addYard_114 (lv_at hl 6 rfl) ?_
        refine m_callv (m_runV (100) (As := [.int (I (100) 9), .int (6), .int (a3)]) (rest := []) hx hb hml hown hts hE hM hS hA ce_X8_setYard tb_529 (V_X8_setYard_100_t l D A ad ns I12 L13 G (I (100) 9) (6) (a3) hG hI (by first | omega | decide) (by first | omega | decide)) rfl rfl ⟨Nat.le_of_ble_eq_true rfl, Nat.le_of_ble_eq_true rfl⟩ (hG.1 100 (by decide)) rfl rfl (by decide) rfl hl.1 rfl (Nat.le_of_ble_eq_true rfl) dX8_addYard_116 ⟨Nat.le_of_ble_eq_true rfl, Nat.le_of_ble_eq_true rfl⟩) hS (fun u H locs hw hM hS => ?_)
        obtain ⟨I14, L15, rfl, hI, hkI14, xI14⟩ := hw
        have hM : Mem D A ad ns I14 L15 G H := hM
        have hK := hK.trans hkI14 rfl
        refine lv_iload hx hb dX8_addYard_119 (lv_at hl 1 rfl) ?_
        exact m_iret hx hb hr hlocks hM hS (Nat.le_of_ble_eq_true rfl) (Nat.le_of_ble_eq_true rfl) ⟨_, _, rfl, hI, hK, ⟨rfl, by rw [show I14 104 = Ia19 104 from (((((hkI14.getA 104 rfl)).trans (hkI12.getA 104 rfl)).trans (hkI10.getA 104 rfl)).trans (hkI8.getA 104 rfl)).trans (hkI6.getA 104 rfl)]; exact hy6.fin (by omega), (((((hv19.st xI6).st xI8).st xI10).st xI12).st xI14)⟩⟩ dX8_addYard_121
      · have hc5 := c5
        have q5 := q_nlt hc5
        refine lv_iload_n hx hb dX8_addYard_26 rfl (lv_at hl 3 rfl) ?_
        refine lv_istore (lv' := [(7, .int (a0)), (6, .int (x6_19)), (5, .int (I (100) 9)), (0, .ref (ad (100))), (1, .int (a0)), (2, .int (a1)), (3, .int (a2)), (4, .int (a3))]) hx hb dX8_addYard_27 hl (by decide) rfl (fun ls hl => ?_)
        have loop29 : ∀ (n : Nat) (x7_29 : Int32) (Ia29 : MI) (La29 : ML) (H : Heap) (locs : List Loc) (ls : Array Slot), INV Ia29 → Kp [(104, 105), (108, 109)] [(100, 9)] I Ia29 → (0 ≤ x7_29.toInt ∧ x7_29.toInt ≤ 24) → ((Ia29 100 9).toInt = (I 100 9).toInt + 1 ∧ a0.toInt ≤ (x7_29).toInt) → (YP (I 104) (Ia29 104) (I 100 9) a0 a1 a2 a3 (x6_19).toInt (x7_29).toInt) → (EqV (stV (cF 100 I) 1 9 (I 100 9 + 1)) (cF 100 Ia29)) → (24 - x7_29.toInt).toNat < n → Mem D A ad ns Ia29 La29 G H → va_S A s.heap H locs → lv_has ls 8 [(7, .int (x7_29)), (6, .int (x6_19)), (5, .int (I (100) 9)), (0, .ref (ad (100))), (1, .int (a0)), (2, .int (a1)), (3, .int (a2)), (4, .int (a3))] → W p l e ({ frames := 1, cells := 0, slots := 0, locals := 23 } : Room) s m args below meth c H locs 0 0 (MQ below (va_Qi (fun r u => ∃ I2 L2, u = (ad, ns, I2, L2, G) ∧ INV I2 ∧ Kp [(104, 105), (108, 109)] [(100, 9)] I I2 ∧ (r = I 100 9 ∧ YF (I 104) (I2 104) (I 100 9) a0 a1 a2 a3 ∧ EqV (stV (stV (stV (stV (stV (stV (cF 100 I) 1 9 (I 100 9 + 1)) 23 (I 100 9).toNatClampNeg 0) 17 (I 100 9).toNatClampNeg a0) 18 (I 100 9).toNatClampNeg a1) 19 (I 100 9).toNatClampNeg a2) 20 (I 100 9).toNatClampNeg a3) (cF 100 I2))) (BM D A) A) args s 0 0 A) (F0 m 29 ls []) := by
          intro n
          induction n with
          | zero =>
            intro x7_29 Ia29 La29 H locs ls hI hK hr7_29 h9_7 hy7 hv29 hmu
            exact absurd hmu (Nat.not_lt_zero _)
          | succ n ih29 =>
            intro x7_29 Ia29 La29 H locs ls hI hK hr7_29 h9_7 hy7 hv29 hmu29 hM hS hl
            refine lv_iload hx hb dX8_addYard_29 (lv_at hl 0 rfl) ?_
            refine lv_iload_n hx hb dX8_addYard_31 rfl (lv_at hl 6 rfl) ?_
            refine lv_icmp_gt (tgt := 71) hx hb dX8_addYard_32 (by decide) (fun c16 => ?_) (fun c16 => ?_)
            · have hc16 := c16
              have q16 := q_lt hc16
              obtain ⟨v17, ev17⟩ : ∃ z : Int32, z = x6_19 + Int32.ofInt (1) := ⟨_, rfl⟩
              have tv17 := a_inc ev17 (by decide) (by omega) (by omega)
              refine lv_iinc (v := v17) (lv' := [(6, .int (v17)), (7, .int (x7_29)), (5, .int (I (100) 9)), (0, .ref (ad (100))), (1, .int (a0)), (2, .int (a1)), (3, .int (a2)), (4, .int (a3))]) hx hb dX8_addYard_71 hl (k := 1) rfl ev17.symm (by decide) rfl (fun ls hl => ?_)
              refine lv_goto (tgt := 19) hx hb dX8_addYard_74 (by decide) ?_
              exact ih19 (v17) Ia29 La29 _ _ ls hI hK (by first | omega | decide) (by omega) (by have hh := hy7.row (by omega); rw [show (v17).toInt = (x6_19).toInt + 1 from by omega]; exact hh) hv29 (by omega) hM hS (lv_sub hl [0, 2, 3, 4, 5, 6, 7] rfl)
            · have hc16 := c16
              have q16 := q_nlt hc16
              refine lv_aload_n hx hb dX8_addYard_35 rfl (lv_at hl 3 rfl) ?_
              refine m_getr (100) 13 (104) hx hb hts hown hE oc8 hM (hG.1 100 (by decide)) rfl (by decide) rfl (hG.2 (100, 13, 104) (by decide)) (by decide) tb_75 dX8_addYard_36 ?_
              refine lv_iload hx hb dX8_addYard_39 (lv_at hl 0 rfl) ?_
              refine lv_iload hx hb dX8_addYard_41 (lv_at hl 1 rfl) ?_
              refine m_calli (m_runSN (As := [.int (x7_29), .int (x6_19)]) (rest := [.ref (ad (104))]) hx hb hml hown hts hE hM hS hA ce_X9_cellOf (List.mem_of_getElem? (i := 5) rfl) (V_X9_cellOf l D A ad ns Ia29 La29 G (x7_29) (x6_19) hI (by first | omega | decide) (by first | omega | decide)) rfl rfl ⟨Nat.le_of_ble_eq_true rfl, Nat.le_of_ble_eq_true rfl⟩  rfl hl.1 rfl (Nat.le_of_ble_eq_true rfl) dX8_addYard_43 ⟨Nat.le_of_ble_eq_true rfl, Nat.le_of_ble_eq_true rfl⟩) hS (fun r18 u H locs hw hM hS => ?_)
              obtain ⟨rfl, xr18⟩ := hw
              have hM : Mem D A ad ns Ia29 La29 G H := hM
              refine m_iald (104) hx hb hE hM (hG.1 104 (by decide)) rfl (vp_in_iff.mpr (by omega)) dX8_addYard_46 ?_
              have g19 := hI.get (104) ((r18).toNatClampNeg) (lo := -1) (hi := 7) rfl
              refine lv_iconst (v := (-1)) hx hb dX8_addYard_47 (by decide) ?_
              refine lv_icmp_ne (tgt := 65) hx hb dX8_addYard_48 (by decide) (fun c20 => ?_) (fun c20 => ?_)
              · have hc20 := c20
                have q20 := q_ne hc20
                obtain ⟨v21, ev21⟩ : ∃ z : Int32, z = x7_29 + Int32.ofInt (1) := ⟨_, rfl⟩
                have tv21 := a_inc ev21 (by decide) (by omega) (by omega)
                refine lv_iinc (v := v21) (lv' := [(7, .int (v21)), (6, .int (x6_19)), (5, .int (I (100) 9)), (0, .ref (ad (100))), (1, .int (a0)), (2, .int (a1)), (3, .int (a2)), (4, .int (a3))]) hx hb dX8_addYard_65 hl (k := 0) rfl ev21.symm (by decide) rfl (fun ls hl => ?_)
                refine lv_goto (tgt := 29) hx hb dX8_addYard_68 (by decide) ?_
                have z1 := tn (i := r18) (by omega)
                exact ih29 (v21) Ia29 La29 _ _ ls hI hK (by first | omega | decide) (by omega) (by rw [show (v21).toInt = (x7_29).toInt + 1 from by omega]; exact YP.step (q0 := (r18).toNatClampNeg) hy7 (by omega) (by omega) (by omega) (fun q => by rw [if_neg (fun z => absurd (Int32.toInt_inj.mp (z.2.trans km1.symm)) c20)])) hv29 (by omega) hM hS (lv_sub hl [0, 1, 2, 3, 4, 5, 6, 7] rfl)
              · have hc20 := c20
                have q20 := q_eq hc20
                refine lv_aload_n hx hb dX8_addYard_51 rfl (lv_at hl 3 rfl) ?_
                refine m_getr (100) 13 (104) hx hb hts hown hE oc8 hM (hG.1 100 (by decide)) rfl (by decide) rfl (hG.2 (100, 13, 104) (by decide)) (by decide) tb_75 dX8_addYard_52 ?_
                refine lv_iload hx hb dX8_addYard_55 (lv_at hl 0 rfl) ?_
                refine lv_iload hx hb dX8_addYard_57 (lv_at hl 1 rfl) ?_
                refine m_calli (m_runSN (As := [.int (x7_29), .int (x6_19)]) (rest := [.ref (ad (104))]) hx hb hml hown hts hE hM hS hA ce_X9_cellOf (List.mem_of_getElem? (i := 5) rfl) (V_X9_cellOf l D A ad ns Ia29 La29 G (x7_29) (x6_19) hI (by first | omega | decide) (by first | omega | decide)) rfl rfl ⟨Nat.le_of_ble_eq_true rfl, Nat.le_of_ble_eq_true rfl⟩  rfl hl.1 rfl (Nat.le_of_ble_eq_true rfl) dX8_addYard_59 ⟨Nat.le_of_ble_eq_true rfl, Nat.le_of_ble_eq_true rfl⟩) hS (fun r23 u H locs hw hM hS => ?_)
                obtain ⟨rfl, xr23⟩ := hw
                have hM : Mem D A ad ns Ia29 La29 G H := hM
                refine lv_iload hx hb dX8_addYard_62 (lv_at hl 2 rfl) ?_
                refine m_iast (104) hx hb hE hM hS (hG.1 104 (by decide)) rfl (vp_in_iff.mpr (by omega)) dX8_addYard_64 (fun H locs I24 eI24 hM hS => ?_)
                subst eI24
                have hI := hI.put (n := 104) (k := ((r23).toNatClampNeg)) (v := I (100) 9) (lo := -1) (hi := 7) rfl (by first | omega | decide)
                have hK := hK.put (n := 104) (k := ((r23).toNatClampNeg)) (v := I (100) 9) (by first | rfl | simp [inR])
                obtain ⟨v25, ev25⟩ : ∃ z : Int32, z = x7_29 + Int32.ofInt (1) := ⟨_, rfl⟩
                have tv25 := a_inc ev25 (by decide) (by omega) (by omega)
                refine lv_iinc (v := v25) (lv' := [(7, .int (v25)), (6, .int (x6_19)), (5, .int (I (100) 9)), (0, .ref (ad (100))), (1, .int (a0)), (2, .int (a1)), (3, .int (a2)), (4, .int (a3))]) hx hb dX8_addYard_65 hl (k := 0) rfl ev25.symm (by decide) rfl (fun ls hl => ?_)
                refine lv_goto (tgt := 29) hx hb dX8_addYard_68 (by decide) ?_
                have tz26 : ((u2 Ia29 (104) ((r23).toNatClampNeg) (I (100) 9)) 100 9).toInt = _ := congrArg Int32.toInt ((show (u2 Ia29 (104) ((r23).toNatClampNeg) (I (100) 9)) (100) 9 = Ia29 (100) 9 from by simp [u2_v]))
                have z1 := tn (i := r18) (by omega)
                have z2 := tn (i := r23) (by omega)
                exact ih29 (v25) (u2 Ia29 (104) ((r23).toNatClampNeg) (I (100) 9)) La29 _ _ ls hI hK (by first | omega | decide) (by omega) (by rw [show (v25).toInt = (x7_29).toInt + 1 from by omega]; exact YP.step (q0 := (r18).toNatClampNeg) hy7 (by omega) (by omega) (by omega) (fun q => by rw [u2_v]; by_cases hq : q = (r18).toNatClampNeg; rw [if_pos ⟨rfl, by omega⟩, if_pos ⟨hq, by rw [c20]; exact km1⟩]; rw [if_neg (fun z => hq (by omega)), if_neg (fun z => hq z.1)])) (by rw [show cF 100 (u2 Ia29 (104) ((r23).toNatClampNeg) (I (100) 9)) = cF 100 Ia29 from cF_y4 (b := 100)]; exact hv29) (by omega) hM hS (lv_sub hl [0, 1, 2, 3, 4, 5, 6, 7] rfl)
        exact loop29 (_ + 1) (a0) Ia19 La19 _ _ ls hI hK (by first | omega | decide) (by omega) hy6 hv19 (Nat.lt_succ_self _) hM hS (lv_sub hl [0, 1, 2, 3, 4, 5, 6, 7] rfl)
  exact loop19 (_ + 1) (a1) (u2 I (100) 9 (v2)) L _ _ ls hI hK (by first | omega | decide) (by omega) (by rw [show (u2 I (100) 9 (v2)) 104 = I 104 from (show (u2 I (100) 9 (v2)) 104 = I 104 from by funext zz; simp [u2_v])]; exact YP.z) (by have hh := cF_sc (b := 100) (I := I) (n := 9) (k := 9) (v := v2) (by decide); rw [ev2] at hh ⊢; exact hh) (Nat.lt_succ_self _) hM hS (lv_sub hl [0, 1, 2, 3, 4, 5, 6] rfl)
def AYT (ok : Prop) (r : Int32) (I I2 : MI) (a b c d : Int32) (V W : VW) : Prop := (ok ∧ r = I 100 9 ∧ YF (I 104) (I2 104) (I 100 9) a b c d ∧ EqV V W) ∨ (¬ ok ∧ r = -1 ∧ I2 = I)
set_option maxHeartbeats 4000000 in
set_option maxRecDepth 20000 in
theorem V_X9_yard_t (l : Launch) (D : va_G) (A : Nat → Prop) (ad : Nat → Nat) (ns : List Nat) (I : MI) (L : ML) (G : MG) (a0 : Int32) (a1 : Int32) (a2 : Int32) (a3 : Int32) (a4 : Int32) (a5 : Int32) (hG : SGC ns G) (hI : INV I) : Met l yX9_yard (wd yX9_yard cX9_yard 8 (some .int)) ({ frames := 2, cells := 0, slots := 0, locals := 50 }) (va_Pc [.ref (ad (0)), .int a0, .int a1, .int a2, .int a3, .int a4, .int a5] (PM D A ad ns I L G)) (va_Qi (fun r u => ∃ I2 L2, u = (ad, ns, I2, L2, G) ∧ INV I2 ∧ Kp [(104, 105), (108, 109)] [(100, 9)] I I2 ∧ (AYT (((0 ≤ a0.toInt ∧ a0.toInt < (I 100 0).toInt ∧ 0 ≤ a1.toInt ∧ a1.toInt < (I 100 1).toInt) ∧ (0 ≤ a2.toInt ∧ a2.toInt < (I 100 0).toInt ∧ 0 ≤ a3.toInt ∧ a3.toInt < (I 100 1).toInt) ∧ a0.toInt ≤ a2.toInt ∧ a1.toInt ≤ a3.toInt) ∧ (I 100 9).toInt < 8 ∧ (1 ≤ a4.toInt ∧ a4.toInt ≤ 1000) ∧ 0 ≤ a5.toInt ∧ a5.toInt ≤ 9999999) r I I2 a0 a1 a2 a3 (yrdV (cF 100 I) a0 a1 a2 a3 a4 a5) (cF 100 I2))) (BM D A) A) 0 0 A := by
  refine m_ofW (by decide) (Nat.le_of_ble_eq_true rfl) ?_
  intro p e s m below meth c ls args hC hE hM hA hS hl
  obtain ⟨hx, hb, hml, hown, hts, hr, hlocks, hin⟩ := hC
  have km1 : (-1 : Int32).toInt = -1 := by decide
  have k0 : (0 : Int32).toInt = 0 := by decide
  have k1 : (1 : Int32).toInt = 1 := by decide
  have k2 : (2 : Int32).toInt = 2 := by decide
  have k8 : (8 : Int32).toInt = 8 := by decide
  have k1000 : (1000 : Int32).toInt = 1000 := by decide
  have k9999999 : (9999999 : Int32).toInt = 9999999 := by decide
  have hK : Kp [(104, 105), (108, 109)] [(100, 9)] I I := Kp.rf
  have hl : lv_has ls 8 [(0, .ref (ad (0))), (1, .int (a0)), (2, .int (a1)), (3, .int (a2)), (4, .int (a3)), (5, .int (a4)), (6, .int (a5))] := hl
  refine lv_aload_n hx hb dX9_yard_0 rfl (lv_at hl 0 rfl) ?_
  refine m_getr (0) 0 (100) hx hb hts hown hE oc9 hM (hG.1 0 (by decide)) rfl (by decide) rfl (hG.2 (0, 0, 100) (by decide)) (by decide) tb_398 dX9_yard_1 ?_
  refine lv_iload_n hx hb dX9_yard_4 rfl (lv_at hl 1 rfl) ?_
  refine lv_iload_n hx hb dX9_yard_5 rfl (lv_at hl 2 rfl) ?_
  refine lv_iload_n hx hb dX9_yard_6 rfl (lv_at hl 3 rfl) ?_
  refine lv_iload hx hb dX9_yard_7 (lv_at hl 4 rfl) ?_
  refine m_calli (m_runV (100) (As := [.int (a0), .int (a1), .int (a2), .int (a3)]) (rest := []) hx hb hml hown hts hE hM hS hA ce_X8_hasRectangle tb_465 (V_X8_hasRectangle_100 l D A ad ns I L G (a0) (a1) (a2) (a3) hG hI) rfl rfl ⟨Nat.le_of_ble_eq_true rfl, Nat.le_of_ble_eq_true rfl⟩ (hG.1 100 (by decide)) rfl rfl (by decide) rfl hl.1 rfl (Nat.le_of_ble_eq_true rfl) dX9_yard_9 ⟨Nat.le_of_ble_eq_true rfl, Nat.le_of_ble_eq_true rfl⟩) hS (fun r1 u H locs hw hM hS => ?_)
  obtain ⟨rfl, xr1⟩ := hw
  have hM : Mem D A ad ns I L G H := hM
  have yr1 := bo01 xr1
  have g2 := hI.get 100 0 (lo := 0) (hi := 24) rfl
  have g3 := hI.get 100 1 (lo := 0) (hi := 24) rfl
  refine lv_if_eq (tgt := 27) hx hb dX9_yard_12 (by decide) (fun c4 => ?_) (fun c4 => ?_)
  · have hc4 := c4
    have q4 := xr1.f hc4
    refine lv_iconst (v := (-1)) hx hb dX9_yard_27 (by decide) ?_
    exact m_iret hx hb hr hlocks hM hS (Nat.le_of_ble_eq_true rfl) (Nat.le_of_ble_eq_true rfl) ⟨_, _, rfl, hI, hK, (Or.inr ⟨by omega, rfl, rfl⟩)⟩ dX9_yard_28
  · have hc4 := c4
    have q4 := xr1.t hc4
    refine lv_aload_n hx hb dX9_yard_15 rfl (lv_at hl 0 rfl) ?_
    refine m_getr (0) 0 (100) hx hb hts hown hE oc9 hM (hG.1 0 (by decide)) rfl (by decide) rfl (hG.2 (0, 0, 100) (by decide)) (by decide) tb_398 dX9_yard_16 ?_
    refine m_geti (100) 9 hx hb hts hown hE oc8 hM (hG.1 100 (by decide)) rfl (by decide) rfl tb_64 dX9_yard_19 ?_
    have g5 := hI.get (100) 9 (lo := 0) (hi := 8) rfl
    refine lv_bipush (v := (8)) hx hb dX9_yard_22 (by decide) ?_
    refine lv_icmp_lt (tgt := 29) hx hb dX9_yard_24 (by decide) (fun c6 => ?_) (fun c6 => ?_)
    · have hc6 := c6
      have q6 := q_lt hc6
      refine lv_iload hx hb dX9_yard_29 (lv_at hl 5 rfl) ?_
      refine lv_iconst (v := (1)) hx hb dX9_yard_31 (by decide) ?_
      refine lv_sipush (v := (1000)) hx hb dX9_yard_32 (by decide) ?_
      refine m_calli (m_runS (As := [.int (a4), .int (1), .int (1000)]) (rest := []) hx hb hml hown hts hE hM hS hA ce_X9_isWithin tb_451 (V_X9_isWithin l D A ad ns I L G (a4) (1) (1000) hI) rfl rfl ⟨Nat.le_of_ble_eq_true rfl, Nat.le_of_ble_eq_true rfl⟩  rfl hl.1 rfl (Nat.le_of_ble_eq_true rfl) dX9_yard_35 ⟨Nat.le_of_ble_eq_true rfl, Nat.le_of_ble_eq_true rfl⟩) hS (fun r7 u H locs hw hM hS => ?_)
      obtain ⟨rfl, xr7⟩ := hw
      have hM : Mem D A ad ns I L G H := hM
      have yr7 := bo01 xr7
      refine lv_if_eq (tgt := 52) hx hb dX9_yard_38 (by decide) (fun c8 => ?_) (fun c8 => ?_)
      · have hc8 := c8
        have q8 := xr7.f hc8
        refine lv_iconst (v := (-1)) hx hb dX9_yard_52 (by decide) ?_
        exact m_iret hx hb hr hlocks hM hS (Nat.le_of_ble_eq_true rfl) (Nat.le_of_ble_eq_true rfl) ⟨_, _, rfl, hI, hK, (Or.inr ⟨by omega, rfl, rfl⟩)⟩ dX9_yard_53
      · have hc8 := c8
        have q8 := xr7.t hc8
        refine lv_iload hx hb dX9_yard_41 (lv_at hl 6 rfl) ?_
        refine lv_iconst (v := (0)) hx hb dX9_yard_43 (by decide) ?_
        refine lv_ldc (v := (9999999)) hx hb hown (hts _ tb_524) dX9_yard_44 ?_
        refine m_calli (m_runS (As := [.int (a5), .int (0), .int (9999999)]) (rest := []) hx hb hml hown hts hE hM hS hA ce_X9_isWithin tb_451 (V_X9_isWithin l D A ad ns I L G (a5) (0) (9999999) hI) rfl rfl ⟨Nat.le_of_ble_eq_true rfl, Nat.le_of_ble_eq_true rfl⟩  rfl hl.1 rfl (Nat.le_of_ble_eq_true rfl) dX9_yard_46 ⟨Nat.le_of_ble_eq_true rfl, Nat.le_of_ble_eq_true rfl⟩) hS (fun r9 u H locs hw hM hS => ?_)
        obtain ⟨rfl, xr9⟩ := hw
        have hM : Mem D A ad ns I L G H := hM
        have yr9 := bo01 xr9
        refine lv_if_ne (tgt := 54) hx hb dX9_yard_49 (by decide) (fun c10 => ?_) (fun c10 => ?_)
        · have hc10 := c10
          have q10 := xr9.t hc10
          refine lv_aload_n hx hb dX9_yard_54 rfl (lv_at hl 0 rfl) ?_
          refine m_getr (0) 0 (100) hx hb hts hown hE oc9 hM (hG.1 0 (by decide)) rfl (by decide) rfl (hG.2 (0, 0, 100) (by decide)) (by decide) tb_398 dX9_yard_55 ?_
          refine lv_iload_n hx hb dX9_yard_58 rfl (lv_at hl 1 rfl) ?_
          refine lv_iload_n hx hb dX9_yard_59 rfl (lv_at hl 2 rfl) ?_
          refine lv_iload_n hx hb dX9_yard_60 rfl (lv_at hl 3 rfl) ?_
          refine lv_iload hx hb dX9_yard_61 (lv_at hl 4 rfl) ?_
          refine m_calli (m_runV (100) (As := [.int (a0), .int (a1), .int (a2), .int (a3)]) (rest := []) hx hb hml hown hts hE hM hS hA ce_X8_addYard tb_525 (V_X8_addYard_t l D A ad ns I L G (a0) (a1) (a2) (a3) hG hI (by first | omega | decide) (by first | omega | decide) (by first | omega | decide) (by first | omega | decide) (by first | omega | decide)) rfl rfl ⟨Nat.le_of_ble_eq_true rfl, Nat.le_of_ble_eq_true rfl⟩ (hG.1 100 (by decide)) rfl rfl (by decide) rfl hl.1 rfl (Nat.le_of_ble_eq_true rfl) dX9_yard_63 ⟨Nat.le_of_ble_eq_true rfl, Nat.le_of_ble_eq_true rfl⟩) hS (fun r11 u H locs hw hM hS => ?_)
          obtain ⟨I12, L13, rfl, hI, hkI12, xr11⟩ := hw
          have hM : Mem D A ad ns I12 L13 G H := hM
          have hK := hK.trans hkI12 rfl
          have rrr11 := congrArg Int32.toInt xr11.1
          refine lv_istore (lv' := [(7, .int (r11)), (0, .ref (ad (0))), (1, .int (a0)), (2, .int (a1)), (3, .int (a2)), (4, .int (a3)), (5, .int (a4)), (6, .int (a5))]) hx hb dX9_yard_66 hl (by decide) rfl (fun ls hl => ?_)
          refine lv_aload_n hx hb dX9_yard_68 rfl (lv_at hl 1 rfl) ?_
          refine m_getr (0) 0 (100) hx hb hts hown hE oc9 hM (hG.1 0 (by decide)) rfl (by decide) rfl (hG.2 (0, 0, 100) (by decide)) (by decide) tb_398 dX9_yard_69 ?_
          refine lv_iload hx hb dX9_yard_72 (lv_at hl 0 rfl) ?_
          refine lv_iconst (v := (2)) hx hb dX9_yard_74 (by decide) ?_
          refine lv_iload hx hb dX9_yard_75 (lv_at hl 6 rfl) ?_
          refine m_callv (m_runV (100) (As := [.int (r11), .int (2), .int (a4)]) (rest := []) hx hb hml hown hts hE hM hS hA ce_X8_setYard tb_533 (V_X8_setYard_100_t l D A ad ns I12 L13 G (r11) (2) (a4) hG hI (by first | omega | decide) (by first | omega | decide)) rfl rfl ⟨Nat.le_of_ble_eq_true rfl, Nat.le_of_ble_eq_true rfl⟩ (hG.1 100 (by decide)) rfl rfl (by decide) rfl hl.1 rfl (Nat.le_of_ble_eq_true rfl) dX9_yard_77 ⟨Nat.le_of_ble_eq_true rfl, Nat.le_of_ble_eq_true rfl⟩) hS (fun u H locs hw hM hS => ?_)
          obtain ⟨I14, L15, rfl, hI, hkI14, xI14⟩ := hw
          have hM : Mem D A ad ns I14 L15 G H := hM
          have hK := hK.trans hkI14 rfl
          refine lv_aload_n hx hb dX9_yard_80 rfl (lv_at hl 1 rfl) ?_
          refine m_getr (0) 0 (100) hx hb hts hown hE oc9 hM (hG.1 0 (by decide)) rfl (by decide) rfl (hG.2 (0, 0, 100) (by decide)) (by decide) tb_398 dX9_yard_81 ?_
          refine lv_iload hx hb dX9_yard_84 (lv_at hl 0 rfl) ?_
          refine lv_iconst (v := (1)) hx hb dX9_yard_86 (by decide) ?_
          refine lv_iload hx hb dX9_yard_87 (lv_at hl 7 rfl) ?_
          refine m_callv (m_runV (100) (As := [.int (r11), .int (1), .int (a5)]) (rest := []) hx hb hml hown hts hE hM hS hA ce_X8_setYard tb_533 (V_X8_setYard_100_t l D A ad ns I14 L15 G (r11) (1) (a5) hG hI (by first | omega | decide) (by first | omega | decide)) rfl rfl ⟨Nat.le_of_ble_eq_true rfl, Nat.le_of_ble_eq_true rfl⟩ (hG.1 100 (by decide)) rfl rfl (by decide) rfl hl.1 rfl (Nat.le_of_ble_eq_true rfl) dX9_yard_89 ⟨Nat.le_of_ble_eq_true rfl, Nat.le_of_ble_eq_true rfl⟩) hS (fun u H locs hw hM hS => ?_)
          obtain ⟨I16, L17, rfl, hI, hkI16, xI16⟩ := hw
          have hM : Mem D A ad ns I16 L17 G H := hM
          have hK := hK.trans hkI16 rfl
          refine lv_iload hx hb dX9_yard_92 (lv_at hl 0 rfl) ?_
          exact m_iret hx hb hr hlocks hM hS (Nat.le_of_ble_eq_true rfl) (Nat.le_of_ble_eq_true rfl) ⟨_, _, rfl, hI, hK, (Or.inl ⟨by omega, xr11.1, by rw [show I16 104 = I12 104 from ((hkI16.getA 104 rfl)).trans (hkI14.getA 104 rfl)]; exact xr11.2.1, by have hh := ((xr11.2.2.st xI14).st xI16); rw [xr11.1] at hh; exact hh.of (yrdV_st (V := cF 100 I) rfl rfl)⟩)⟩ dX9_yard_94
        · have hc10 := c10
          have q10 := xr9.f hc10
          refine lv_iconst (v := (-1)) hx hb dX9_yard_52 (by decide) ?_
          exact m_iret hx hb hr hlocks hM hS (Nat.le_of_ble_eq_true rfl) (Nat.le_of_ble_eq_true rfl) ⟨_, _, rfl, hI, hK, (Or.inr ⟨by omega, rfl, rfl⟩)⟩ dX9_yard_53
    · have hc6 := c6
      have q6 := q_nlt hc6
      refine lv_iconst (v := (-1)) hx hb dX9_yard_27 (by decide) ?_
      exact m_iret hx hb hr hlocks hM hS (Nat.le_of_ble_eq_true rfl) (Nat.le_of_ble_eq_true rfl) ⟨_, _, rfl, hI, hK, (Or.inr ⟨by omega, rfl, rfl⟩)⟩ dX9_yard_28
