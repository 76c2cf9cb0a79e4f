set_option maxHeartbeats 4000000 in
set_option maxRecDepth 20000 in
theorem V_X8_setWay_100_t (l : Launch) (D : va_G) (A : Nat → Prop) (ad : Nat → Nat) (ns : List Nat) (I : MI) (L : ML) (G : MG) (a0 : Int32) (a1 : Int32) (hG : SGC ns G) (hI : INV I) (ha0 : 0 ≤ a0.toInt ∧ a0.toInt ≤ 23) (ha1 : -1 ≤ a1.toInt ∧ a1.toInt ≤ 7) : Met l yX8_setWay (wd yX8_setWay cX8_setWay 3 none) ({ frames := 0, cells := 0, slots := 0, locals := 0 }) (va_Pc [.ref (ad (100)), .int a0, .int a1] (PM D A ad ns I L G)) (va_Qv (fun u => ∃ I2 L2, u = (ad, ns, I2, L2, G) ∧ INV I2 ∧ Kp [(105, 106)] [] I I2 ∧ ((a1.toInt = -1 ∨ Lit 100 I2 a0) ∧ I2 = u2 I 105 (I 100 5 * 24 + a0).toNatClampNeg a1)) (BM D A) A) 0 0 A := by
  refine m_ofW (by decide) (Nat.le_of_ble_eq_true rfl) ?_
  intro p e s m below meth c ls args hC hE hM hA hS hl
  obtain ⟨hx, hb, hml, hown, hts, hr, hlocks, hin⟩ := hC
  have k0 : (0 : Int32).toInt = 0 := by decide
  have k24 : (24 : Int32).toInt = 24 := by decide
  have hK : Kp [(105, 106)] [] I I := Kp.rf
  have hl : lv_has ls 3 [(0, .ref (ad (100))), (1, .int (a0)), (2, .int (a1))] := hl
  refine lv_aload_n hx hb dX8_setWay_0 rfl (lv_at hl 0 rfl) ?_
  refine m_getr (100) 14 (105) hx hb hts hown hE oc8 hM (hG.1 100 (by decide)) rfl (by decide) rfl (hG.2 (100, 14, 105) (by decide)) (by decide) tb_78 dX8_setWay_1 ?_
  refine lv_aload_n hx hb dX8_setWay_4 rfl (lv_at hl 0 rfl) ?_
  refine m_geti (100) 5 hx hb hts hown hE oc8 hM (hG.1 100 (by decide)) rfl (by decide) rfl tb_51 dX8_setWay_5 ?_
  have g1 := hI.get (100) 5 (lo := 0) (hi := 11) rfl
  refine lv_bipush (v := (24)) hx hb dX8_setWay_8 (by decide) ?_
  refine lv_imul hx hb dX8_setWay_10 ?_
  refine lv_topi (fun v2 ev2 => ?_)
  have tv2 := a_mulR (c := 24) ev2 (by decide) (by omega) (by omega)
  refine lv_iload_n hx hb dX8_setWay_11 rfl (lv_at hl 1 rfl) ?_
  refine lv_iadd hx hb dX8_setWay_12 ?_
  refine lv_topi (fun v3 ev3 => ?_)
  have tv3 := a_add ev3 (by omega) (by omega)
  refine lv_iload_n hx hb dX8_setWay_13 rfl (lv_at hl 2 rfl) ?_
  refine m_iast (105) hx hb hE hM hS (hG.1 105 (by decide)) rfl (vp_in_iff.mpr (by omega)) dX8_setWay_14 (fun H locs I4 eI4 hM hS => ?_)
  subst eI4
  have hI := hI.put (n := 105) (k := ((v3).toNatClampNeg)) (v := a1) (lo := -1) (hi := 7) rfl (by first | omega | decide)
  have hK := hK.put (n := 105) (k := ((v3).toNatClampNeg)) (v := a1) (by first | rfl | simp [inR])
  exact m_vret hx hb hr hlocks hM hS (Nat.le_of_ble_eq_true rfl) (Nat.le_of_ble_eq_true rfl) ⟨_, _, rfl, hI, hK, (by subst ev2; subst ev3; exact ⟨if hz : a1.toInt = -1 then Or.inl hz else Or.inr ⟨by omega, by simp [u2_v, hz]⟩, rfl⟩)⟩ dX8_setWay_15
set_option maxHeartbeats 4000000 in
set_option maxRecDepth 20000 in
theorem V_X6_tryWays_t (l : Launch) (D : va_G) (A : Nat → Prop) (ad : Nat → Nat) (ns : List Nat) (I : MI) (L : ML) (G : MG) (a0 : Int32) (hG : SGC ns G) (hI : INV I) (ha0 : 0 ≤ a0.toInt ∧ a0.toInt ≤ 23) : Met l yX6_tryWays (wd yX6_tryWays cX6_tryWays 4 none) ({ frames := 4, cells := 0, slots := 0, locals := 107 }) (va_Pc [.ref (ad (50)), .ref (ad (100)), .int a0] (PM D A ad ns I L G)) (va_Qv (fun u => ∃ I2 L2, u = (ad, ns, I2, L2, G) ∧ INV I2 ∧ Kp [(11, 15), (105, 106)] [(10, 2), (10, 3), (10, 4), (10, 5), (10, 6), (10, 7), (10, 11), (10, 12), (50, 0), (50, 1), (50, 2)] I I2 ∧ (GAPK (I 100 5 * 24 + a0).toNatClampNeg I I2)) (BM D A) A) 0 0 A := by
  refine m_ofW (by decide) (Nat.le_of_ble_eq_true rfl) ?_
  intro p e s m below meth c ls args hC hE hM hA hS hl
  obtain ⟨hx, hb, hml, hown, hts, hr, hlocks, hin⟩ := hC
  have k0 : (0 : Int32).toInt = 0 := by decide
  have k8 : (8 : Int32).toInt = 8 := by decide
  have hK : Kp [(11, 15), (105, 106)] [(10, 2), (10, 3), (10, 4), (10, 5), (10, 6), (10, 7), (10, 11), (10, 12), (50, 0), (50, 1), (50, 2)] I I := Kp.rf
  have hl : lv_has ls 4 [(0, .ref (ad (50))), (1, .ref (ad (100))), (2, .int (a0))] := hl
  refine lv_iconst (v := (0)) hx hb dX6_tryWays_0 (by decide) ?_
  refine lv_istore_n (lv' := [(3, .int (0)), (0, .ref (ad (50))), (1, .ref (ad (100))), (2, .int (a0))]) hx hb dX6_tryWays_1 rfl hl (by decide) rfl (fun ls hl => ?_)
  have loop2 : ∀ (n : Nat) (x3_2 : Int32) (Ia2 : MI) (La2 : ML) (H : Heap) (locs : List Loc) (ls : Array Slot), INV Ia2 → Kp [(11, 15), (105, 106)] [(10, 2), (10, 3), (10, 4), (10, 5), (10, 6), (10, 7), (10, 11), (10, 12), (50, 0), (50, 1), (50, 2)] I Ia2 → (0 ≤ x3_2.toInt ∧ x3_2.toInt ≤ 8) → (Ia2 100 5 = I 100 5) → (GAPK (I 100 5 * 24 + a0).toNatClampNeg I Ia2) → (8 - x3_2.toInt).toNat < n → Mem D A ad ns Ia2 La2 G H → va_S A s.heap H locs → lv_has ls 4 [(3, .int (x3_2)), (0, .ref (ad (50))), (1, .ref (ad (100))), (2, .int (a0))] → W p l e ({ frames := 4, cells := 0, slots := 0, locals := 107 } : Room) s m args below meth c H locs 0 0 (MQ below (va_Qv (fun u => ∃ I2 L2, u = (ad, ns, I2, L2, G) ∧ INV I2 ∧ Kp [(11, 15), (105, 106)] [(10, 2), (10, 3), (10, 4), (10, 5), (10, 6), (10, 7), (10, 11), (10, 12), (50, 0), (50, 1), (50, 2)] I I2 ∧ (GAPK (I 100 5 * 24 + a0).toNatClampNeg I I2)) (BM D A) A) args s 0 0 A) (F0 m 2 ls []) := by
    intro n
    induction n with
    | zero =>
      intro x3_2 Ia2 La2 H locs ls hI hK hr3_2 hg25 hg2 hmu
      exact absurd hmu (Nat.not_lt_zero _)
    | succ n ih2 =>
      intro x3_2 Ia2 La2 H locs ls hI hK hr3_2 hg25 hg2 hmu2 hM hS hl
      refine lv_iload_n hx hb dX6_tryWays_2 rfl (lv_at hl 0 rfl) ?_
      refine lv_bipush (v := (8)) hx hb dX6_tryWays_3 (by decide) ?_
      refine lv_icmp_ge (tgt := 101) hx hb dX6_tryWays_5 (by decide) (fun c1 => ?_) (fun c1 => ?_)
      · have hc1 := c1
        have q1 := q_le hc1
        exact m_vret hx hb hr hlocks hM hS (Nat.le_of_ble_eq_true rfl) (Nat.le_of_ble_eq_true rfl) ⟨_, _, rfl, hI, hK, hg2⟩ dX6_tryWays_101
      · have hc1 := c1
        have q1 := q_nle hc1
        refine lv_aload_n hx hb dX6_tryWays_8 rfl (lv_at hl 2 rfl) ?_
        refine lv_aload_n hx hb dX6_tryWays_9 rfl (lv_at hl 2 rfl) ?_
        refine m_geti (100) 2 hx hb hts hown hE oc8 hM (hG.1 100 (by decide)) rfl (by decide) rfl tb_42 dX6_tryWays_10 ?_
        have g2 := hI.get (100) 2 (lo := 0) (hi := 23) rfl
        refine va_getsN hx hb hE.2.2.2.2.2.1.1 hS hown (va_Nw.use rfl (hE.2.1 _ (List.mem_of_getElem? (i := 12) rfl))) (fun _ h => h) dX6_tryWays_13 ?_
        refine lv_iload_n hx hb dX6_tryWays_16 rfl (lv_at hl 0 rfl) ?_
        refine va_ti hx hb hE.2.2.2.2.2.1.2 hS (i := x3_2) (vp_in_iff.mpr (by omega)) rfl dX6_tryWays_17 ?_
        refine lv_topi (fun v3 ev3 => ?_)
        have tv3 := stX_r ev3
        refine lv_iadd hx hb dX6_tryWays_18 ?_
        refine lv_topi (fun v4 ev4 => ?_)
        have tv4 := a_add ev4 (by omega) (by omega)
        refine lv_aload_n hx hb dX6_tryWays_19 rfl (lv_at hl 2 rfl) ?_
        refine m_geti (100) 3 hx hb hts hown hE oc8 hM (hG.1 100 (by decide)) rfl (by decide) rfl tb_46 dX6_tryWays_20 ?_
        have g5 := hI.get (100) 3 (lo := 0) (hi := 23) rfl
        refine va_getsN hx hb hE.2.2.2.2.2.2.1.1 hS hown (va_Nw.use rfl (hE.2.1 _ (List.mem_of_getElem? (i := 13) rfl))) (fun _ h => h) dX6_tryWays_23 ?_
        refine lv_iload_n hx hb dX6_tryWays_26 rfl (lv_at hl 0 rfl) ?_
        refine va_ti hx hb hE.2.2.2.2.2.2.1.2 hS (i := x3_2) (vp_in_iff.mpr (by omega)) rfl dX6_tryWays_27 ?_
        refine lv_topi (fun v6 ev6 => ?_)
        have tv6 := stY_r ev6
        refine lv_iadd hx hb dX6_tryWays_28 ?_
        refine lv_topi (fun v7 ev7 => ?_)
        have tv7 := a_add ev7 (by omega) (by omega)
        refine m_calli (m_runV (100) (As := [.int (v4), .int (v7)]) (rest := []) hx hb hml hown hts hE hM hS hA ce_X8_hasCell tb_1078 (V_X8_hasCell_100 l D A ad ns Ia2 La2 G (v4) (v7) hG hI) rfl rfl ⟨Nat.le_of_ble_eq_true rfl, Nat.le_of_ble_eq_true rfl⟩ (hG.1 100 (by decide)) rfl rfl (by decide) rfl hl.1 rfl (Nat.le_of_ble_eq_true rfl) dX6_tryWays_29 ⟨Nat.le_of_ble_eq_true rfl, Nat.le_of_ble_eq_true rfl⟩) hS (fun r8 u H locs hw hM hS => ?_)
        obtain ⟨rfl, xr8⟩ := hw
        have hM : Mem D A ad ns Ia2 La2 G H := hM
        have yr8 := bo01 xr8
        have g9 := hI.get 100 0 (lo := 0) (hi := 24) rfl
        have g10 := hI.get 100 1 (lo := 0) (hi := 24) rfl
        refine lv_if_eq (tgt := 95) hx hb dX6_tryWays_32 (by decide) (fun c11 => ?_) (fun c11 => ?_)
        · have hc11 := c11
          have q11 := xr8.f hc11
          obtain ⟨v12, ev12⟩ : ∃ z : Int32, z = x3_2 + Int32.ofInt (1) := ⟨_, rfl⟩
          have tv12 := a_inc ev12 (by decide) (by omega) (by omega)
          refine lv_iinc (v := v12) (lv' := [(3, .int (v12)), (0, .ref (ad (50))), (1, .ref (ad (100))), (2, .int (a0))]) hx hb dX6_tryWays_95 hl (k := 0) rfl ev12.symm (by decide) rfl (fun ls hl => ?_)
          refine lv_goto (tgt := 2) hx hb dX6_tryWays_98 (by decide) ?_
          exact ih2 (v12) Ia2 La2 _ _ ls hI hK (by first | omega | decide) hg25 hg2 (by omega) hM hS (lv_sub hl [0, 1, 2, 3] rfl)
        · have hc11 := c11
          have q11 := xr8.t hc11
          refine lv_aload_n hx hb dX6_tryWays_35 rfl (lv_at hl 2 rfl) ?_
          refine lv_iload_n hx hb dX6_tryWays_36 rfl (lv_at hl 3 rfl) ?_
          refine lv_iload_n hx hb dX6_tryWays_37 rfl (lv_at hl 0 rfl) ?_
          refine m_callv (m_runV (100) (As := [.int (a0), .int (x3_2)]) (rest := []) hx hb hml hown hts hE hM hS hA ce_X8_setWay tb_1079 (V_X8_setWay_100_t l D A ad ns Ia2 La2 G (a0) (x3_2) hG hI (by first | omega | decide) (by first | omega | decide)) rfl rfl ⟨Nat.le_of_ble_eq_true rfl, Nat.le_of_ble_eq_true rfl⟩ (hG.1 100 (by decide)) rfl rfl (by decide) rfl hl.1 rfl (Nat.le_of_ble_eq_true rfl) dX6_tryWays_38 ⟨Nat.le_of_ble_eq_true rfl, Nat.le_of_ble_eq_true rfl⟩) hS (fun u H locs hw hM hS => ?_)
          obtain ⟨I13, L14, rfl, hI, hkI13, xI13⟩ := hw
          have hM : Mem D A ad ns I13 L14 G H := hM
          have hK := hK.trans hkI13 rfl
          have hwI13 : I13 = u2 Ia2 105 (I 100 5 * 24 + a0).toNatClampNeg (x3_2) := by have hh := xI13.2; rw [show Ia2 100 5 = I 100 5 from hg25] at hh; exact hh
          have gk15 : GAPK (I 100 5 * 24 + a0).toNatClampNeg I I13 := by rw [hwI13]; exact hg2.way
          refine lv_aload_n hx hb dX6_tryWays_41 rfl (lv_at hl 1 rfl) ?_
          refine m_getr (50) 3 (10) hx hb hts hown hE oc6 hM (hG.1 50 (by decide)) rfl (by decide) rfl (hG.2 (50, 3, 10) (by decide)) (by decide) tb_274 dX6_tryWays_42 ?_
          refine lv_aload_n hx hb dX6_tryWays_45 rfl (lv_at hl 2 rfl) ?_
          refine lv_iload_n hx hb dX6_tryWays_46 rfl (lv_at hl 3 rfl) ?_
          refine m_callv (m_runV (10) (As := [.ref (ad (100)), .int (a0)]) (rest := []) hx hb hml hown hts hE hM hS hA ce_X1_shine tb_1083 (V_X1_shine_100 l D A ad ns I13 L14 G (a0) hG hI ((s_or (by omega) xI13.1)) (by first | omega | decide)) rfl rfl ⟨Nat.le_of_ble_eq_true rfl, Nat.le_of_ble_eq_true rfl⟩ (hG.1 10 (by decide)) rfl rfl (by decide) rfl hl.1 rfl (Nat.le_of_ble_eq_true rfl) dX6_tryWays_47 ⟨Nat.le_of_ble_eq_true rfl, Nat.le_of_ble_eq_true rfl⟩) hS (fun u H locs hw hM hS => ?_)
          obtain ⟨I16, L17, rfl, hI, hkI16⟩ := hw
          have hM : Mem D A ad ns I16 L17 G H := hM
          have hK := hK.trans hkI16 rfl
          have gk18 : GAPK (I 100 5 * 24 + a0).toNatClampNeg I I16 := gk15.nk hkI16 rfl
          refine lv_aload_n hx hb dX6_tryWays_50 rfl (lv_at hl 1 rfl) ?_
          refine m_getr (50) 3 (10) hx hb hts hown hE oc6 hM (hG.1 50 (by decide)) rfl (by decide) rfl (hG.2 (50, 3, 10) (by decide)) (by decide) tb_274 dX6_tryWays_51 ?_
          refine m_calli (m_runV (10) (As := []) (rest := []) hx hb hml hown hts hE hM hS hA ce_X1_total tb_1084 (V_X1_total l D A ad ns I16 L17 G hG hI) rfl rfl ⟨Nat.le_of_ble_eq_true rfl, Nat.le_of_ble_eq_true rfl⟩ (hG.1 10 (by decide)) rfl rfl (by decide) rfl hl.1 rfl (Nat.le_of_ble_eq_true rfl) dX6_tryWays_54 ⟨Nat.le_of_ble_eq_true rfl, Nat.le_of_ble_eq_true rfl⟩) hS (fun r19 u H locs hw hM hS => ?_)
          obtain ⟨rfl, xr19⟩ := hw
          have hM : Mem D A ad ns I16 L17 G H := hM
          refine lv_aload_n hx hb dX6_tryWays_57 rfl (lv_at hl 1 rfl) ?_
          refine m_geti (50) 2 hx hb hts hown hE oc6 hM (hG.1 50 (by decide)) rfl (by decide) rfl tb_272 dX6_tryWays_58 ?_
          have z20 : I16 (50) 2 = Ia2 (50) 2 := ((hkI16.get (50) 2 rfl)).trans (hkI13.get (50) 2 rfl)
          rw [z20]
          refine lv_icmp_le (tgt := 95) hx hb dX6_tryWays_61 (by decide) (fun c21 => ?_) (fun c21 => ?_)
          · have hc21 := c21
            have q21 := q_le hc21
            obtain ⟨v22, ev22⟩ : ∃ z : Int32, z = x3_2 + Int32.ofInt (1) := ⟨_, rfl⟩
            have tv22 := a_inc ev22 (by decide) (by omega) (by omega)
            refine lv_iinc (v := v22) (lv' := [(3, .int (v22)), (0, .ref (ad (50))), (1, .ref (ad (100))), (2, .int (a0))]) hx hb dX6_tryWays_95 hl (k := 0) rfl ev22.symm (by decide) rfl (fun ls hl => ?_)
            refine lv_goto (tgt := 2) hx hb dX6_tryWays_98 (by decide) ?_
            exact ih2 (v22) I16 L17 _ _ ls hI hK (by first | omega | decide) ((((hkI16.get (100) 5 rfl)).trans (hkI13.get (100) 5 rfl)).trans hg25) gk18 (by omega) hM hS (lv_sub hl [0, 1, 2, 3] rfl)
          · have hc21 := c21
            have q21 := q_nle hc21
            refine lv_aload_n hx hb dX6_tryWays_64 rfl (lv_at hl 1 rfl) ?_
            refine lv_aload_n hx hb dX6_tryWays_65 rfl (lv_at hl 2 rfl) ?_
            refine m_geti (100) 2 hx hb hts hown hE oc8 hM (hG.1 100 (by decide)) rfl (by decide) rfl tb_42 dX6_tryWays_66 ?_
            have g23 := hI.get (100) 2 (lo := 0) (hi := 23) rfl
            have z24 : I16 (100) 2 = Ia2 (100) 2 := ((hkI16.get (100) 2 rfl)).trans (hkI13.get (100) 2 rfl)
            rw [z24] at g23 ⊢
            refine lv_aload_n hx hb dX6_tryWays_69 rfl (lv_at hl 2 rfl) ?_
            refine m_geti (100) 3 hx hb hts hown hE oc8 hM (hG.1 100 (by decide)) rfl (by decide) rfl tb_46 dX6_tryWays_70 ?_
            have g25 := hI.get (100) 3 (lo := 0) (hi := 23) rfl
            have z26 : I16 (100) 3 = Ia2 (100) 3 := ((hkI16.get (100) 3 rfl)).trans (hkI13.get (100) 3 rfl)
            rw [z26] at g25 ⊢
            refine m_calli (m_runSN (As := [.int (Ia2 (100) 2), .int (Ia2 (100) 3)]) (rest := [.ref (ad (50))]) hx hb hml hown hts hE hM hS hA ce_X9_cellOf (List.mem_of_getElem? (i := 14) rfl) (V_X9_cellOf l D A ad ns I16 L17 G (Ia2 (100) 2) (Ia2 (100) 3) hI (by first | omega | decide) (by first | omega | decide)) rfl rfl ⟨Nat.le_of_ble_eq_true rfl, Nat.le_of_ble_eq_true rfl⟩  rfl hl.1 rfl (Nat.le_of_ble_eq_true rfl) dX6_tryWays_73 ⟨Nat.le_of_ble_eq_true rfl, Nat.le_of_ble_eq_true rfl⟩) hS (fun r27 u H locs hw hM hS => ?_)
            obtain ⟨rfl, xr27⟩ := hw
            have hM : Mem D A ad ns I16 L17 G H := hM
            refine m_puti (50) 0 hx hb hts hown hE oc6 hM hS (hG.1 50 (by decide)) rfl (by decide) rfl rfl rfl rfl tb_268 dX6_tryWays_76 (fun H locs I28 eI28 hM hS => ?_)
            subst eI28
            have hI := hI.putF (n := 50) (k := 0) (v := r27) rfl
            have hK := hK.put (n := 50) (k := 0) (v := r27) (by first | rfl | simp [inR])
            have gk29 : GAPK (I 100 5 * 24 + a0).toNatClampNeg I (u2 I16 (50) 0 (r27)) := gk18.nx (n := 50) (by decide)
            refine lv_aload_n hx hb dX6_tryWays_79 rfl (lv_at hl 1 rfl) ?_
            refine lv_iload_n hx hb dX6_tryWays_80 rfl (lv_at hl 0 rfl) ?_
            refine m_puti (50) 1 hx hb hts hown hE oc6 hM hS (hG.1 50 (by decide)) rfl (by decide) rfl rfl rfl rfl tb_270 dX6_tryWays_81 (fun H locs I30 eI30 hM hS => ?_)
            subst eI30
            have hI := hI.putF (n := 50) (k := 1) (v := x3_2) rfl
            have hK := hK.put (n := 50) (k := 1) (v := x3_2) (by first | rfl | simp [inR])
            have gk31 : GAPK (I 100 5 * 24 + a0).toNatClampNeg I (u2 (u2 I16 (50) 0 (r27)) (50) 1 (x3_2)) := gk29.nx (n := 50) (by decide)
            refine lv_aload_n hx hb dX6_tryWays_84 rfl (lv_at hl 1 rfl) ?_
            refine lv_aload_n hx hb dX6_tryWays_85 rfl (lv_at hl 1 rfl) ?_
            refine m_getr (50) 3 (10) hx hb hts hown hE oc6 hM (hG.1 50 (by decide)) rfl (by decide) rfl (hG.2 (50, 3, 10) (by decide)) (by decide) tb_274 dX6_tryWays_86 ?_
            refine m_calli (m_runV (10) (As := []) (rest := [.ref (ad (50))]) hx hb hml hown hts hE hM hS hA ce_X1_total tb_1084 (V_X1_total l D A ad ns (u2 (u2 I16 (50) 0 (r27)) (50) 1 (x3_2)) L17 G hG hI) rfl rfl ⟨Nat.le_of_ble_eq_true rfl, Nat.le_of_ble_eq_true rfl⟩ (hG.1 10 (by decide)) rfl rfl (by decide) rfl hl.1 rfl (Nat.le_of_ble_eq_true rfl) dX6_tryWays_89 ⟨Nat.le_of_ble_eq_true rfl, Nat.le_of_ble_eq_true rfl⟩) hS (fun r32 u H locs hw hM hS => ?_)
            obtain ⟨rfl, xr32⟩ := hw
            have hM : Mem D A ad ns (u2 (u2 I16 (50) 0 (r27)) (50) 1 (x3_2)) L17 G H := hM
            refine m_puti (50) 2 hx hb hts hown hE oc6 hM hS (hG.1 50 (by decide)) rfl (by decide) rfl rfl rfl rfl tb_272 dX6_tryWays_92 (fun H locs I33 eI33 hM hS => ?_)
            subst eI33
            have hI := hI.putF (n := 50) (k := 2) (v := r32) rfl
            have hK := hK.put (n := 50) (k := 2) (v := r32) (by first | rfl | simp [inR])
            have gk34 : GAPK (I 100 5 * 24 + a0).toNatClampNeg I (u2 (u2 (u2 I16 (50) 0 (r27)) (50) 1 (x3_2)) (50) 2 (r32)) := gk31.nx (n := 50) (by decide)
            obtain ⟨v35, ev35⟩ : ∃ z : Int32, z = x3_2 + Int32.ofInt (1) := ⟨_, rfl⟩
            have tv35 := a_inc ev35 (by decide) (by omega) (by omega)
            refine lv_iinc (v := v35) (lv' := [(3, .int (v35)), (0, .ref (ad (50))), (1, .ref (ad (100))), (2, .int (a0))]) hx hb dX6_tryWays_95 hl (k := 0) rfl ev35.symm (by decide) rfl (fun ls hl => ?_)
            refine lv_goto (tgt := 2) hx hb dX6_tryWays_98 (by decide) ?_
            exact ih2 (v35) (u2 (u2 (u2 I16 (50) 0 (r27)) (50) 1 (x3_2)) (50) 2 (r32)) L17 _ _ ls hI hK (by first | omega | decide) (((((show (u2 (u2 (u2 I16 (50) 0 (r27)) (50) 1 (x3_2)) (50) 2 (r32)) (100) 5 = I16 (100) 5 from by simp [u2_v])).trans (hkI16.get (100) 5 rfl)).trans (hkI13.get (100) 5 rfl)).trans hg25) gk34 (by omega) hM hS (lv_sub hl [0, 1, 2, 3] rfl)
  exact loop2 (_ + 1) (0) I L _ _ ls hI hK (by first | omega | decide) rfl GAPK.rf (Nat.lt_succ_self _) hM hS (lv_sub hl [0, 1, 2, 3] rfl)
set_option maxHeartbeats 4000000 in
set_option maxRecDepth 20000 in
theorem V_X6_search_t (l : Launch) (D : va_G) (A : Nat → Prop) (ad : Nat → Nat) (ns : List Nat) (I : MI) (L : ML) (G : MG) (a0 : Int32) (hG : SGC ns G) (hI : INV I) (ha0 : 0 ≤ a0.toInt ∧ a0.toInt ≤ 23) : Met l yX6_search (wd yX6_search cX6_search 9 none) ({ frames := 5, cells := 0, slots := 0, locals := 130 }) (va_Pc [.ref (ad (50)), .ref (ad (100)), .int a0] (PM D A ad ns I L G)) (va_Qv (fun u => ∃ I2 L2, u = (ad, ns, I2, L2, G) ∧ INV I2 ∧ Kp [(11, 15), (105, 106)] [(10, 2), (10, 3), (10, 4), (10, 5), (10, 6), (10, 7), (10, 11), (10, 12), (50, 0), (50, 1), (50, 2), (100, 2), (100, 3)] I I2 ∧ (KV 100 I I2)) (BM D A) A) 0 0 A := by
  refine m_ofW (by decide) (Nat.le_of_ble_eq_true rfl) ?_
  intro p e s m below meth c ls args hC hE hM hA hS hl
  obtain ⟨hx, hb, hml, hown, hts, hr, hlocks, hin⟩ := hC
  have km2 : (-2 : Int32).toInt = -2 := by decide
  have k0 : (0 : Int32).toInt = 0 := by decide
  have k1 : (1 : Int32).toInt = 1 := by decide
  have hK : Kp [(11, 15), (105, 106)] [(10, 2), (10, 3), (10, 4), (10, 5), (10, 6), (10, 7), (10, 11), (10, 12), (50, 0), (50, 1), (50, 2), (100, 2), (100, 3)] I I := Kp.rf
  have hl : lv_has ls 9 [(0, .ref (ad (50))), (1, .ref (ad (100))), (2, .int (a0))] := hl
  refine lv_aload_n hx hb dX6_search_0 rfl (lv_at hl 0 rfl) ?_
  refine lv_bipush (v := (-2)) hx hb dX6_search_1 (by decide) ?_
  refine m_puti (50) 0 hx hb hts hown hE oc6 hM hS (hG.1 50 (by decide)) rfl (by decide) rfl rfl rfl rfl tb_268 dX6_search_3 (fun H locs I1 eI1 hM hS => ?_)
  subst eI1
  have hI := hI.putF (n := 50) (k := 0) (v := (-2 : Int32)) rfl
  have hK := hK.put (n := 50) (k := 0) (v := (-2 : Int32)) (by first | rfl | simp [inR])
  have gk2 : GAPK (I 100 5 * 24 + a0).toNatClampNeg I (u2 I (50) 0 ((-2 : Int32))) := (GAPK.rf (i := (I 100 5 * 24 + a0).toNatClampNeg) (I := I)).nx (n := 50) (by decide)
  refine lv_aload_n hx hb dX6_search_6 rfl (lv_at hl 0 rfl) ?_
  refine lv_bipush (v := (-2)) hx hb dX6_search_7 (by decide) ?_
  refine m_puti (50) 1 hx hb hts hown hE oc6 hM hS (hG.1 50 (by decide)) rfl (by decide) rfl rfl rfl rfl tb_270 dX6_search_9 (fun H locs I3 eI3 hM hS => ?_)
  subst eI3
  have hI := hI.putF (n := 50) (k := 1) (v := (-2 : Int32)) rfl
  have hK := hK.put (n := 50) (k := 1) (v := (-2 : Int32)) (by first | rfl | simp [inR])
  have gk4 : GAPK (I 100 5 * 24 + a0).toNatClampNeg I (u2 (u2 I (50) 0 ((-2 : Int32))) (50) 1 ((-2 : Int32))) := gk2.nx (n := 50) (by decide)
  refine lv_aload_n hx hb dX6_search_12 rfl (lv_at hl 0 rfl) ?_
  refine lv_bipush (v := (-2)) hx hb dX6_search_13 (by decide) ?_
  refine m_puti (50) 2 hx hb hts hown hE oc6 hM hS (hG.1 50 (by decide)) rfl (by decide) rfl rfl rfl rfl tb_272 dX6_search_15 (fun H locs I5 eI5 hM hS => ?_)
  subst eI5
  have hI := hI.putF (n := 50) (k := 2) (v := (-2 : Int32)) rfl
  have hK := hK.put (n := 50) (k := 2) (v := (-2 : Int32)) (by first | rfl | simp [inR])
  have gk6 : GAPK (I 100 5 * 24 + a0).toNatClampNeg I (u2 (u2 (u2 I (50) 0 ((-2 : Int32))) (50) 1 ((-2 : Int32))) (50) 2 ((-2 : Int32))) := gk4.nx (n := 50) (by decide)
  refine lv_aload_n hx hb dX6_search_18 rfl (lv_at hl 1 rfl) ?_
  refine m_geti (100) 2 hx hb hts hown hE oc8 hM (hG.1 100 (by decide)) rfl (by decide) rfl tb_42 dX6_search_19 ?_
  have g7 := hI.get (100) 2 (lo := 0) (hi := 23) rfl
  have z8 : (u2 (u2 (u2 I (50) 0 ((-2 : Int32))) (50) 1 ((-2 : Int32))) (50) 2 ((-2 : Int32))) (100) 2 = I (100) 2 := (show (u2 (u2 (u2 I (50) 0 ((-2 : Int32))) (50) 1 ((-2 : Int32))) (50) 2 ((-2 : Int32))) (100) 2 = I (100) 2 from by simp [u2_v])
  rw [z8] at g7 ⊢
  refine lv_istore_n (lv' := [(3, .int (I (100) 2)), (0, .ref (ad (50))), (1, .ref (ad (100))), (2, .int (a0))]) hx hb dX6_search_22 rfl hl (by decide) rfl (fun ls hl => ?_)
  refine lv_aload_n hx hb dX6_search_23 rfl (lv_at hl 2 rfl) ?_
  refine m_geti (100) 3 hx hb hts hown hE oc8 hM (hG.1 100 (by decide)) rfl (by decide) rfl tb_46 dX6_search_24 ?_
  have g9 := hI.get (100) 3 (lo := 0) (hi := 23) rfl
  have z10 : (u2 (u2 (u2 I (50) 0 ((-2 : Int32))) (50) 1 ((-2 : Int32))) (50) 2 ((-2 : Int32))) (100) 3 = I (100) 3 := (show (u2 (u2 (u2 I (50) 0 ((-2 : Int32))) (50) 1 ((-2 : Int32))) (50) 2 ((-2 : Int32))) (100) 3 = I (100) 3 from by simp [u2_v])
  rw [z10] at g9 ⊢
  refine lv_istore (lv' := [(4, .int (I (100) 3)), (3, .int (I (100) 2)), (0, .ref (ad (50))), (1, .ref (ad (100))), (2, .int (a0))]) hx hb dX6_search_27 hl (by decide) rfl (fun ls hl => ?_)
  refine lv_aload_n hx hb dX6_search_29 rfl (lv_at hl 3 rfl) ?_
  refine lv_iload_n hx hb dX6_search_30 rfl (lv_at hl 4 rfl) ?_
  refine m_calli (m_runV (100) (As := [.int (a0)]) (rest := []) hx hb hml hown hts hE hM hS hA ce_X8_wayOf tb_1067 (V_X8_wayOf_100 l D A ad ns (u2 (u2 (u2 I (50) 0 ((-2 : Int32))) (50) 1 ((-2 : Int32))) (50) 2 ((-2 : Int32))) L G (a0) hG hI (by first | omega | decide)) rfl rfl ⟨Nat.le_of_ble_eq_true rfl, Nat.le_of_ble_eq_true rfl⟩ (hG.1 100 (by decide)) rfl rfl (by decide) rfl hl.1 rfl (Nat.le_of_ble_eq_true rfl) dX6_search_31 ⟨Nat.le_of_ble_eq_true rfl, Nat.le_of_ble_eq_true rfl⟩) hS (fun r11 u H locs hw hM hS => ?_)
  obtain ⟨rfl, xr11⟩ := hw
  have hM : Mem D A ad ns (u2 (u2 (u2 I (50) 0 ((-2 : Int32))) (50) 1 ((-2 : Int32))) (50) 2 ((-2 : Int32))) L G H := hM
  have lzr11 := hI.get 105 (((u2 (u2 (u2 I (50) 0 ((-2 : Int32))) (50) 1 ((-2 : Int32))) (50) 2 ((-2 : Int32))) 100 5 * 24 + a0).toNatClampNeg) (lo := -1) (hi := 7) rfl
  rw [← xr11] at lzr11
  have hwb : r11 = I 105 (I 100 5 * 24 + a0).toNatClampNeg := by have hh := xr11; simpa [u2_v] using hh
  refine lv_istore (lv' := [(5, .int (r11)), (4, .int (I (100) 3)), (3, .int (I (100) 2)), (0, .ref (ad (50))), (1, .ref (ad (100))), (2, .int (a0))]) hx hb dX6_search_34 hl (by decide) rfl (fun ls hl => ?_)
  refine lv_iconst (v := (0)) hx hb dX6_search_36 (by decide) ?_
  refine lv_istore (lv' := [(6, .int (0)), (5, .int (r11)), (4, .int (I (100) 3)), (3, .int (I (100) 2)), (0, .ref (ad (50))), (1, .ref (ad (100))), (2, .int (a0))]) hx hb dX6_search_37 hl (by decide) rfl (fun ls hl => ?_)
  have loop39 : ∀ (n : Nat) (x6_39 : Int32) (Ia39 : MI) (La39 : ML) (H : Heap) (locs : List Loc) (ls : Array Slot), INV Ia39 → Kp [(11, 15), (105, 106)] [(10, 2), (10, 3), (10, 4), (10, 5), (10, 6), (10, 7), (10, 11), (10, 12), (50, 0), (50, 1), (50, 2), (100, 2), (100, 3)] I Ia39 → (0 ≤ x6_39.toInt ∧ x6_39.toInt ≤ 24) → (Ia39 100 5 = I 100 5) → (GAPK (I 100 5 * 24 + a0).toNatClampNeg I Ia39) → (24 - x6_39.toInt).toNat < n → Mem D A ad ns Ia39 La39 G H → va_S A s.heap H locs → lv_has ls 9 [(6, .int (x6_39)), (5, .int (r11)), (4, .int (I (100) 3)), (3, .int (I (100) 2)), (0, .ref (ad (50))), (1, .ref (ad (100))), (2, .int (a0))] → W p l e ({ frames := 5, cells := 0, slots := 0, locals := 130 } : Room) s m args below meth c H locs 0 0 (MQ below (va_Qv (fun u => ∃ I2 L2, u = (ad, ns, I2, L2, G) ∧ INV I2 ∧ Kp [(11, 15), (105, 106)] [(10, 2), (10, 3), (10, 4), (10, 5), (10, 6), (10, 7), (10, 11), (10, 12), (50, 0), (50, 1), (50, 2), (100, 2), (100, 3)] I I2 ∧ (KV 100 I I2)) (BM D A) A) args s 0 0 A) (F0 m 39 ls []) := by
    intro n
    induction n with
    | zero =>
      intro x6_39 Ia39 La39 H locs ls hI hK hr6_39 hg395 hg39 hmu
      exact absurd hmu (Nat.not_lt_zero _)
    | succ n ih39 =>
      intro x6_39 Ia39 La39 H locs ls hI hK hr6_39 hg395 hg39 hmu39 hM hS hl
      refine lv_iload hx hb dX6_search_39 (lv_at hl 0 rfl) ?_
      refine lv_aload_n hx hb dX6_search_41 rfl (lv_at hl 5 rfl) ?_
      refine m_geti (100) 1 hx hb hts hown hE oc8 hM (hG.1 100 (by decide)) rfl (by decide) rfl tb_38 dX6_search_42 ?_
      have g12 := hI.get (100) 1 (lo := 0) (hi := 24) rfl
      refine lv_icmp_ge (tgt := 137) hx hb dX6_search_45 (by decide) (fun c13 => ?_) (fun c13 => ?_)
      · have hc13 := c13
        have q13 := q_le hc13
        refine lv_aload_n hx hb dX6_search_137 rfl (lv_at hl 5 rfl) ?_
        refine lv_iload_n hx hb dX6_search_138 rfl (lv_at hl 3 rfl) ?_
        refine m_puti (100) 2 hx hb hts hown hE oc8 hM hS (hG.1 100 (by decide)) rfl (by decide) rfl rfl rfl rfl tb_42 dX6_search_139 (fun H locs I14 eI14 hM hS => ?_)
        subst eI14
        have hI := hI.put (n := 100) (k := 2) (v := I (100) 2) (lo := 0) (hi := 23) rfl (by first | omega | decide)
        have hK := hK.put (n := 100) (k := 2) (v := I (100) 2) (by first | rfl | simp [inR])
        have gk15 : GAPK (I 100 5 * 24 + a0).toNatClampNeg I (u2 Ia39 (100) 2 (I (100) 2)) := hg39.gap (k := 2) (by decide)
        refine lv_aload_n hx hb dX6_search_142 rfl (lv_at hl 5 rfl) ?_
        refine lv_iload hx hb dX6_search_143 (lv_at hl 2 rfl) ?_
        refine m_puti (100) 3 hx hb hts hown hE oc8 hM hS (hG.1 100 (by decide)) rfl (by decide) rfl rfl rfl rfl tb_46 dX6_search_145 (fun H locs I16 eI16 hM hS => ?_)
        subst eI16
        have hI := hI.put (n := 100) (k := 3) (v := I (100) 3) (lo := 0) (hi := 23) rfl (by first | omega | decide)
        have hK := hK.put (n := 100) (k := 3) (v := I (100) 3) (by first | rfl | simp [inR])
        have gk17 : GAPK (I 100 5 * 24 + a0).toNatClampNeg I (u2 (u2 Ia39 (100) 2 (I (100) 2)) (100) 3 (I (100) 3)) := gk15.gap (k := 3) (by decide)
        refine lv_aload_n hx hb dX6_search_148 rfl (lv_at hl 5 rfl) ?_
        refine lv_iload_n hx hb dX6_search_149 rfl (lv_at hl 6 rfl) ?_
        refine lv_iload hx hb dX6_search_150 (lv_at hl 1 rfl) ?_
        refine m_callv (m_runV (100) (As := [.int (a0), .int (r11)]) (rest := []) hx hb hml hown hts hE hM hS hA ce_X8_setWay tb_1079 (V_X8_setWay_100_t l D A ad ns (u2 (u2 Ia39 (100) 2 (I (100) 2)) (100) 3 (I (100) 3)) La39 G (a0) (r11) hG hI (by first | omega | decide) (by first | omega | decide)) rfl rfl ⟨Nat.le_of_ble_eq_true rfl, Nat.le_of_ble_eq_true rfl⟩ (hG.1 100 (by decide)) rfl rfl (by decide) rfl hl.1 rfl (Nat.le_of_ble_eq_true rfl) dX6_search_152 ⟨Nat.le_of_ble_eq_true rfl, Nat.le_of_ble_eq_true rfl⟩) hS (fun u H locs hw hM hS => ?_)
        obtain ⟨I18, L19, rfl, hI, hkI18, xI18⟩ := hw
        have hM : Mem D A ad ns I18 L19 G H := hM
        have hK := hK.trans hkI18 rfl
        have hwI18 : I18 = u2 (u2 (u2 Ia39 (100) 2 (I (100) 2)) (100) 3 (I (100) 3)) 105 (I 100 5 * 24 + a0).toNatClampNeg (r11) := by have hh := xI18.2; rw [show (u2 (u2 Ia39 (100) 2 (I (100) 2)) (100) 3 (I (100) 3)) 100 5 = I 100 5 from ((show (u2 (u2 Ia39 (100) 2 (I (100) 2)) (100) 3 (I (100) 3)) (100) 5 = Ia39 (100) 5 from by simp [u2_v])).trans hg395] at hh; exact hh
        have gk20 : GAPK (I 100 5 * 24 + a0).toNatClampNeg I I18 := by rw [hwI18]; exact gk17.way
        exact m_vret hx hb hr hlocks hM hS (Nat.le_of_ble_eq_true rfl) (Nat.le_of_ble_eq_true rfl) ⟨_, _, rfl, hI, hK, (GAPK.fin (i := (I 100 5 * 24 + a0).toNatClampNeg) gk20 (by rw [hwI18]; simp [u2_v]) (by rw [hwI18]; simp [u2_v]) (by rw [hwI18, u2_self]; exact hwb))⟩ dX6_search_155
      · have hc13 := c13
        have q13 := q_nle hc13
        refine lv_iconst (v := (0)) hx hb dX6_search_48 (by decide) ?_
        refine lv_istore (lv' := [(7, .int (0)), (6, .int (x6_39)), (5, .int (r11)), (4, .int (I (100) 3)), (3, .int (I (100) 2)), (0, .ref (ad (50))), (1, .ref (ad (100))), (2, .int (a0))]) hx hb dX6_search_49 hl (by decide) rfl (fun ls hl => ?_)
        have loop51 : ∀ (n : Nat) (x7_51 : Int32) (Ia51 : MI) (La51 : ML) (H : Heap) (locs : List Loc) (ls : Array Slot), INV Ia51 → Kp [(11, 15), (105, 106)] [(10, 2), (10, 3), (10, 4), (10, 5), (10, 6), (10, 7), (10, 11), (10, 12), (50, 0), (50, 1), (50, 2), (100, 2), (100, 3)] I Ia51 → (0 ≤ x7_51.toInt ∧ x7_51.toInt ≤ 24) → (Ia51 100 5 = I 100 5) → (GAPK (I 100 5 * 24 + a0).toNatClampNeg I Ia51) → (24 - x7_51.toInt).toNat < n → Mem D A ad ns Ia51 La51 G H → va_S A s.heap H locs → lv_has ls 9 [(7, .int (x7_51)), (6, .int (x6_39)), (5, .int (r11)), (4, .int (I (100) 3)), (3, .int (I (100) 2)), (0, .ref (ad (50))), (1, .ref (ad (100))), (2, .int (a0))] → W p l e ({ frames := 5, cells := 0, slots := 0, locals := 130 } : Room) s m args below meth c H locs 0 0 (MQ below (va_Qv (fun u => ∃ I2 L2, u = (ad, ns, I2, L2, G) ∧ INV I2 ∧ Kp [(11, 15), (105, 106)] [(10, 2), (10, 3), (10, 4), (10, 5), (10, 6), (10, 7), (10, 11), (10, 12), (50, 0), (50, 1), (50, 2), (100, 2), (100, 3)] I I2 ∧ (KV 100 I I2)) (BM D A) A) args s 0 0 A) (F0 m 51 ls []) := by
          intro n
          induction n with
          | zero =>
            intro x7_51 Ia51 La51 H locs ls hI hK hr7_51 hg515 hg51 hmu
            exact absurd hmu (Nat.not_lt_zero _)
          | succ n ih51 =>
            intro x7_51 Ia51 La51 H locs ls hI hK hr7_51 hg515 hg51 hmu51 hM hS hl
            refine lv_iload hx hb dX6_search_51 (lv_at hl 0 rfl) ?_
            refine lv_aload_n hx hb dX6_search_53 rfl (lv_at hl 6 rfl) ?_
            refine m_geti (100) 0 hx hb hts hown hE oc8 hM (hG.1 100 (by decide)) rfl (by decide) rfl tb_35 dX6_search_54 ?_
            have g21 := hI.get (100) 0 (lo := 0) (hi := 24) rfl
            refine lv_icmp_ge (tgt := 131) hx hb dX6_search_57 (by decide) (fun c22 => ?_) (fun c22 => ?_)
            · have hc22 := c22
              have q22 := q_le hc22
              obtain ⟨v23, ev23⟩ : ∃ z : Int32, z = x6_39 + Int32.ofInt (1) := ⟨_, rfl⟩
              have tv23 := a_inc ev23 (by decide) (by omega) (by omega)
              refine lv_iinc (v := v23) (lv' := [(6, .int (v23)), (7, .int (x7_51)), (5, .int (r11)), (4, .int (I (100) 3)), (3, .int (I (100) 2)), (0, .ref (ad (50))), (1, .ref (ad (100))), (2, .int (a0))]) hx hb dX6_search_131 hl (k := 1) rfl ev23.symm (by decide) rfl (fun ls hl => ?_)
              refine lv_goto (tgt := 39) hx hb dX6_search_134 (by decide) ?_
              exact ih39 (v23) Ia51 La51 _ _ ls hI hK (by first | omega | decide) hg515 hg51 (by omega) hM hS (lv_sub hl [0, 2, 3, 4, 5, 6, 7] rfl)
            · have hc22 := c22
              have q22 := q_nle hc22
              refine lv_iload hx hb dX6_search_60 (lv_at hl 0 rfl) ?_
              refine lv_iload_n hx hb dX6_search_62 rfl (lv_at hl 4 rfl) ?_
              refine lv_icmp_ne (tgt := 77) hx hb dX6_search_63 (by decide) (fun c24 => ?_) (fun c24 => ?_)
              · have hc24 := c24
                have q24 := q_ne hc24
                refine lv_iconst (v := (0)) hx hb dX6_search_77 (by decide) ?_
                refine lv_istore (lv' := [(8, .int (0)), (7, .int (x7_51)), (6, .int (x6_39)), (5, .int (r11)), (4, .int (I (100) 3)), (3, .int (I (100) 2)), (0, .ref (ad (50))), (1, .ref (ad (100))), (2, .int (a0))]) hx hb dX6_search_78 hl (by decide) rfl (fun ls hl => ?_)
                refine lv_iload hx hb dX6_search_80 (lv_at hl 0 rfl) ?_
                refine lv_if_ne (tgt := 125) hx hb dX6_search_82 (by decide) (fun c25 => ?_) (fun c25 => ?_)
                · exact absurd c25 (by decide)
                · have hc25 := c25
                  have q25 := q_eq hc25
                  refine lv_aload_n hx hb dX6_search_85 rfl (lv_at hl 7 rfl) ?_
                  refine lv_iload hx hb dX6_search_86 (lv_at hl 1 rfl) ?_
                  refine lv_iload hx hb dX6_search_88 (lv_at hl 2 rfl) ?_
                  refine m_calli (m_runS (As := [.ref (ad (100)), .int (x7_51), .int (x6_39)]) (rest := []) hx hb hml hown hts hE hM hS hA ce_X6_isEdge tb_1068 (V_X6_isEdge l D A ad ns Ia51 La51 G (x7_51) (x6_39) hG hI) rfl rfl ⟨Nat.le_of_ble_eq_true rfl, Nat.le_of_ble_eq_true rfl⟩  rfl hl.1 rfl (Nat.le_of_ble_eq_true rfl) dX6_search_90 ⟨Nat.le_of_ble_eq_true rfl, Nat.le_of_ble_eq_true rfl⟩) hS (fun r26 u H locs hw hM hS => ?_)
                  obtain ⟨rfl, xr26⟩ := hw
                  have hM : Mem D A ad ns Ia51 La51 G H := hM
                  refine lv_if_eq (tgt := 125) hx hb dX6_search_93 (by decide) (fun c27 => ?_) (fun c27 => ?_)
                  · have hc27 := c27
                    have q27 := q_eq hc27
                    obtain ⟨v28, ev28⟩ : ∃ z : Int32, z = x7_51 + Int32.ofInt (1) := ⟨_, rfl⟩
                    have tv28 := a_inc ev28 (by decide) (by omega) (by omega)
                    refine lv_iinc (v := v28) (lv' := [(7, .int (v28)), (8, .int (0)), (6, .int (x6_39)), (5, .int (r11)), (4, .int (I (100) 3)), (3, .int (I (100) 2)), (0, .ref (ad (50))), (1, .ref (ad (100))), (2, .int (a0))]) hx hb dX6_search_125 hl (k := 1) rfl ev28.symm (by decide) rfl (fun ls hl => ?_)
                    refine lv_goto (tgt := 51) hx hb dX6_search_128 (by decide) ?_
                    exact ih51 (v28) Ia51 La51 _ _ ls hI hK (by first | omega | decide) hg515 hg51 (by omega) hM hS (lv_sub hl [0, 2, 3, 4, 5, 6, 7, 8] rfl)
                  · have hc27 := c27
                    have q27 := q_ne hc27
                    refine lv_aload_n hx hb dX6_search_96 rfl (lv_at hl 7 rfl) ?_
                    refine lv_iload hx hb dX6_search_97 (lv_at hl 1 rfl) ?_
                    refine lv_iload hx hb dX6_search_99 (lv_at hl 2 rfl) ?_
                    refine m_calli (m_runV (100) (As := [.int (x7_51), .int (x6_39)]) (rest := []) hx hb hml hown hts hE hM hS hA ce_X8_isOpen tb_1071 (V_X8_isOpen_100 l D A ad ns Ia51 La51 G (x7_51) (x6_39) hG hI) rfl rfl ⟨Nat.le_of_ble_eq_true rfl, Nat.le_of_ble_eq_true rfl⟩ (hG.1 100 (by decide)) rfl rfl (by decide) rfl hl.1 rfl (Nat.le_of_ble_eq_true rfl) dX6_search_101 ⟨Nat.le_of_ble_eq_true rfl, Nat.le_of_ble_eq_true rfl⟩) hS (fun r29 u H locs hw hM hS => ?_)
                    obtain ⟨rfl, xr29⟩ := hw
                    have hM : Mem D A ad ns Ia51 La51 G H := hM
                    have g30 := hI.get 100 0 (lo := 0) (hi := 24) rfl
                    have g31 := hI.get 100 1 (lo := 0) (hi := 24) rfl
                    refine lv_if_eq (tgt := 125) hx hb dX6_search_104 (by decide) (fun c32 => ?_) (fun c32 => ?_)
                    · have hc32 := c32
                      have q32 := q_eq hc32
                      obtain ⟨v33, ev33⟩ : ∃ z : Int32, z = x7_51 + Int32.ofInt (1) := ⟨_, rfl⟩
                      have tv33 := a_inc ev33 (by decide) (by omega) (by omega)
                      refine lv_iinc (v := v33) (lv' := [(7, .int (v33)), (8, .int (0)), (6, .int (x6_39)), (5, .int (r11)), (4, .int (I (100) 3)), (3, .int (I (100) 2)), (0, .ref (ad (50))), (1, .ref (ad (100))), (2, .int (a0))]) hx hb dX6_search_125 hl (k := 1) rfl ev33.symm (by decide) rfl (fun ls hl => ?_)
                      refine lv_goto (tgt := 51) hx hb dX6_search_128 (by decide) ?_
                      exact ih51 (v33) Ia51 La51 _ _ ls hI hK (by first | omega | decide) hg515 hg51 (by omega) hM hS (lv_sub hl [0, 2, 3, 4, 5, 6, 7, 8] rfl)
                    · have hc32 := c32
                      have q32 := q_ne hc32
                      refine lv_aload_n hx hb dX6_search_107 rfl (lv_at hl 7 rfl) ?_
                      refine lv_iload hx hb dX6_search_108 (lv_at hl 1 rfl) ?_
                      refine m_puti (100) 2 hx hb hts hown hE oc8 hM hS (hG.1 100 (by decide)) rfl (by decide) rfl rfl rfl rfl tb_42 dX6_search_110 (fun H locs I34 eI34 hM hS => ?_)
                      subst eI34
                      have hI := hI.put (n := 100) (k := 2) (v := x7_51) (lo := 0) (hi := 23) rfl (by first | omega | decide)
                      have hK := hK.put (n := 100) (k := 2) (v := x7_51) (by first | rfl | simp [inR])
                      have gk35 : GAPK (I 100 5 * 24 + a0).toNatClampNeg I (u2 Ia51 (100) 2 (x7_51)) := hg51.gap (k := 2) (by decide)
                      refine lv_aload_n hx hb dX6_search_113 rfl (lv_at hl 7 rfl) ?_
                      refine lv_iload hx hb dX6_search_114 (lv_at hl 2 rfl) ?_
                      refine m_puti (100) 3 hx hb hts hown hE oc8 hM hS (hG.1 100 (by decide)) rfl (by decide) rfl rfl rfl rfl tb_46 dX6_search_116 (fun H locs I36 eI36 hM hS => ?_)
                      subst eI36
                      have hI := hI.put (n := 100) (k := 3) (v := x6_39) (lo := 0) (hi := 23) rfl (by first | omega | decide)
                      have hK := hK.put (n := 100) (k := 3) (v := x6_39) (by first | rfl | simp [inR])
                      have gk37 : GAPK (I 100 5 * 24 + a0).toNatClampNeg I (u2 (u2 Ia51 (100) 2 (x7_51)) (100) 3 (x6_39)) := gk35.gap (k := 3) (by decide)
                      refine lv_aload_n hx hb dX6_search_119 rfl (lv_at hl 6 rfl) ?_
                      refine lv_aload_n hx hb dX6_search_120 rfl (lv_at hl 7 rfl) ?_
                      refine lv_iload_n hx hb dX6_search_121 rfl (lv_at hl 8 rfl) ?_
                      refine m_callv (m_runV (50) (As := [.ref (ad (100)), .int (a0)]) (rest := []) hx hb hml hown hts hE hM hS hA ce_X6_tryWays tb_1072 (V_X6_tryWays_t l D A ad ns (u2 (u2 Ia51 (100) 2 (x7_51)) (100) 3 (x6_39)) La51 G (a0) hG hI (by first | omega | decide)) rfl rfl ⟨Nat.le_of_ble_eq_true rfl, Nat.le_of_ble_eq_true rfl⟩ (hG.1 50 (by decide)) rfl rfl (by decide) rfl hl.1 rfl (Nat.le_of_ble_eq_true rfl) dX6_search_122 ⟨Nat.le_of_ble_eq_true rfl, Nat.le_of_ble_eq_true rfl⟩) hS (fun u H locs hw hM hS => ?_)
                      obtain ⟨I38, L39, rfl, hI, hkI38, xI38⟩ := hw
                      have hM : Mem D A ad ns I38 L39 G H := hM
                      have hK := hK.trans hkI38 rfl
                      have gk40 : GAPK (I 100 5 * 24 + a0).toNatClampNeg I I38 := gk37.tr (by have hh := xI38; rw [show (u2 (u2 Ia51 (100) 2 (x7_51)) (100) 3 (x6_39)) 100 5 = I 100 5 from ((show (u2 (u2 Ia51 (100) 2 (x7_51)) (100) 3 (x6_39)) (100) 5 = Ia51 (100) 5 from by simp [u2_v])).trans hg515] at hh; exact hh)
                      obtain ⟨v41, ev41⟩ : ∃ z : Int32, z = x7_51 + Int32.ofInt (1) := ⟨_, rfl⟩
                      have tv41 := a_inc ev41 (by decide) (by omega) (by omega)
                      refine lv_iinc (v := v41) (lv' := [(7, .int (v41)), (8, .int (0)), (6, .int (x6_39)), (5, .int (r11)), (4, .int (I (100) 3)), (3, .int (I (100) 2)), (0, .ref (ad (50))), (1, .ref (ad (100))), (2, .int (a0))]) hx hb dX6_search_125 hl (k := 1) rfl ev41.symm (by decide) rfl (fun ls hl => ?_)
                      refine lv_goto (tgt := 51) hx hb dX6_search_128 (by decide) ?_
                      exact ih51 (v41) I38 L39 _ _ ls hI hK (by first | omega | decide) ((((hkI38.get (100) 5 rfl)).trans (show (u2 (u2 Ia51 (100) 2 (x7_51)) (100) 3 (x6_39)) (100) 5 = Ia51 (100) 5 from by simp [u2_v])).trans hg515) gk40 (by omega) hM hS (lv_sub hl [0, 2, 3, 4, 5, 6, 7, 8] rfl)
              · have hc24 := c24
                have q24 := q_eq hc24
                refine lv_iload hx hb dX6_search_66 (lv_at hl 1 rfl) ?_
                refine lv_iload hx hb dX6_search_68 (lv_at hl 3 rfl) ?_
                refine lv_icmp_ne (tgt := 77) hx hb dX6_search_70 (by decide) (fun c42 => ?_) (fun c42 => ?_)
                · have hc42 := c42
                  have q42 := q_ne hc42
                  refine lv_iconst (v := (0)) hx hb dX6_search_77 (by decide) ?_
                  refine lv_istore (lv' := [(8, .int (0)), (7, .int (x7_51)), (6, .int (x6_39)), (5, .int (r11)), (4, .int (I (100) 3)), (3, .int (I (100) 2)), (0, .ref (ad (50))), (1, .ref (ad (100))), (2, .int (a0))]) hx hb dX6_search_78 hl (by decide) rfl (fun ls hl => ?_)
                  refine lv_iload hx hb dX6_search_80 (lv_at hl 0 rfl) ?_
                  refine lv_if_ne (tgt := 125) hx hb dX6_search_82 (by decide) (fun c43 => ?_) (fun c43 => ?_)
                  · exact absurd c43 (by decide)
                  · have hc43 := c43
                    have q43 := q_eq hc43
                    refine lv_aload_n hx hb dX6_search_85 rfl (lv_at hl 7 rfl) ?_
                    refine lv_iload hx hb dX6_search_86 (lv_at hl 1 rfl) ?_
                    refine lv_iload hx hb dX6_search_88 (lv_at hl 2 rfl) ?_
                    refine m_calli (m_runS (As := [.ref (ad (100)), .int (x7_51), .int (x6_39)]) (rest := []) hx hb hml hown hts hE hM hS hA ce_X6_isEdge tb_1068 (V_X6_isEdge l D A ad ns Ia51 La51 G (x7_51) (x6_39) hG hI) rfl rfl ⟨Nat.le_of_ble_eq_true rfl, Nat.le_of_ble_eq_true rfl⟩  rfl hl.1 rfl (Nat.le_of_ble_eq_true rfl) dX6_search_90 ⟨Nat.le_of_ble_eq_true rfl, Nat.le_of_ble_eq_true rfl⟩) hS (fun r44 u H locs hw hM hS => ?_)
                    obtain ⟨rfl, xr44⟩ := hw
                    have hM : Mem D A ad ns Ia51 La51 G H := hM
                    refine lv_if_eq (tgt := 125) hx hb dX6_search_93 (by decide) (fun c45 => ?_) (fun c45 => ?_)
                    · have hc45 := c45
                      have q45 := q_eq hc45
                      obtain ⟨v46, ev46⟩ : ∃ z : Int32, z = x7_51 + Int32.ofInt (1) := ⟨_, rfl⟩
                      have tv46 := a_inc ev46 (by decide) (by omega) (by omega)
                      refine lv_iinc (v := v46) (lv' := [(7, .int (v46)), (8, .int (0)), (6, .int (x6_39)), (5, .int (r11)), (4, .int (I (100) 3)), (3, .int (I (100) 2)), (0, .ref (ad (50))), (1, .ref (ad (100))), (2, .int (a0))]) hx hb dX6_search_125 hl (k := 1) rfl ev46.symm (by decide) rfl (fun ls hl => ?_)
                      refine lv_goto (tgt := 51) hx hb dX6_search_128 (by decide) ?_
                      exact ih51 (v46) Ia51 La51 _ _ ls hI hK (by first | omega | decide) hg515 hg51 (by omega) hM hS (lv_sub hl [0, 2, 3, 4, 5, 6, 7, 8] rfl)
                    · have hc45 := c45
                      have q45 := q_ne hc45
                      refine lv_aload_n hx hb dX6_search_96 rfl (lv_at hl 7 rfl) ?_
                      refine lv_iload hx hb dX6_search_97 (lv_at hl 1 rfl) ?_
                      refine lv_iload hx hb dX6_search_99 (lv_at hl 2 rfl) ?_
                      refine m_calli (m_runV (100) (As := [.int (x7_51), .int (x6_39)]) (rest := []) hx hb hml hown hts hE hM hS hA ce_X8_isOpen tb_1071 (V_X8_isOpen_100 l D A ad ns Ia51 La51 G (x7_51) (x6_39) hG hI) rfl rfl ⟨Nat.le_of_ble_eq_true rfl, Nat.le_of_ble_eq_true rfl⟩ (hG.1 100 (by decide)) rfl rfl (by decide) rfl hl.1 rfl (Nat.le_of_ble_eq_true rfl) dX6_search_101 ⟨Nat.le_of_ble_eq_true rfl, Nat.le_of_ble_eq_true rfl⟩) hS (fun r47 u H locs hw hM hS => ?_)
                      obtain ⟨rfl, xr47⟩ := hw
                      have hM : Mem D A ad ns Ia51 La51 G H := hM
                      have g48 := hI.get 100 0 (lo := 0) (hi := 24) rfl
                      have g49 := hI.get 100 1 (lo := 0) (hi := 24) rfl
                      refine lv_if_eq (tgt := 125) hx hb dX6_search_104 (by decide) (fun c50 => ?_) (fun c50 => ?_)
                      · have hc50 := c50
                        have q50 := q_eq hc50
                        obtain ⟨v51, ev51⟩ : ∃ z : Int32, z = x7_51 + Int32.ofInt (1) := ⟨_, rfl⟩
                        have tv51 := a_inc ev51 (by decide) (by omega) (by omega)
                        refine lv_iinc (v := v51) (lv' := [(7, .int (v51)), (8, .int (0)), (6, .int (x6_39)), (5, .int (r11)), (4, .int (I (100) 3)), (3, .int (I (100) 2)), (0, .ref (ad (50))), (1, .ref (ad (100))), (2, .int (a0))]) hx hb dX6_search_125 hl (k := 1) rfl ev51.symm (by decide) rfl (fun ls hl => ?_)
                        refine lv_goto (tgt := 51) hx hb dX6_search_128 (by decide) ?_
                        exact ih51 (v51) Ia51 La51 _ _ ls hI hK (by first | omega | decide) hg515 hg51 (by omega) hM hS (lv_sub hl [0, 2, 3, 4, 5, 6, 7, 8] rfl)
                      · have hc50 := c50
                        have q50 := q_ne hc50
                        refine lv_aload_n hx hb dX6_search_107 rfl (lv_at hl 7 rfl) ?_
                        refine lv_iload hx hb dX6_search_108 (lv_at hl 1 rfl) ?_
                        refine m_puti (100) 2 hx hb hts hown hE oc8 hM hS (hG.1 100 (by decide)) rfl (by decide) rfl rfl rfl rfl tb_42 dX6_search_110 (fun H locs I52 eI52 hM hS => ?_)
                        subst eI52
                        have hI := hI.put (n := 100) (k := 2) (v := x7_51) (lo := 0) (hi := 23) rfl (by first | omega | decide)
                        have hK := hK.put (n := 100) (k := 2) (v := x7_51) (by first | rfl | simp [inR])
                        have gk53 : GAPK (I 100 5 * 24 + a0).toNatClampNeg I (u2 Ia51 (100) 2 (x7_51)) := hg51.gap (k := 2) (by decide)
                        refine lv_aload_n hx hb dX6_search_113 rfl (lv_at hl 7 rfl) ?_
                        refine lv_iload hx hb dX6_search_114 (lv_at hl 2 rfl) ?_
                        refine m_puti (100) 3 hx hb hts hown hE oc8 hM hS (hG.1 100 (by decide)) rfl (by decide) rfl rfl rfl rfl tb_46 dX6_search_116 (fun H locs I54 eI54 hM hS => ?_)
                        subst eI54
                        have hI := hI.put (n := 100) (k := 3) (v := x6_39) (lo := 0) (hi := 23) rfl (by first | omega | decide)
                        have hK := hK.put (n := 100) (k := 3) (v := x6_39) (by first | rfl | simp [inR])
                        have gk55 : GAPK (I 100 5 * 24 + a0).toNatClampNeg I (u2 (u2 Ia51 (100) 2 (x7_51)) (100) 3 (x6_39)) := gk53.gap (k := 3) (by decide)
                        refine lv_aload_n hx hb dX6_search_119 rfl (lv_at hl 6 rfl) ?_
                        refine lv_aload_n hx hb dX6_search_120 rfl (lv_at hl 7 rfl) ?_
                        refine lv_iload_n hx hb dX6_search_121 rfl (lv_at hl 8 rfl) ?_
                        refine m_callv (m_runV (50) (As := [.ref (ad (100)), .int (a0)]) (rest := []) hx hb hml hown hts hE hM hS hA ce_X6_tryWays tb_1072 (V_X6_tryWays_t l D A ad ns (u2 (u2 Ia51 (100) 2 (x7_51)) (100) 3 (x6_39)) La51 G (a0) hG hI (by first | omega | decide)) rfl rfl ⟨Nat.le_of_ble_eq_true rfl, Nat.le_of_ble_eq_true rfl⟩ (hG.1 50 (by decide)) rfl rfl (by decide) rfl hl.1 rfl (Nat.le_of_ble_eq_true rfl) dX6_search_122 ⟨Nat.le_of_ble_eq_true rfl, Nat.le_of_ble_eq_true rfl⟩) hS (fun u H locs hw hM hS => ?_)
                        obtain ⟨I56, L57, rfl, hI, hkI56, xI56⟩ := hw
                        have hM : Mem D A ad ns I56 L57 G H := hM
                        have hK := hK.trans hkI56 rfl
                        have gk58 : GAPK (I 100 5 * 24 + a0).toNatClampNeg I I56 := gk55.tr (by have hh := xI56; rw [show (u2 (u2 Ia51 (100) 2 (x7_51)) (100) 3 (x6_39)) 100 5 = I 100 5 from ((show (u2 (u2 Ia51 (100) 2 (x7_51)) (100) 3 (x6_39)) (100) 5 = Ia51 (100) 5 from by simp [u2_v])).trans hg515] at hh; exact hh)
                        obtain ⟨v59, ev59⟩ : ∃ z : Int32, z = x7_51 + Int32.ofInt (1) := ⟨_, rfl⟩
                        have tv59 := a_inc ev59 (by decide) (by omega) (by omega)
                        refine lv_iinc (v := v59) (lv' := [(7, .int (v59)), (8, .int (0)), (6, .int (x6_39)), (5, .int (r11)), (4, .int (I (100) 3)), (3, .int (I (100) 2)), (0, .ref (ad (50))), (1, .ref (ad (100))), (2, .int (a0))]) hx hb dX6_search_125 hl (k := 1) rfl ev59.symm (by decide) rfl (fun ls hl => ?_)
                        refine lv_goto (tgt := 51) hx hb dX6_search_128 (by decide) ?_
                        exact ih51 (v59) I56 L57 _ _ ls hI hK (by first | omega | decide) ((((hkI56.get (100) 5 rfl)).trans (show (u2 (u2 Ia51 (100) 2 (x7_51)) (100) 3 (x6_39)) (100) 5 = Ia51 (100) 5 from by simp [u2_v])).trans hg515) gk58 (by omega) hM hS (lv_sub hl [0, 2, 3, 4, 5, 6, 7, 8] rfl)
                · have hc42 := c42
                  have q42 := q_eq hc42
                  refine lv_iconst (v := (1)) hx hb dX6_search_73 (by decide) ?_
                  refine lv_goto (tgt := 78) hx hb dX6_search_74 (by decide) ?_
                  refine lv_istore (lv' := [(8, .int (1)), (7, .int (x7_51)), (6, .int (x6_39)), (5, .int (r11)), (4, .int (I (100) 3)), (3, .int (I (100) 2)), (0, .ref (ad (50))), (1, .ref (ad (100))), (2, .int (a0))]) hx hb dX6_search_78 hl (by decide) rfl (fun ls hl => ?_)
                  refine lv_iload hx hb dX6_search_80 (lv_at hl 0 rfl) ?_
                  refine lv_if_ne (tgt := 125) hx hb dX6_search_82 (by decide) (fun c60 => ?_) (fun c60 => ?_)
                  · have hc60 := c60
                    have q60 := q_ne hc60
                    obtain ⟨v61, ev61⟩ : ∃ z : Int32, z = x7_51 + Int32.ofInt (1) := ⟨_, rfl⟩
                    have tv61 := a_inc ev61 (by decide) (by omega) (by omega)
                    refine lv_iinc (v := v61) (lv' := [(7, .int (v61)), (8, .int (1)), (6, .int (x6_39)), (5, .int (r11)), (4, .int (I (100) 3)), (3, .int (I (100) 2)), (0, .ref (ad (50))), (1, .ref (ad (100))), (2, .int (a0))]) hx hb dX6_search_125 hl (k := 1) rfl ev61.symm (by decide) rfl (fun ls hl => ?_)
                    refine lv_goto (tgt := 51) hx hb dX6_search_128 (by decide) ?_
                    exact ih51 (v61) Ia51 La51 _ _ ls hI hK (by first | omega | decide) hg515 hg51 (by omega) hM hS (lv_sub hl [0, 2, 3, 4, 5, 6, 7, 8] rfl)
                  · exact absurd c60 (by decide)
        exact loop51 (_ + 1) (0) Ia39 La39 _ _ ls hI hK (by first | omega | decide) hg395 hg39 (Nat.lt_succ_self _) hM hS (lv_sub hl [0, 1, 2, 3, 4, 5, 6, 7] rfl)
  exact loop39 (_ + 1) (0) (u2 (u2 (u2 I (50) 0 ((-2 : Int32))) (50) 1 ((-2 : Int32))) (50) 2 ((-2 : Int32))) L _ _ ls hI hK (by first | omega | decide) (((show (u2 (u2 (u2 I (50) 0 ((-2 : Int32))) (50) 1 ((-2 : Int32))) (50) 2 ((-2 : Int32))) (100) 5 = I (100) 5 from by simp [u2_v]))) gk6 (Nat.lt_succ_self _) hM hS (lv_sub hl [0, 1, 2, 3, 4, 5, 6] rfl)
set_option maxHeartbeats 4000000 in
set_option maxRecDepth 20000 in
theorem V_X9_second_t (l : Launch) (D : va_G) (A : Nat → Prop) (ad : Nat → Nat) (ns : List Nat) (I : MI) (L : ML) (G : MG) (a0 : Int32) (a1 : Int32) (hG : SGC ns G) (hI : INV I) : Met l yX9_second (wd yX9_second cX9_second 3 (some .int)) ({ frames := 6, cells := 0, slots := 0, locals := 158 }) (va_Pc [.ref (ad (0)), .int a0, .int a1] (PM D A ad ns I L G)) (va_Qi (fun r u => ∃ I2 L2, u = (ad, ns, I2, L2, G) ∧ INV I2 ∧ Kp [(11, 15), (105, 106)] [(10, 2), (10, 3), (10, 4), (10, 5), (10, 6), (10, 7), (10, 11), (10, 12), (50, 0), (50, 1), (50, 2), (100, 2), (100, 3)] I I2 ∧ (KV 100 I I2)) (BM D A) A) 0 0 A := by
  refine m_ofW (by decide) (Nat.le_of_ble_eq_true rfl) ?_
  intro p e s m below meth c ls args hC hE hM hA hS hl
  obtain ⟨hx, hb, hml, hown, hts, hr, hlocks, hin⟩ := hC
  have km1 : (-1 : Int32).toInt = -1 := by decide
  have k0 : (0 : Int32).toInt = 0 := by decide
  have k1 : (1 : Int32).toInt = 1 := by decide
  have k2 : (2 : Int32).toInt = 2 := by decide
  have hK : Kp [(11, 15), (105, 106)] [(10, 2), (10, 3), (10, 4), (10, 5), (10, 6), (10, 7), (10, 11), (10, 12), (50, 0), (50, 1), (50, 2), (100, 2), (100, 3)] I I := Kp.rf
  have hl : lv_has ls 3 [(0, .ref (ad (0))), (1, .int (a0)), (2, .int (a1))] := hl
  refine lv_aload_n hx hb dX9_second_0 rfl (lv_at hl 0 rfl) ?_
  refine m_getr (0) 0 (100) hx hb hts hown hE oc9 hM (hG.1 0 (by decide)) rfl (by decide) rfl (hG.2 (0, 0, 100) (by decide)) (by decide) tb_398 dX9_second_1 ?_
  refine lv_iload_n hx hb dX9_second_4 rfl (lv_at hl 1 rfl) ?_
  refine m_calli (m_runV (100) (As := [.int (a0)]) (rest := []) hx hb hml hown hts hE hM hS hA ce_X8_isLit tb_906 (V_X8_isLit_100 l D A ad ns I L G (a0) hG hI) rfl rfl ⟨Nat.le_of_ble_eq_true rfl, Nat.le_of_ble_eq_true rfl⟩ (hG.1 100 (by decide)) rfl rfl (by decide) rfl hl.1 rfl (Nat.le_of_ble_eq_true rfl) dX9_second_5 ⟨Nat.le_of_ble_eq_true rfl, Nat.le_of_ble_eq_true rfl⟩) hS (fun r1 u H locs hw hM hS => ?_)
  obtain ⟨rfl, xr1⟩ := hw
  have hM : Mem D A ad ns I L G H := hM
  have yr1 := bo01 xr1
  refine lv_if_eq (tgt := 20) hx hb dX9_second_8 (by decide) (fun c2 => ?_) (fun c2 => ?_)
  · have hc2 := c2
    have q2 := xr1.f hc2
    refine lv_iconst (v := (-1)) hx hb dX9_second_20 (by decide) ?_
    exact m_iret hx hb hr hlocks hM hS (Nat.le_of_ble_eq_true rfl) (Nat.le_of_ble_eq_true rfl) ⟨_, _, rfl, hI, hK, EqV.rf⟩ dX9_second_21
  · have hc2 := c2
    have q2 := xr1.t hc2
    have lh2 := q2.2.1
    refine lv_iload_n hx hb dX9_second_11 rfl (lv_at hl 2 rfl) ?_
    refine lv_iconst (v := (0)) hx hb dX9_second_12 (by decide) ?_
    refine lv_iconst (v := (2)) hx hb dX9_second_13 (by decide) ?_
    refine m_calli (m_runS (As := [.int (a1), .int (0), .int (2)]) (rest := []) hx hb hml hown hts hE hM hS hA ce_X9_isWithin tb_451 (V_X9_isWithin l D A ad ns I L G (a1) (0) (2) hI) rfl rfl ⟨Nat.le_of_ble_eq_true rfl, Nat.le_of_ble_eq_true rfl⟩  rfl hl.1 rfl (Nat.le_of_ble_eq_true rfl) dX9_second_14 ⟨Nat.le_of_ble_eq_true rfl, Nat.le_of_ble_eq_true rfl⟩) hS (fun r3 u H locs hw hM hS => ?_)
    obtain ⟨rfl, xr3⟩ := hw
    have hM : Mem D A ad ns I L G H := hM
    have yr3 := bo01 xr3
    refine lv_if_ne (tgt := 22) hx hb dX9_second_17 (by decide) (fun c4 => ?_) (fun c4 => ?_)
    · have hc4 := c4
      have q4 := xr3.t hc4
      refine lv_aload_n hx hb dX9_second_22 rfl (lv_at hl 0 rfl) ?_
      refine m_getr (0) 7 (50) hx hb hts hown hE oc9 hM (hG.1 0 (by decide)) rfl (by decide) rfl (hG.2 (0, 7, 50) (by decide)) (by decide) tb_405 dX9_second_23 ?_
      refine lv_aload_n hx hb dX9_second_26 rfl (lv_at hl 0 rfl) ?_
      refine m_getr (0) 0 (100) hx hb hts hown hE oc9 hM (hG.1 0 (by decide)) rfl (by decide) rfl (hG.2 (0, 0, 100) (by decide)) (by decide) tb_398 dX9_second_27 ?_
      refine lv_iload_n hx hb dX9_second_30 rfl (lv_at hl 1 rfl) ?_
      refine m_callv (m_runV (50) (As := [.ref (ad (100)), .int (a0)]) (rest := []) hx hb hml hown hts hE hM hS hA ce_X6_search tb_1063 (V_X6_search_t l D A ad ns I L G (a0) hG hI (by first | omega | decide)) rfl rfl ⟨Nat.le_of_ble_eq_true rfl, Nat.le_of_ble_eq_true rfl⟩ (hG.1 50 (by decide)) rfl rfl (by decide) rfl hl.1 rfl (Nat.le_of_ble_eq_true rfl) dX9_second_31 ⟨Nat.le_of_ble_eq_true rfl, Nat.le_of_ble_eq_true rfl⟩) hS (fun u H locs hw hM hS => ?_)
      obtain ⟨I5, L6, rfl, hI, hkI5, xI5⟩ := hw
      have hM : Mem D A ad ns I5 L6 G H := hM
      have hK := hK.trans hkI5 rfl
      refine lv_iload_n hx hb dX9_second_34 rfl (lv_at hl 2 rfl) ?_
      refine lv_if_ne (tgt := 46) hx hb dX9_second_35 (by decide) (fun c7 => ?_) (fun c7 => ?_)
      · have hc7 := c7
        have q7 := q_ne hc7
        refine lv_iload_n hx hb dX9_second_46 rfl (lv_at hl 2 rfl) ?_
        refine lv_iconst (v := (1)) hx hb dX9_second_47 (by decide) ?_
        refine lv_icmp_ne (tgt := 61) hx hb dX9_second_48 (by decide) (fun c8 => ?_) (fun c8 => ?_)
        · have hc8 := c8
          have q8 := q_ne hc8
          refine lv_aload_n hx hb dX9_second_61 rfl (lv_at hl 0 rfl) ?_
          refine m_getr (0) 7 (50) hx hb hts hown hE oc9 hM (hG.1 0 (by decide)) rfl (by decide) rfl (hG.2 (0, 7, 50) (by decide)) (by decide) tb_405 dX9_second_62 ?_
          refine m_geti (50) 2 hx hb hts hown hE oc6 hM (hG.1 50 (by decide)) rfl (by decide) rfl tb_273 dX9_second_65 ?_
          exact m_iret hx hb hr hlocks hM hS (Nat.le_of_ble_eq_true rfl) (Nat.le_of_ble_eq_true rfl) ⟨_, _, rfl, hI, hK, (EqV.rf.tr xI5)⟩ dX9_second_68
        · have hc8 := c8
          have q8 := q_eq hc8
          refine lv_aload_n hx hb dX9_second_51 rfl (lv_at hl 0 rfl) ?_
          refine m_getr (0) 7 (50) hx hb hts hown hE oc9 hM (hG.1 0 (by decide)) rfl (by decide) rfl (hG.2 (0, 7, 50) (by decide)) (by decide) tb_405 dX9_second_52 ?_
          refine m_geti (50) 1 hx hb hts hown hE oc6 hM (hG.1 50 (by decide)) rfl (by decide) rfl tb_271 dX9_second_55 ?_
          refine lv_goto (tgt := 68) hx hb dX9_second_58 (by decide) ?_
          exact m_iret hx hb hr hlocks hM hS (Nat.le_of_ble_eq_true rfl) (Nat.le_of_ble_eq_true rfl) ⟨_, _, rfl, hI, hK, (EqV.rf.tr xI5)⟩ dX9_second_68
      · have hc7 := c7
        have q7 := q_eq hc7
        refine lv_aload_n hx hb dX9_second_38 rfl (lv_at hl 0 rfl) ?_
        refine m_getr (0) 7 (50) hx hb hts hown hE oc9 hM (hG.1 0 (by decide)) rfl (by decide) rfl (hG.2 (0, 7, 50) (by decide)) (by decide) tb_405 dX9_second_39 ?_
        refine m_geti (50) 0 hx hb hts hown hE oc6 hM (hG.1 50 (by decide)) rfl (by decide) rfl tb_269 dX9_second_42 ?_
        exact m_iret hx hb hr hlocks hM hS (Nat.le_of_ble_eq_true rfl) (Nat.le_of_ble_eq_true rfl) ⟨_, _, rfl, hI, hK, (EqV.rf.tr xI5)⟩ dX9_second_45
    · have hc4 := c4
      have q4 := xr3.f hc4
      refine lv_iconst (v := (-1)) hx hb dX9_second_20 (by decide) ?_
      exact m_iret hx hb hr hlocks hM hS (Nat.le_of_ble_eq_true rfl) (Nat.le_of_ble_eq_true rfl) ⟨_, _, rfl, hI, hK, EqV.rf⟩ dX9_second_21
