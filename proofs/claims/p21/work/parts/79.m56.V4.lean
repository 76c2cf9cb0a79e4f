set_option maxHeartbeats 4000000 in
set_option maxRecDepth 20000 in
theorem V_X10_met_y (l : Launch) (D : va_G) (A : Nat → Prop) (ad : Nat → Nat) (ns : List Nat) (I : MI) (L : ML) (G : MG) (hJ : SGM ns G) (hI : INV I) : Met l yX10_met (wd yX10_met cX10_met 3 (some .int)) ({ frames := 0, cells := 0, slots := 0, locals := 0 }) (va_Pc [.ref (ad (1000))] (PM D A ad ns I L G)) (va_Qi (fun r u => u = (ad, ns, I, L, G) ∧ (r = metV (live I))) (BM D A) A) 0 0 A := by
  refine m_ofW (by decide) (Nat.le_of_ble_eq_true rfl) ?_
  intro p e s m below meth c ls args hC hE hM hA hS hl
  obtain ⟨hx, hb, hml, hown, hts, hr, hlocks, hin⟩ := hC
  have k0 : (0 : Int32).toInt = 0 := by decide
  have k1 : (1 : Int32).toInt = 1 := by decide
  have k9 : (9 : Int32).toInt = 9 := by decide
  have hl : lv_has ls 3 [(0, .ref (ad (1000)))] := hl
  refine lv_iconst (v := (0)) hx hb dX10_met_0 (by decide) ?_
  refine lv_istore_n (lv' := [(1, .int (0)), (0, .ref (ad (1000)))]) hx hb dX10_met_1 rfl hl (by decide) rfl (fun ls hl => ?_)
  refine lv_iconst (v := (0)) hx hb dX10_met_2 (by decide) ?_
  refine lv_istore_n (lv' := [(2, .int (0)), (1, .int (0)), (0, .ref (ad (1000)))]) hx hb dX10_met_3 rfl hl (by decide) rfl (fun ls hl => ?_)
  have loop4 : ∀ (n : Nat) (x2_4 : Int32) (x1_4 : Int32) (H : Heap) (locs : List Loc) (ls : Array Slot), (0 ≤ x2_4.toInt ∧ x2_4.toInt ≤ 8) → ((x2_4).toInt ≤ (I 1001 9).toInt) → (x1_4 = metN (live I) (x2_4).toNatClampNeg) → (8 - x2_4.toInt).toNat < n → Mem D A ad ns I L G H → va_S A s.heap H locs → lv_has ls 3 [(2, .int (x2_4)), (1, .int (x1_4)), (0, .ref (ad (1000)))] → W p l e ({ frames := 0, cells := 0, slots := 0, locals := 0 } : Room) s m args below meth c H locs 0 0 (MQ below (va_Qi (fun r u => u = (ad, ns, I, L, G) ∧ (r = metV (live I))) (BM D A) A) args s 0 0 A) (F0 m 4 ls []) := by
    intro n
    induction n with
    | zero =>
      intro x2_4 x1_4 H locs ls hr2_4 hle4 hs4 hmu
      exact absurd hmu (Nat.not_lt_zero _)
    | succ n ih4 =>
      intro x2_4 x1_4 H locs ls hr2_4 hle4 hs4 hmu4 hM hS hl
      refine lv_iload_n hx hb dX10_met_4 rfl (lv_at hl 0 rfl) ?_
      refine lv_aload_n hx hb dX10_met_5 rfl (lv_at hl 2 rfl) ?_
      refine m_getr (1000) 1 (1001) hx hb hts hown hE oc10 hM hJ.1 rfl (by decide) rfl (hJ.2 1 (by decide)).2 (by decide) tb_1178 dX10_met_6 ?_
      refine lv_bipush (v := (9)) hx hb dX10_met_9 (by decide) ?_
      refine m_iald (1001) hx hb hE hM (hJ.2 1 (by decide)).1 rfl (vp_in_iff.mpr (by decide)) dX10_met_11 ?_
      rw [show (9 : Int32).toNatClampNeg = 9 from rfl]
      have g1 := hI.get (1001) 9 (lo := 0) (hi := 8) rfl
      refine lv_icmp_ge (tgt := 44) hx hb dX10_met_12 (by decide) (fun c2 => ?_) (fun c2 => ?_)
      · have hc2 := c2
        have q2 := q_le hc2
        refine lv_iload_n hx hb dX10_met_44 rfl (lv_at hl 1 rfl) ?_
        exact m_iret hx hb hr hlocks hM hS (Nat.le_of_ble_eq_true rfl) (Nat.le_of_ble_eq_true rfl) ⟨rfl, (by rw [hs4]; unfold metV; rw [show (x2_4).toNatClampNeg = (live I 1 9).toNatClampNeg from congrArg Int32.toNatClampNeg (Int32.toInt_inj.mp (show (x2_4).toInt = (I 1001 9).toInt by omega))])⟩ dX10_met_45
      · have hc2 := c2
        have q2 := q_nle hc2
        refine lv_iload_n hx hb dX10_met_15 rfl (lv_at hl 1 rfl) ?_
        refine lv_aload_n hx hb dX10_met_16 rfl (lv_at hl 2 rfl) ?_
        refine m_getr (1000) 23 (1023) hx hb hts hown hE oc10 hM hJ.1 rfl (by decide) rfl (hJ.2 23 (by decide)).2 (by decide) tb_1200 dX10_met_17 ?_
        refine lv_iload_n hx hb dX10_met_20 rfl (lv_at hl 0 rfl) ?_
        refine m_iald (1023) hx hb hE hM (hJ.2 23 (by decide)).1 rfl (vp_in_iff.mpr (by omega)) dX10_met_21 ?_
        refine lv_aload_n hx hb dX10_met_22 rfl (lv_at hl 2 rfl) ?_
        refine m_getr (1000) 22 (1022) hx hb hts hown hE oc10 hM hJ.1 rfl (by decide) rfl (hJ.2 22 (by decide)).2 (by decide) tb_1199 dX10_met_23 ?_
        refine lv_iload_n hx hb dX10_met_26 rfl (lv_at hl 0 rfl) ?_
        refine m_iald (1022) hx hb hE hM (hJ.2 22 (by decide)).1 rfl (vp_in_iff.mpr (by omega)) dX10_met_27 ?_
        refine lv_icmp_lt (tgt := 35) hx hb dX10_met_28 (by decide) (fun c3 => ?_) (fun c3 => ?_)
        · have hc3 := c3
          have q3 := q_lt hc3
          refine lv_iconst (v := (0)) hx hb dX10_met_35 (by decide) ?_
          refine lv_iadd hx hb dX10_met_36 ?_
          refine lv_topi (fun v4 ev4 => ?_)
          refine lv_istore_n (lv' := [(1, .int (v4)), (2, .int (x2_4)), (0, .ref (ad (1000)))]) hx hb dX10_met_37 rfl hl (by decide) rfl (fun ls hl => ?_)
          obtain ⟨v5, ev5⟩ : ∃ z : Int32, z = x2_4 + Int32.ofInt (1) := ⟨_, rfl⟩
          have tv5 := a_inc ev5 (by decide) (by omega) (by omega)
          refine lv_iinc (v := v5) (lv' := [(2, .int (v5)), (1, .int (v4)), (0, .ref (ad (1000)))]) hx hb dX10_met_38 hl (k := 1) rfl ev5.symm (by decide) rfl (fun ls hl => ?_)
          refine lv_goto (tgt := 4) hx hb dX10_met_41 (by decide) ?_
          exact ih4 (v5) (v4) _ _ ls (by first | omega | decide) (by have := hI.get 1001 9 (lo := 0) (hi := 8) rfl; omega) (by rw [show (v5).toNatClampNeg = (x2_4).toNatClampNeg + 1 from by have z := tn (i := x2_4) (by omega); have z2 := tn (i := v5) (by omega); omega]; exact ((ev4.trans (i_adz _)).trans hs4).trans (metN_n (V := live I) (show ¬ (I 1022 (x2_4).toNatClampNeg).toInt ≤ (I 1023 (x2_4).toNatClampNeg).toInt from by omega)).symm) (by omega) hM hS (lv_sub hl [0, 1, 2] rfl)
        · have hc3 := c3
          have q3 := q_nlt hc3
          refine lv_iconst (v := (1)) hx hb dX10_met_31 (by decide) ?_
          refine lv_goto (tgt := 36) hx hb dX10_met_32 (by decide) ?_
          refine lv_iadd hx hb dX10_met_36 ?_
          refine lv_topi (fun v6 ev6 => ?_)
          refine lv_istore_n (lv' := [(1, .int (v6)), (2, .int (x2_4)), (0, .ref (ad (1000)))]) hx hb dX10_met_37 rfl hl (by decide) rfl (fun ls hl => ?_)
          obtain ⟨v7, ev7⟩ : ∃ z : Int32, z = x2_4 + Int32.ofInt (1) := ⟨_, rfl⟩
          have tv7 := a_inc ev7 (by decide) (by omega) (by omega)
          refine lv_iinc (v := v7) (lv' := [(2, .int (v7)), (1, .int (v6)), (0, .ref (ad (1000)))]) hx hb dX10_met_38 hl (k := 1) rfl ev7.symm (by decide) rfl (fun ls hl => ?_)
          refine lv_goto (tgt := 4) hx hb dX10_met_41 (by decide) ?_
          exact ih4 (v7) (v6) _ _ ls (by first | omega | decide) (by have := hI.get 1001 9 (lo := 0) (hi := 8) rfl; omega) (by rw [show (v7).toNatClampNeg = (x2_4).toNatClampNeg + 1 from by have z := tn (i := x2_4) (by omega); have z2 := tn (i := v7) (by omega); omega]; exact (ev6.trans (congrArg (fun z => z + 1) hs4)).trans (metN_y (V := live I) (show (I 1022 (x2_4).toNatClampNeg).toInt ≤ (I 1023 (x2_4).toNatClampNeg).toInt from by omega)).symm) (by omega) hM hS (lv_sub hl [0, 1, 2] rfl)
  exact loop4 (_ + 1) (0) (0) _ _ ls (by first | omega | decide) (by have := hI.get 1001 9 (lo := 0) (hi := 8) rfl; omega) rfl (Nat.lt_succ_self _) hM hS (lv_sub hl [0, 1, 2] rfl)
set_option maxHeartbeats 4000000 in
set_option maxRecDepth 20000 in
theorem V_X10_days_y (l : Launch) (D : va_G) (A : Nat → Prop) (ad : Nat → Nat) (ns : List Nat) (I : MI) (L : ML) (G : MG) (lw : LWt) (a0 : Int32) (a1 : Int32) (hJ : SGM ns G) (hI : INV I) (hLx : (0 ≤ a0.toInt ∧ a0.toInt < (I 1000 28).toInt) → LRL lw I (a0).toNatClampNeg ∧ LWF lw) (hRK : RKw (live I)) (hOK : OKW (live I)) (hsk : (I 1000 59).toInt = 0) (hdy : 0 ≤ (I 1001 6).toInt ∧ (I 1001 6).toInt ≤ 9999) : Met l yX10_days (wd yX10_days cX10_days 4 (some .int)) ({ frames := 6, cells := 0, slots := 0, locals := 151 }) (va_Pc [.ref (ad (1000)), .int a0, .int a1] (PM D A ad ns I L G)) (va_Qi (fun r u => ∃ I2 L2, u = (ad, ns, I2, L2, G) ∧ INV I2 ∧ Kp [(1009, 1010), (1014, 1015), (1023, 1024), (1045, 1051), (1064, 1065)] [(1000, 51), (1000, 52), (1000, 53), (1000, 54), (1000, 55), (1000, 56), (1000, 59), (1000, 65), (1001, 6)] I I2 ∧ (DYW ((0 ≤ a0.toInt ∧ a0.toInt < (I 1000 28).toInt) ∧ (I 1001 0).toInt = 1 ∧ (1 ≤ a1.toInt ∧ a1.toInt ≤ 30) ∧ (I 1001 6).toInt + a1.toInt ≤ 9999) r I I2 (dayN lw (live I) (a1).toNatClampNeg) (live I2) ∧ (I2 1000 59).toInt = 0)) (BM D A) A) 0 0 A := by
  refine m_ofW (by decide) (Nat.le_of_ble_eq_true rfl) ?_
  intro p e s m below meth c ls args hC hE hM hA hS hl
  obtain ⟨hx, hb, hml, hown, hts, hr, hlocks, hin⟩ := hC
  have km1 : (-1 : Int32).toInt = -1 := by decide
  have k0 : (0 : Int32).toInt = 0 := by decide
  have k6 : (6 : Int32).toInt = 6 := by decide
  have k9999 : (9999 : Int32).toInt = 9999 := by decide
  have kl1 : (1 : Int64).toInt = 1 := by decide
  have kl30 : (30 : Int64).toInt = 30 := by decide
  have hK : Kp [(1009, 1010), (1014, 1015), (1023, 1024), (1045, 1051), (1064, 1065)] [(1000, 51), (1000, 52), (1000, 53), (1000, 54), (1000, 55), (1000, 56), (1000, 59), (1000, 65), (1001, 6)] I I := Kp.rf
  have hl : lv_has ls 4 [(0, .ref (ad (1000))), (1, .int (a0)), (2, .int (a1))] := hl
  refine lv_aload_n hx hb dX10_days_0 rfl (lv_at hl 0 rfl) ?_
  refine lv_iload_n hx hb dX10_days_1 rfl (lv_at hl 1 rfl) ?_
  refine m_calli (m_runV (1000) (As := [.int (a0)]) (rest := []) hx hb hml hown hts hE hM hS hA ce_X10_isLaw tb_1608 (V_X10_isLaw l D A ad ns I L G (a0) hJ hI) rfl rfl ⟨Nat.le_of_ble_eq_true rfl, Nat.le_of_ble_eq_true rfl⟩ hJ.1 rfl rfl (by decide) rfl hl.1 rfl (Nat.le_of_ble_eq_true rfl) dX10_days_2 ⟨Nat.le_of_ble_eq_true rfl, Nat.le_of_ble_eq_true rfl⟩) hS (fun r1 u H locs hw hM hS => ?_)
  obtain ⟨rfl, xr1⟩ := hw
  have hM : Mem D A ad ns I L G H := hM
  have yr1 := bo01 xr1
  have g2 := hI.get 1000 28 (lo := 0) (hi := 6) rfl
  refine lv_if_eq (tgt := 35) hx hb dX10_days_5 (by decide) (fun c3 => ?_) (fun c3 => ?_)
  · have hc3 := c3
    have q3 := xr1.f hc3
    refine lv_iconst (v := (-1)) hx hb dX10_days_35 (by decide) ?_
    exact m_iret hx hb hr hlocks hM hS (Nat.le_of_ble_eq_true rfl) (Nat.le_of_ble_eq_true rfl) ⟨_, _, rfl, hI, hK, ⟨Or.inr ⟨by omega, rfl, rfl⟩, hsk⟩⟩ dX10_days_36
  · have hc3 := c3
    have q3 := xr1.t hc3
    obtain ⟨hLR, hLF⟩ := hLx (by omega)
    have ht1 : (live I 1 0).toInt = 1 := by show (I 1001 0).toInt = 1; omega
    refine lv_iload_n hx hb dX10_days_8 rfl (lv_at hl 2 rfl) ?_
    refine lv_i2l hx hb dX10_days_9 rfl ?_
    refine lv_topl (fun v4 ev4 => ?_)
    have tv4 := q_i2l ev4
    refine lv_lconst (v := 1) hx hb dX10_days_10 (by decide) ?_
    refine lv_ldc2 (v := (30)) hx hb hown (hts _ tb_1612) dX10_days_11 ?_
    refine m_calli (m_runS (As := [.long (v4), .long (1), .long ((30 : Int64))]) (rest := []) hx hb hml hown hts hE hM hS hA ce_X10_in tb_1425 (V_X10_in l D A ad ns I L G (v4) (1) ((30 : Int64)) hI) rfl rfl ⟨Nat.le_of_ble_eq_true rfl, Nat.le_of_ble_eq_true rfl⟩  rfl hl.1 rfl (Nat.le_of_ble_eq_true rfl) dX10_days_14 ⟨Nat.le_of_ble_eq_true rfl, Nat.le_of_ble_eq_true rfl⟩) hS (fun r5 u H locs hw hM hS => ?_)
    obtain ⟨rfl, xr5⟩ := hw
    have hM : Mem D A ad ns I L G H := hM
    have yr5 := bo01 xr5
    refine lv_if_eq (tgt := 35) hx hb dX10_days_17 (by decide) (fun c6 => ?_) (fun c6 => ?_)
    · have hc6 := c6
      have q6 := xr5.f hc6
      refine lv_iconst (v := (-1)) hx hb dX10_days_35 (by decide) ?_
      exact m_iret hx hb hr hlocks hM hS (Nat.le_of_ble_eq_true rfl) (Nat.le_of_ble_eq_true rfl) ⟨_, _, rfl, hI, hK, ⟨Or.inr ⟨by omega, rfl, rfl⟩, hsk⟩⟩ dX10_days_36
    · have hc6 := c6
      have q6 := xr5.t hc6
      refine lv_aload_n hx hb dX10_days_20 rfl (lv_at hl 0 rfl) ?_
      refine m_getr (1000) 1 (1001) hx hb hts hown hE oc10 hM hJ.1 rfl (by decide) rfl (hJ.2 1 (by decide)).2 (by decide) tb_1178 dX10_days_21 ?_
      refine lv_bipush (v := (6)) hx hb dX10_days_24 (by decide) ?_
      refine m_iald (1001) hx hb hE hM (hJ.2 1 (by decide)).1 rfl (vp_in_iff.mpr (by decide)) dX10_days_26 ?_
      rw [show (6 : Int32).toNatClampNeg = 6 from rfl]
      refine lv_iload_n hx hb dX10_days_27 rfl (lv_at hl 2 rfl) ?_
      refine lv_iadd hx hb dX10_days_28 ?_
      refine lv_topi (fun v7 ev7 => ?_)
      have tv7 := a_add ev7 (by omega) (by omega)
      refine lv_sipush (v := (9999)) hx hb dX10_days_29 (by decide) ?_
      refine lv_icmp_le (tgt := 37) hx hb dX10_days_32 (by decide) (fun c8 => ?_) (fun c8 => ?_)
      · have hc8 := c8
        have q8 := q_le hc8
        refine lv_iconst (v := (0)) hx hb dX10_days_37 (by decide) ?_
        refine lv_istore_n (lv' := [(3, .int (0)), (0, .ref (ad (1000))), (1, .int (a0)), (2, .int (a1))]) hx hb dX10_days_38 rfl hl (by decide) rfl (fun ls hl => ?_)
        have loop39 : ∀ (n : Nat) (x3_39 : Int32) (Ia39 : MI) (La39 : ML) (H : Heap) (locs : List Loc) (ls : Array Slot), INV Ia39 → Kp [(1009, 1010), (1014, 1015), (1023, 1024), (1045, 1051), (1064, 1065)] [(1000, 51), (1000, 52), (1000, 53), (1000, 54), (1000, 55), (1000, 56), (1000, 59), (1000, 65), (1001, 6)] I Ia39 → (0 ≤ x3_39.toInt ∧ x3_39.toInt ≤ 30) → ((x3_39).toInt ≤ a1.toInt) → (EqV (dayN lw (live I) (x3_39).toNatClampNeg) (live Ia39)) → ((Ia39 1000 59).toInt = 0) → (30 - x3_39.toInt).toNat < n → Mem D A ad ns Ia39 La39 G H → va_S A s.heap H locs → lv_has ls 4 [(3, .int (x3_39)), (0, .ref (ad (1000))), (1, .int (a0)), (2, .int (a1))] → W p l e ({ frames := 6, cells := 0, slots := 0, locals := 151 } : Room) s m args below meth c H locs 0 0 (MQ below (va_Qi (fun r u => ∃ I2 L2, u = (ad, ns, I2, L2, G) ∧ INV I2 ∧ Kp [(1009, 1010), (1014, 1015), (1023, 1024), (1045, 1051), (1064, 1065)] [(1000, 51), (1000, 52), (1000, 53), (1000, 54), (1000, 55), (1000, 56), (1000, 59), (1000, 65), (1001, 6)] I I2 ∧ (DYW ((0 ≤ a0.toInt ∧ a0.toInt < (I 1000 28).toInt) ∧ (I 1001 0).toInt = 1 ∧ (1 ≤ a1.toInt ∧ a1.toInt ≤ 30) ∧ (I 1001 6).toInt + a1.toInt ≤ 9999) r I I2 (dayN lw (live I) (a1).toNatClampNeg) (live I2) ∧ (I2 1000 59).toInt = 0)) (BM D A) A) args s 0 0 A) (F0 m 39 ls []) := by
          intro n
          induction n with
          | zero =>
            intro x3_39 Ia39 La39 H locs ls hI hK hr3_39 hle39 hv39 hs39 hmu
            exact absurd hmu (Nat.not_lt_zero _)
          | succ n ih39 =>
            intro x3_39 Ia39 La39 H locs ls hI hK hr3_39 hle39 hv39 hs39 hmu39 hM hS hl
            refine lv_iload_n hx hb dX10_days_39 rfl (lv_at hl 0 rfl) ?_
            refine lv_iload_n hx hb dX10_days_40 rfl (lv_at hl 3 rfl) ?_
            refine lv_icmp_ge (tgt := 55) hx hb dX10_days_41 (by decide) (fun c9 => ?_) (fun c9 => ?_)
            · have hc9 := c9
              have q9 := q_le hc9
              refine lv_aload_n hx hb dX10_days_55 rfl (lv_at hl 1 rfl) ?_
              refine m_calli (m_runV (1000) (As := []) (rest := []) hx hb hml hown hts hE hM hS hA ce_X10_met tb_1674 (V_X10_met_y l D A ad ns Ia39 La39 G hJ hI) rfl rfl ⟨Nat.le_of_ble_eq_true rfl, Nat.le_of_ble_eq_true rfl⟩ hJ.1 rfl rfl (by decide) rfl hl.1 rfl (Nat.le_of_ble_eq_true rfl) dX10_days_56 ⟨Nat.le_of_ble_eq_true rfl, Nat.le_of_ble_eq_true rfl⟩) hS (fun r10 u H locs hw hM hS => ?_)
              obtain ⟨rfl, xr10⟩ := hw
              have hM : Mem D A ad ns Ia39 La39 G H := hM
              have hna : (x3_39).toNatClampNeg = (a1).toNatClampNeg := congrArg Int32.toNatClampNeg (Int32.toInt_inj.mp (by omega))
              have hv40 := hv39
              rw [hna] at hv40
              exact m_iret hx hb hr hlocks hM hS (Nat.le_of_ble_eq_true rfl) (Nat.le_of_ble_eq_true rfl) ⟨_, _, rfl, hI, hK, ⟨Or.inl ⟨by omega, by rw [xr10]; exact metV_eq hv40 (dayN_ok hOK _).n9, hv40⟩, hs39⟩⟩ dX10_days_59
            · have hc9 := c9
              have q9 := q_nle hc9
              refine lv_aload_n hx hb dX10_days_44 rfl (lv_at hl 1 rfl) ?_
              refine lv_iload_n hx hb dX10_days_45 rfl (lv_at hl 2 rfl) ?_
              refine m_callv (m_runV (1000) (As := [.int (a0)]) (rest := []) hx hb hml hown hts hE hM hS hA ce_X10_goesDay tb_1613 (V_X10_goesDay_y l D A ad ns Ia39 La39 G lw (a0) hJ hI (hLR.kp hK rfl) hLF ((dayN_ok hOK (x3_39).toNatClampNeg).eq hv39) ((dayN_rk hRK (x3_39).toNatClampNeg).eq hv39) (by have h1 : live Ia39 1 0 = live I 1 0 := (hv39 1 0 (by decide) (by decide) (by decide)).trans (dayN_st (L := lw) (V := live I) (by decide) (by decide) (by decide) (by omega) _); rw [show Ia39 1001 0 = live I 1 0 from h1]; exact ht1) hs39 (by first | omega | decide)) rfl rfl ⟨Nat.le_of_ble_eq_true rfl, Nat.le_of_ble_eq_true rfl⟩ hJ.1 rfl rfl (by decide) rfl hl.1 rfl (Nat.le_of_ble_eq_true rfl) dX10_days_46 ⟨Nat.le_of_ble_eq_true rfl, Nat.le_of_ble_eq_true rfl⟩) hS (fun u H locs hw hM hS => ?_)
              obtain ⟨I11, L12, rfl, hI, hkI11, xI11⟩ := hw
              have hM : Mem D A ad ns I11 L12 G H := hM
              have hK := hK.trans hkI11 rfl
              have hvN : EqV (dayN lw (live I) ((x3_39).toNatClampNeg + 1)) (live I11) := (dayS_eq (dayN_ok hOK _) hv39).tr xI11.1
              obtain ⟨v13, ev13⟩ : ∃ z : Int32, z = x3_39 + Int32.ofInt (1) := ⟨_, rfl⟩
              have tv13 := a_inc ev13 (by decide) (by omega) (by omega)
              refine lv_iinc (v := v13) (lv' := [(3, .int (v13)), (0, .ref (ad (1000))), (1, .int (a0)), (2, .int (a1))]) hx hb dX10_days_49 hl (k := 0) rfl ev13.symm (by decide) rfl (fun ls hl => ?_)
              refine lv_goto (tgt := 39) hx hb dX10_days_52 (by decide) ?_
              exact ih39 (v13) I11 L12 _ _ ls hI hK (by first | omega | decide) (by omega) (by rw [show (v13).toNatClampNeg = (x3_39).toNatClampNeg + 1 from (by have z1 := tn (i := v13) (by omega); have z2 := tn (i := x3_39) (by omega); omega)]; exact hvN) xI11.2.1 (by omega) hM hS (lv_sub hl [0, 1, 2, 3] rfl)
        exact loop39 (_ + 1) (0) I L _ _ ls hI hK (by first | omega | decide) (by omega) EqV.rf hsk (Nat.lt_succ_self _) hM hS (lv_sub hl [0, 1, 2, 3] rfl)
      · have hc8 := c8
        have q8 := q_nle hc8
        refine lv_iconst (v := (-1)) hx hb dX10_days_35 (by decide) ?_
        exact m_iret hx hb hr hlocks hM hS (Nat.le_of_ble_eq_true rfl) (Nat.le_of_ble_eq_true rfl) ⟨_, _, rfl, hI, hK, ⟨Or.inr ⟨by omega, rfl, rfl⟩, hsk⟩⟩ dX10_days_36
set_option maxHeartbeats 4000000 in
set_option maxRecDepth 20000 in
theorem V_X10_ahead_y (l : Launch) (D : va_G) (A : Nat → Prop) (ad : Nat → Nat) (ns : List Nat) (I : MI) (L : ML) (G : MG) (lw : LWt) (a0 : Int32) (a1 : Int32) (a2 : Int32) (hJ : SGM ns G) (hI : INV I) (hLx : (0 ≤ a0.toInt ∧ a0.toInt < (I 1000 28).toInt) → LRL lw I (a0).toNatClampNeg ∧ LWF lw) (hRK : RKw (live I)) (hOK : OKW (live I)) (hsk : (I 1000 59).toInt = 0) : Met l yX10_ahead (wd yX10_ahead cX10_ahead 5 (some .int)) ({ frames := 6, cells := 0, slots := 0, locals := 151 }) (va_Pc [.ref (ad (1000)), .int a0, .int a1, .int a2] (PM D A ad ns I L G)) (va_Qi (fun r u => ∃ I2 L2, u = (ad, ns, I2, L2, G) ∧ INV I2 ∧ Kp [(1009, 1010), (1014, 1015), (1023, 1024), (1045, 1051), (1064, 1065), (1067, 1068), (1069, 1071)] [(1000, 51), (1000, 52), (1000, 53), (1000, 54), (1000, 55), (1000, 56), (1000, 59), (1000, 65), (1000, 74), (1000, 75), (1001, 5), (1001, 6)] I I2 ∧ (ANW ((0 ≤ a0.toInt ∧ a0.toInt < (I 1000 28).toInt) ∧ (I 1001 0).toInt = 1 ∧ (1 ≤ a1.toInt ∧ a1.toInt ≤ 10) ∧ -2 ≤ a2.toInt ∧ a2.toInt < (I 1001 9).toInt) r (ahV lw (live I) (a1).toNatClampNeg a2) (-3) ∧ (I2 1000 59).toInt = 0 ∧ EqV (live I) (live I2))) (BM D A) A) 0 0 A := by
  refine m_ofW (by decide) (Nat.le_of_ble_eq_true rfl) ?_
  intro p e s m below meth c ls args hC hE hM hA hS hl
  obtain ⟨hx, hb, hml, hown, hts, hr, hlocks, hin⟩ := hC
  have km3 : (-3 : Int32).toInt = -3 := by decide
  have km2 : (-2 : Int32).toInt = -2 := by decide
  have km1 : (-1 : Int32).toInt = -1 := by decide
  have k0 : (0 : Int32).toInt = 0 := by decide
  have k1 : (1 : Int32).toInt = 1 := by decide
  have k9 : (9 : Int32).toInt = 9 := by decide
  have klm2 : (-2 : Int64).toInt = -2 := by decide
  have kl1 : (1 : Int64).toInt = 1 := by decide
  have kl10 : (10 : Int64).toInt = 10 := by decide
  have hK : Kp [(1009, 1010), (1014, 1015), (1023, 1024), (1045, 1051), (1064, 1065), (1067, 1068), (1069, 1071)] [(1000, 51), (1000, 52), (1000, 53), (1000, 54), (1000, 55), (1000, 56), (1000, 59), (1000, 65), (1000, 74), (1000, 75), (1001, 5), (1001, 6)] I I := Kp.rf
  have hl : lv_has ls 5 [(0, .ref (ad (1000))), (1, .int (a0)), (2, .int (a1)), (3, .int (a2))] := hl
  refine lv_aload_n hx hb dX10_ahead_0 rfl (lv_at hl 0 rfl) ?_
  refine lv_iload_n hx hb dX10_ahead_1 rfl (lv_at hl 1 rfl) ?_
  refine m_calli (m_runV (1000) (As := [.int (a0)]) (rest := []) hx hb hml hown hts hE hM hS hA ce_X10_isLaw tb_1608 (V_X10_isLaw l D A ad ns I L G (a0) hJ hI) rfl rfl ⟨Nat.le_of_ble_eq_true rfl, Nat.le_of_ble_eq_true rfl⟩ hJ.1 rfl rfl (by decide) rfl hl.1 rfl (Nat.le_of_ble_eq_true rfl) dX10_ahead_2 ⟨Nat.le_of_ble_eq_true rfl, Nat.le_of_ble_eq_true rfl⟩) hS (fun r1 u H locs hw hM hS => ?_)
  obtain ⟨rfl, xr1⟩ := hw
  have hM : Mem D A ad ns I L G H := hM
  have yr1 := bo01 xr1
  have g2 := hI.get 1000 28 (lo := 0) (hi := 6) rfl
  refine lv_if_eq (tgt := 41) hx hb dX10_ahead_5 (by decide) (fun c3 => ?_) (fun c3 => ?_)
  · have hc3 := c3
    have q3 := xr1.f hc3
    refine lv_bipush (v := (-3)) hx hb dX10_ahead_41 (by decide) ?_
    exact m_iret hx hb hr hlocks hM hS (Nat.le_of_ble_eq_true rfl) (Nat.le_of_ble_eq_true rfl) ⟨_, _, rfl, hI, hK, ⟨Or.inr ⟨by omega, rfl⟩, hsk, EqV.rf⟩⟩ dX10_ahead_43
  · have hc3 := c3
    have q3 := xr1.t hc3
    obtain ⟨hLR, hLF⟩ := hLx (by omega)
    have ht1 : (live I 1 0).toInt = 1 := by show (I 1001 0).toInt = 1; omega
    refine lv_iload_n hx hb dX10_ahead_8 rfl (lv_at hl 2 rfl) ?_
    refine lv_i2l hx hb dX10_ahead_9 rfl ?_
    refine lv_topl (fun v4 ev4 => ?_)
    have tv4 := q_i2l ev4
    refine lv_lconst (v := 1) hx hb dX10_ahead_10 (by decide) ?_
    refine lv_ldc2 (v := (10)) hx hb hown (hts _ tb_1818) dX10_ahead_11 ?_
    refine m_calli (m_runS (As := [.long (v4), .long (1), .long ((10 : Int64))]) (rest := []) hx hb hml hown hts hE hM hS hA ce_X10_in tb_1425 (V_X10_in l D A ad ns I L G (v4) (1) ((10 : Int64)) hI) rfl rfl ⟨Nat.le_of_ble_eq_true rfl, Nat.le_of_ble_eq_true rfl⟩  rfl hl.1 rfl (Nat.le_of_ble_eq_true rfl) dX10_ahead_14 ⟨Nat.le_of_ble_eq_true rfl, Nat.le_of_ble_eq_true rfl⟩) hS (fun r5 u H locs hw hM hS => ?_)
    obtain ⟨rfl, xr5⟩ := hw
    have hM : Mem D A ad ns I L G H := hM
    have yr5 := bo01 xr5
    refine lv_if_eq (tgt := 41) hx hb dX10_ahead_17 (by decide) (fun c6 => ?_) (fun c6 => ?_)
    · have hc6 := c6
      have q6 := xr5.f hc6
      refine lv_bipush (v := (-3)) hx hb dX10_ahead_41 (by decide) ?_
      exact m_iret hx hb hr hlocks hM hS (Nat.le_of_ble_eq_true rfl) (Nat.le_of_ble_eq_true rfl) ⟨_, _, rfl, hI, hK, ⟨Or.inr ⟨by omega, rfl⟩, hsk, EqV.rf⟩⟩ dX10_ahead_43
    · have hc6 := c6
      have q6 := xr5.t hc6
      refine lv_iload_n hx hb dX10_ahead_20 rfl (lv_at hl 3 rfl) ?_
      refine lv_i2l hx hb dX10_ahead_21 rfl ?_
      refine lv_topl (fun v7 ev7 => ?_)
      have tv7 := q_i2l ev7
      refine lv_ldc2 (v := (-2)) hx hb hown (hts _ tb_1819) dX10_ahead_22 ?_
      refine lv_aload_n hx hb dX10_ahead_25 rfl (lv_at hl 0 rfl) ?_
      refine m_getr (1000) 1 (1001) hx hb hts hown hE oc10 hM hJ.1 rfl (by decide) rfl (hJ.2 1 (by decide)).2 (by decide) tb_1178 dX10_ahead_26 ?_
      refine lv_bipush (v := (9)) hx hb dX10_ahead_29 (by decide) ?_
      refine m_iald (1001) hx hb hE hM (hJ.2 1 (by decide)).1 rfl (vp_in_iff.mpr (by decide)) dX10_ahead_31 ?_
      rw [show (9 : Int32).toNatClampNeg = 9 from rfl]
      have g8 := hI.get (1001) 9 (lo := 0) (hi := 8) rfl
      refine lv_iconst (v := (1)) hx hb dX10_ahead_32 (by decide) ?_
      refine lv_isub hx hb dX10_ahead_33 ?_
      refine lv_topi (fun v9 ev9 => ?_)
      have tv9 := a_sub ev9 (by omega) (by omega)
      refine lv_i2l hx hb dX10_ahead_34 rfl ?_
      refine lv_topl (fun v10 ev10 => ?_)
      have tv10 := q_i2l ev10
      refine m_calli (m_runS (As := [.long (v7), .long ((-2 : Int64)), .long (v10)]) (rest := []) hx hb hml hown hts hE hM hS hA ce_X10_in tb_1425 (V_X10_in l D A ad ns I L G (v7) ((-2 : Int64)) (v10) hI) rfl rfl ⟨Nat.le_of_ble_eq_true rfl, Nat.le_of_ble_eq_true rfl⟩  rfl hl.1 rfl (Nat.le_of_ble_eq_true rfl) dX10_ahead_35 ⟨Nat.le_of_ble_eq_true rfl, Nat.le_of_ble_eq_true rfl⟩) hS (fun r11 u H locs hw hM hS => ?_)
      obtain ⟨rfl, xr11⟩ := hw
      have hM : Mem D A ad ns I L G H := hM
      have yr11 := bo01 xr11
      refine lv_if_ne (tgt := 44) hx hb dX10_ahead_38 (by decide) (fun c12 => ?_) (fun c12 => ?_)
      · have hc12 := c12
        have q12 := xr11.t hc12
        refine lv_aload_n hx hb dX10_ahead_44 rfl (lv_at hl 0 rfl) ?_
        refine m_callv (m_runV (1000) (As := []) (rest := []) hx hb hml hown hts hE hM hS hA ce_X10_keeps tb_1806 (V_X10_keeps_t l D A ad ns I L G hJ hI) rfl rfl ⟨Nat.le_of_ble_eq_true rfl, Nat.le_of_ble_eq_true rfl⟩ hJ.1 rfl rfl (by decide) rfl hl.1 rfl (Nat.le_of_ble_eq_true rfl) dX10_ahead_45 ⟨Nat.le_of_ble_eq_true rfl, Nat.le_of_ble_eq_true rfl⟩) hS (fun u H locs hw hM hS => ?_)
        obtain ⟨I13, L14, rfl, hI, hkI13, xI13⟩ := hw
        have hM : Mem D A ad ns I13 L14 G H := hM
        have hK := hK.trans hkI13 rfl
        have hkl := live_fr hkI13 rfl
        refine lv_aload_n hx hb dX10_ahead_48 rfl (lv_at hl 0 rfl) ?_
        refine lv_iconst (v := (0)) hx hb dX10_ahead_49 (by decide) ?_
        refine m_puti (1000) 65 hx hb hts hown hE oc10 hM hS hJ.1 rfl (by decide) rfl rfl rfl rfl tb_1242 dX10_ahead_50 (fun H locs I15 eI15 hM hS => ?_)
        subst eI15
        have hI := hI.putF (n := 1000) (k := 65) (v := 0) rfl
        have hK := hK.put (n := 1000) (k := 65) (v := 0) (by first | rfl | simp [inR])
        have kp16 : KPX I (u2 I13 (1000) 65 (0)) := KPX.of xI13 (by funext zz; simp [u2_v]) (by funext zz; simp [u2_v]) (by funext zz; simp [u2_v]) (by simp [u2_v]) (by simp [u2_v])
        refine lv_iconst (v := (0)) hx hb dX10_ahead_53 (by decide) ?_
        refine lv_istore (lv' := [(4, .int (0)), (0, .ref (ad (1000))), (1, .int (a0)), (2, .int (a1)), (3, .int (a2))]) hx hb dX10_ahead_54 hl (by decide) rfl (fun ls hl => ?_)
        have loop56 : ∀ (n : Nat) (x4_56 : Int32) (Ia56 : MI) (La56 : ML) (H : Heap) (locs : List Loc) (ls : Array Slot), INV Ia56 → Kp [(1009, 1010), (1014, 1015), (1023, 1024), (1045, 1051), (1064, 1065), (1067, 1068), (1069, 1071)] [(1000, 51), (1000, 52), (1000, 53), (1000, 54), (1000, 55), (1000, 56), (1000, 59), (1000, 65), (1000, 74), (1000, 75), (1001, 5), (1001, 6)] I Ia56 → (0 ≤ x4_56.toInt ∧ x4_56.toInt ≤ 10) → ((x4_56).toInt ≤ a1.toInt) → (EqV (dayN lw (live I) (x4_56).toNatClampNeg) (live Ia56)) → ((Ia56 1000 59).toInt = 0) → (Ia56 1000 65 = blD lw (live I) (x4_56).toNatClampNeg) → (KPX I Ia56) → (10 - x4_56.toInt).toNat < n → Mem D A ad ns Ia56 La56 G H → va_S A s.heap H locs → lv_has ls 5 [(4, .int (x4_56)), (0, .ref (ad (1000))), (1, .int (a0)), (2, .int (a1)), (3, .int (a2))] → W p l e ({ frames := 6, cells := 0, slots := 0, locals := 151 } : Room) s m args below meth c H locs 0 0 (MQ below (va_Qi (fun r u => ∃ I2 L2, u = (ad, ns, I2, L2, G) ∧ INV I2 ∧ Kp [(1009, 1010), (1014, 1015), (1023, 1024), (1045, 1051), (1064, 1065), (1067, 1068), (1069, 1071)] [(1000, 51), (1000, 52), (1000, 53), (1000, 54), (1000, 55), (1000, 56), (1000, 59), (1000, 65), (1000, 74), (1000, 75), (1001, 5), (1001, 6)] I I2 ∧ (ANW ((0 ≤ a0.toInt ∧ a0.toInt < (I 1000 28).toInt) ∧ (I 1001 0).toInt = 1 ∧ (1 ≤ a1.toInt ∧ a1.toInt ≤ 10) ∧ -2 ≤ a2.toInt ∧ a2.toInt < (I 1001 9).toInt) r (ahV lw (live I) (a1).toNatClampNeg a2) (-3) ∧ (I2 1000 59).toInt = 0 ∧ EqV (live I) (live I2))) (BM D A) A) args s 0 0 A) (F0 m 56 ls []) := by
          intro n
          induction n with
          | zero =>
            intro x4_56 Ia56 La56 H locs ls hI hK hr4_56 hle56 hv56 hs56 hb56 hkp56 hmu
            exact absurd hmu (Nat.not_lt_zero _)
          | succ n ih56 =>
            intro x4_56 Ia56 La56 H locs ls hI hK hr4_56 hle56 hv56 hs56 hb56 hkp56 hmu56 hM hS hl
            refine lv_iload hx hb dX10_ahead_56 (lv_at hl 0 rfl) ?_
            refine lv_iload_n hx hb dX10_ahead_58 rfl (lv_at hl 3 rfl) ?_
            refine lv_icmp_ge (tgt := 73) hx hb dX10_ahead_59 (by decide) (fun c17 => ?_) (fun c17 => ?_)
            · have hc17 := c17
              have q17 := q_le hc17
              refine lv_iload_n hx hb dX10_ahead_73 rfl (lv_at hl 4 rfl) ?_
              refine lv_bipush (v := (-2)) hx hb dX10_ahead_74 (by decide) ?_
              refine lv_icmp_ne (tgt := 86) hx hb dX10_ahead_76 (by decide) (fun c18 => ?_) (fun c18 => ?_)
              · have hc18 := c18
                have q18 := q_ne hc18
                refine lv_iload_n hx hb dX10_ahead_86 rfl (lv_at hl 4 rfl) ?_
                refine lv_iconst (v := (-1)) hx hb dX10_ahead_87 (by decide) ?_
                refine lv_icmp_ne (tgt := 98) hx hb dX10_ahead_88 (by decide) (fun c19 => ?_) (fun c19 => ?_)
                · have hc19 := c19
                  have q19 := q_ne hc19
                  refine lv_aload_n hx hb dX10_ahead_98 rfl (lv_at hl 1 rfl) ?_
                  refine m_getr (1000) 23 (1023) hx hb hts hown hE oc10 hM hJ.1 rfl (by decide) rfl (hJ.2 23 (by decide)).2 (by decide) tb_1200 dX10_ahead_99 ?_
                  refine lv_iload_n hx hb dX10_ahead_102 rfl (lv_at hl 4 rfl) ?_
                  refine m_iald (1023) hx hb hE hM (hJ.2 23 (by decide)).1 rfl (vp_in_iff.mpr (by omega)) dX10_ahead_103 ?_
                  refine lv_istore (lv' := [(4, .int (Ia56 (1023) (a2).toNatClampNeg)), (0, .ref (ad (1000))), (1, .int (a0)), (2, .int (a1)), (3, .int (a2))]) hx hb dX10_ahead_104 hl (by decide) rfl (fun ls hl => ?_)
                  refine lv_aload_n hx hb dX10_ahead_106 rfl (lv_at hl 1 rfl) ?_
                  refine m_callv (m_runV (1000) (As := []) (rest := []) hx hb hml hown hts hE hM hS hA ce_X10_putsBack tb_1810 (V_X10_putsBack_t l D A ad ns Ia56 La56 G hJ hI) rfl rfl ⟨Nat.le_of_ble_eq_true rfl, Nat.le_of_ble_eq_true rfl⟩ hJ.1 rfl rfl (by decide) rfl hl.1 rfl (Nat.le_of_ble_eq_true rfl) dX10_ahead_107 ⟨Nat.le_of_ble_eq_true rfl, Nat.le_of_ble_eq_true rfl⟩) hS (fun u H locs hw hM hS => ?_)
                  obtain ⟨I20, L21, rfl, hI, hkI20, xI20⟩ := hw
                  have hM : Mem D A ad ns I20 L21 G H := hM
                  have hK := hK.trans hkI20 rfl
                  have hkm : KM I I20 := KPX.back hkp56 xI20 hK rfl (fun k g5 g6 => hK 1001 k rfl (by simp [g5, g6]))
                  refine lv_iload hx hb dX10_ahead_110 (lv_at hl 0 rfl) ?_
                  have hna : (x4_56).toNatClampNeg = (a1).toNatClampNeg := congrArg Int32.toNatClampNeg (Int32.toInt_inj.mp (by omega))
                  have hv57 := hv56
                  have hb57 := hb56
                  rw [hna] at hv57 hb57
                  exact m_iret hx hb hr hlocks hM hS (Nat.le_of_ble_eq_true rfl) (Nat.le_of_ble_eq_true rfl) ⟨_, _, rfl, hI, hK, ⟨Or.inl ⟨by omega, by unfold ahV; rw [if_neg (by omega), if_neg (by omega)]; exact hv57 23 (a2).toNatClampNeg (by decide) (by decide) (by have z := tn (i := a2) (by omega); show _ < 8; omega)⟩, by rw [(hkI20.get (1000) 59 rfl)]; exact hs56, hkm⟩⟩ dX10_ahead_112
                · have hc19 := c19
                  have q19 := q_eq hc19
                  refine lv_aload_n hx hb dX10_ahead_91 rfl (lv_at hl 1 rfl) ?_
                  refine m_geti (1000) 65 hx hb hts hown hE oc10 hM hJ.1 rfl (by decide) rfl tb_1242 dX10_ahead_92 ?_
                  refine lv_goto (tgt := 104) hx hb dX10_ahead_95 (by decide) ?_
                  refine lv_istore (lv' := [(4, .int (Ia56 (1000) 65)), (0, .ref (ad (1000))), (1, .int (a0)), (2, .int (a1)), (3, .int (a2))]) hx hb dX10_ahead_104 hl (by decide) rfl (fun ls hl => ?_)
                  refine lv_aload_n hx hb dX10_ahead_106 rfl (lv_at hl 1 rfl) ?_
                  refine m_callv (m_runV (1000) (As := []) (rest := []) hx hb hml hown hts hE hM hS hA ce_X10_putsBack tb_1810 (V_X10_putsBack_t l D A ad ns Ia56 La56 G hJ hI) rfl rfl ⟨Nat.le_of_ble_eq_true rfl, Nat.le_of_ble_eq_true rfl⟩ hJ.1 rfl rfl (by decide) rfl hl.1 rfl (Nat.le_of_ble_eq_true rfl) dX10_ahead_107 ⟨Nat.le_of_ble_eq_true rfl, Nat.le_of_ble_eq_true rfl⟩) hS (fun u H locs hw hM hS => ?_)
                  obtain ⟨I22, L23, rfl, hI, hkI22, xI22⟩ := hw
                  have hM : Mem D A ad ns I22 L23 G H := hM
                  have hK := hK.trans hkI22 rfl
                  have hkm : KM I I22 := KPX.back hkp56 xI22 hK rfl (fun k g5 g6 => hK 1001 k rfl (by simp [g5, g6]))
                  refine lv_iload hx hb dX10_ahead_110 (lv_at hl 0 rfl) ?_
                  have hna : (x4_56).toNatClampNeg = (a1).toNatClampNeg := congrArg Int32.toNatClampNeg (Int32.toInt_inj.mp (by omega))
                  have hv57 := hv56
                  have hb57 := hb56
                  rw [hna] at hv57 hb57
                  exact m_iret hx hb hr hlocks hM hS (Nat.le_of_ble_eq_true rfl) (Nat.le_of_ble_eq_true rfl) ⟨_, _, rfl, hI, hK, ⟨Or.inl ⟨by omega, by unfold ahV; rw [if_neg (by omega), if_pos (by omega)]; exact hb57⟩, by rw [(hkI22.get (1000) 59 rfl)]; exact hs56, hkm⟩⟩ dX10_ahead_112
              · have hc18 := c18
                have q18 := q_eq hc18
                refine lv_aload_n hx hb dX10_ahead_79 rfl (lv_at hl 1 rfl) ?_
                refine m_calli (m_runV (1000) (As := []) (rest := []) hx hb hml hown hts hE hM hS hA ce_X10_met tb_1674 (V_X10_met_y l D A ad ns Ia56 La56 G hJ hI) rfl rfl ⟨Nat.le_of_ble_eq_true rfl, Nat.le_of_ble_eq_true rfl⟩ hJ.1 rfl rfl (by decide) rfl hl.1 rfl (Nat.le_of_ble_eq_true rfl) dX10_ahead_80 ⟨Nat.le_of_ble_eq_true rfl, Nat.le_of_ble_eq_true rfl⟩) hS (fun r24 u H locs hw hM hS => ?_)
                obtain ⟨rfl, xr24⟩ := hw
                have hM : Mem D A ad ns Ia56 La56 G H := hM
                refine lv_goto (tgt := 104) hx hb dX10_ahead_83 (by decide) ?_
                refine lv_istore (lv' := [(4, .int (r24)), (0, .ref (ad (1000))), (1, .int (a0)), (2, .int (a1)), (3, .int (a2))]) hx hb dX10_ahead_104 hl (by decide) rfl (fun ls hl => ?_)
                refine lv_aload_n hx hb dX10_ahead_106 rfl (lv_at hl 1 rfl) ?_
                refine m_callv (m_runV (1000) (As := []) (rest := []) hx hb hml hown hts hE hM hS hA ce_X10_putsBack tb_1810 (V_X10_putsBack_t l D A ad ns Ia56 La56 G hJ hI) rfl rfl ⟨Nat.le_of_ble_eq_true rfl, Nat.le_of_ble_eq_true rfl⟩ hJ.1 rfl rfl (by decide) rfl hl.1 rfl (Nat.le_of_ble_eq_true rfl) dX10_ahead_107 ⟨Nat.le_of_ble_eq_true rfl, Nat.le_of_ble_eq_true rfl⟩) hS (fun u H locs hw hM hS => ?_)
                obtain ⟨I25, L26, rfl, hI, hkI25, xI25⟩ := hw
                have hM : Mem D A ad ns I25 L26 G H := hM
                have hK := hK.trans hkI25 rfl
                have hkm : KM I I25 := KPX.back hkp56 xI25 hK rfl (fun k g5 g6 => hK 1001 k rfl (by simp [g5, g6]))
                refine lv_iload hx hb dX10_ahead_110 (lv_at hl 0 rfl) ?_
                have hna : (x4_56).toNatClampNeg = (a1).toNatClampNeg := congrArg Int32.toNatClampNeg (Int32.toInt_inj.mp (by omega))
                have hv57 := hv56
                have hb57 := hb56
                rw [hna] at hv57 hb57
                exact m_iret hx hb hr hlocks hM hS (Nat.le_of_ble_eq_true rfl) (Nat.le_of_ble_eq_true rfl) ⟨_, _, rfl, hI, hK, ⟨Or.inl ⟨by omega, by unfold ahV; rw [if_pos (by omega), xr24]; exact metV_eq hv57 (dayN_ok hOK _).n9⟩, by rw [(hkI25.get (1000) 59 rfl)]; exact hs56, hkm⟩⟩ dX10_ahead_112
            · have hc17 := c17
              have q17 := q_nle hc17
              refine lv_aload_n hx hb dX10_ahead_62 rfl (lv_at hl 1 rfl) ?_
              refine lv_iload_n hx hb dX10_ahead_63 rfl (lv_at hl 2 rfl) ?_
              refine m_callv (m_runV (1000) (As := [.int (a0)]) (rest := []) hx hb hml hown hts hE hM hS hA ce_X10_goesDay tb_1613 (V_X10_goesDay_y l D A ad ns Ia56 La56 G lw (a0) hJ hI (hLR.kp hK rfl) hLF ((dayN_ok hOK (x4_56).toNatClampNeg).eq hv56) ((dayN_rk hRK (x4_56).toNatClampNeg).eq hv56) (by have h1 : live Ia56 1 0 = live I 1 0 := (hv56 1 0 (by decide) (by decide) (by decide)).trans (dayN_st (L := lw) (V := live I) (by decide) (by decide) (by decide) (by omega) _); rw [show Ia56 1001 0 = live I 1 0 from h1]; exact ht1) hs56 (by first | omega | decide)) rfl rfl ⟨Nat.le_of_ble_eq_true rfl, Nat.le_of_ble_eq_true rfl⟩ hJ.1 rfl rfl (by decide) rfl hl.1 rfl (Nat.le_of_ble_eq_true rfl) dX10_ahead_64 ⟨Nat.le_of_ble_eq_true rfl, Nat.le_of_ble_eq_true rfl⟩) hS (fun u H locs hw hM hS => ?_)
              obtain ⟨I27, L28, rfl, hI, hkI27, xI27⟩ := hw
              have hM : Mem D A ad ns I27 L28 G H := hM
              have hK := hK.trans hkI27 rfl
              have hvN : EqV (dayN lw (live I) ((x4_56).toNatClampNeg + 1)) (live I27) := (dayS_eq (dayN_ok hOK _) hv56).tr xI27.1
              have kp29 : KPX I I27 := KPX.of hkp56 (hkI27.getA 1067 rfl) (hkI27.getA 1069 rfl) (hkI27.getA 1070 rfl) (hkI27.get 1000 74 rfl) (hkI27.get 1000 75 rfl)
              obtain ⟨v30, ev30⟩ : ∃ z : Int32, z = x4_56 + Int32.ofInt (1) := ⟨_, rfl⟩
              have tv30 := a_inc ev30 (by decide) (by omega) (by omega)
              refine lv_iinc (v := v30) (lv' := [(4, .int (v30)), (0, .ref (ad (1000))), (1, .int (a0)), (2, .int (a1)), (3, .int (a2))]) hx hb dX10_ahead_67 hl (k := 0) rfl ev30.symm (by decide) rfl (fun ls hl => ?_)
              refine lv_goto (tgt := 56) hx hb dX10_ahead_70 (by decide) ?_
              have hnn : (v30).toNatClampNeg = (x4_56).toNatClampNeg + 1 := by have z1 := tn (i := v30) (by omega); have z2 := tn (i := x4_56) (by omega); omega
              exact ih56 (v30) I27 L28 _ _ ls hI hK (by first | omega | decide) (by omega) (by rw [hnn]; exact hvN) xI27.2.1 (by rw [hnn, xI27.2.2, hb56]; show _ = blD lw (live I) _ + blS lw (dayN lw (live I) _) 24; rw [blS_eq (dayN_ok hOK _) hv56 24 (Nat.le_refl _)]) kp29 (by omega) hM hS (lv_sub hl [0, 1, 2, 3, 4] rfl)
        exact loop56 (_ + 1) (0) (u2 I13 (1000) 65 (0)) L14 _ _ ls hI hK (by first | omega | decide) (by omega) (EqV.tr hkl (live_ne (n := 1000) (by decide))) (by rw [((show (u2 I13 (1000) 65 (0)) (1000) 59 = I13 (1000) 59 from by simp [u2_v])).trans (hkI13.get (1000) 59 rfl)]; exact hsk) (by rw [u2_self]; rfl) kp16 (Nat.lt_succ_self _) hM hS (lv_sub hl [0, 1, 2, 3, 4] rfl)
      · have hc12 := c12
        have q12 := xr11.f hc12
        refine lv_bipush (v := (-3)) hx hb dX10_ahead_41 (by decide) ?_
        exact m_iret hx hb hr hlocks hM hS (Nat.le_of_ble_eq_true rfl) (Nat.le_of_ble_eq_true rfl) ⟨_, _, rfl, hI, hK, ⟨Or.inr ⟨by omega, rfl⟩, hsk, EqV.rf⟩⟩ dX10_ahead_43
set_option maxHeartbeats 4000000 in
set_option maxRecDepth 20000 in
theorem V_X10_mirrors_y (l : Launch) (D : va_G) (A : Nat → Prop) (ad : Nat → Nat) (ns : List Nat) (I : MI) (L : ML) (G : MG) (a0 : Int32) (a1 : Int32) (hJ : SGM ns G) (hI : INV I) : Met l yX10_mirrors (wd yX10_mirrors cX10_mirrors 3 (some .int)) ({ frames := 2, cells := 0, slots := 0, locals := 46 }) (va_Pc [.ref (ad (1000)), .int a0, .int a1] (PM D A ad ns I L G)) (va_Qi (fun r u => u = (ad, ns, I, L, G) ∧ (ANW ((I 1001 0).toInt = 1 ∧ 0 ≤ a0.toInt ∧ a0.toInt < (I 1001 8).toInt ∧ 0 ≤ a1.toInt ∧ a1.toInt ≤ 9) r ((live I) (7 + (a1).toNatClampNeg) (a0).toNatClampNeg) (-2))) (BM D A) A) 0 0 A := by
  refine m_ofW (by decide) (Nat.le_of_ble_eq_true rfl) ?_
  intro p e s m below meth c ls args hC hE hM hA hS hl
  obtain ⟨hx, hb, hml, hown, hts, hr, hlocks, hin⟩ := hC
  have km2 : (-2 : Int32).toInt = -2 := by decide
  have k0 : (0 : Int32).toInt = 0 := by decide
  have hl : lv_has ls 3 [(0, .ref (ad (1000))), (1, .int (a0)), (2, .int (a1))] := hl
  refine lv_aload_n hx hb dX10_mirrors_0 rfl (lv_at hl 0 rfl) ?_
  refine lv_iload_n hx hb dX10_mirrors_1 rfl (lv_at hl 1 rfl) ?_
  refine m_calli (m_runV (1000) (As := [.int (a0)]) (rest := []) hx hb hml hown hts hE hM hS hA ce_X10_isMirror tb_1462 (V_X10_isMirror l D A ad ns I L G (a0) hJ hI) rfl rfl ⟨Nat.le_of_ble_eq_true rfl, Nat.le_of_ble_eq_true rfl⟩ hJ.1 rfl rfl (by decide) rfl hl.1 rfl (Nat.le_of_ble_eq_true rfl) dX10_mirrors_2 ⟨Nat.le_of_ble_eq_true rfl, Nat.le_of_ble_eq_true rfl⟩) hS (fun r1 u H locs hw hM hS => ?_)
  obtain ⟨rfl, xr1⟩ := hw
  have hM : Mem D A ad ns I L G H := hM
  have yr1 := bo01 xr1
  have g2 := hI.get 1001 8 (lo := 0) (hi := 24) rfl
  refine lv_if_ne (tgt := 11) hx hb dX10_mirrors_5 (by decide) (fun c3 => ?_) (fun c3 => ?_)
  · have hc3 := c3
    have q3 := xr1.t hc3
    refine lv_iload_n hx hb dX10_mirrors_11 rfl (lv_at hl 2 rfl) ?_
    by_cases c4 : (a1).toInt < 0 ∨ 9 < (a1).toInt
    · refine lv_tableOut (tgt := 138) hx hb dX10_mirrors_12 c4 (by decide) ?_
      refine lv_bipush (v := (-2)) hx hb dX10_mirrors_138 (by decide) ?_
      exact m_iret hx hb hr hlocks hM hS (Nat.le_of_ble_eq_true rfl) (Nat.le_of_ble_eq_true rfl) ⟨rfl, (Or.inr ⟨by omega, rfl⟩)⟩ dX10_mirrors_140
    · have qc4 : (a1).toInt = 0 ∨ (a1).toInt = 1 ∨ (a1).toInt = 2 ∨ (a1).toInt = 3 ∨ (a1).toInt = 4 ∨ (a1).toInt = 5 ∨ (a1).toInt = 6 ∨ (a1).toInt = 7 ∨ (a1).toInt = 8 ∨ (a1).toInt = 9 := by omega
      rcases qc4 with qc4 | qc4 | qc4 | qc4 | qc4 | qc4 | qc4 | qc4 | qc4 | qc4
      · refine lv_tableIn (off := 56) (tgt := 68) hx hb dX10_mirrors_12 (by omega) (by omega) (by rw [qc4]; rfl) (by decide) ?_
        refine lv_aload_n hx hb dX10_mirrors_68 rfl (lv_at hl 0 rfl) ?_
        refine m_getr (1000) 7 (1007) hx hb hts hown hE oc10 hM hJ.1 rfl (by decide) rfl (hJ.2 7 (by decide)).2 (by decide) tb_1184 dX10_mirrors_69 ?_
        refine lv_iload_n hx hb dX10_mirrors_72 rfl (lv_at hl 1 rfl) ?_
        refine m_iald (1007) hx hb hE hM (hJ.2 7 (by decide)).1 rfl (vp_in_iff.mpr (by omega)) dX10_mirrors_73 ?_
        exact m_iret hx hb hr hlocks hM hS (Nat.le_of_ble_eq_true rfl) (Nat.le_of_ble_eq_true rfl) ⟨rfl, (Or.inl ⟨by omega, by rw [show (a1).toNatClampNeg = 0 from tn_n (by omega)]; rfl⟩)⟩ dX10_mirrors_74
      · refine lv_tableIn (off := 63) (tgt := 75) hx hb dX10_mirrors_12 (by omega) (by omega) (by rw [qc4]; rfl) (by decide) ?_
        refine lv_aload_n hx hb dX10_mirrors_75 rfl (lv_at hl 0 rfl) ?_
        refine m_getr (1000) 8 (1008) hx hb hts hown hE oc10 hM hJ.1 rfl (by decide) rfl (hJ.2 8 (by decide)).2 (by decide) tb_1185 dX10_mirrors_76 ?_
        refine lv_iload_n hx hb dX10_mirrors_79 rfl (lv_at hl 1 rfl) ?_
        refine m_iald (1008) hx hb hE hM (hJ.2 8 (by decide)).1 rfl (vp_in_iff.mpr (by omega)) dX10_mirrors_80 ?_
        exact m_iret hx hb hr hlocks hM hS (Nat.le_of_ble_eq_true rfl) (Nat.le_of_ble_eq_true rfl) ⟨rfl, (Or.inl ⟨by omega, by rw [show (a1).toNatClampNeg = 1 from tn_n (by omega)]; rfl⟩)⟩ dX10_mirrors_81
      · refine lv_tableIn (off := 70) (tgt := 82) hx hb dX10_mirrors_12 (by omega) (by omega) (by rw [qc4]; rfl) (by decide) ?_
        refine lv_aload_n hx hb dX10_mirrors_82 rfl (lv_at hl 0 rfl) ?_
        refine m_getr (1000) 9 (1009) hx hb hts hown hE oc10 hM hJ.1 rfl (by decide) rfl (hJ.2 9 (by decide)).2 (by decide) tb_1186 dX10_mirrors_83 ?_
        refine lv_iload_n hx hb dX10_mirrors_86 rfl (lv_at hl 1 rfl) ?_
        refine m_iald (1009) hx hb hE hM (hJ.2 9 (by decide)).1 rfl (vp_in_iff.mpr (by omega)) dX10_mirrors_87 ?_
        exact m_iret hx hb hr hlocks hM hS (Nat.le_of_ble_eq_true rfl) (Nat.le_of_ble_eq_true rfl) ⟨rfl, (Or.inl ⟨by omega, by rw [show (a1).toNatClampNeg = 2 from tn_n (by omega)]; rfl⟩)⟩ dX10_mirrors_88
      · refine lv_tableIn (off := 77) (tgt := 89) hx hb dX10_mirrors_12 (by omega) (by omega) (by rw [qc4]; rfl) (by decide) ?_
        refine lv_aload_n hx hb dX10_mirrors_89 rfl (lv_at hl 0 rfl) ?_
        refine m_getr (1000) 10 (1010) hx hb hts hown hE oc10 hM hJ.1 rfl (by decide) rfl (hJ.2 10 (by decide)).2 (by decide) tb_1187 dX10_mirrors_90 ?_
        refine lv_iload_n hx hb dX10_mirrors_93 rfl (lv_at hl 1 rfl) ?_
        refine m_iald (1010) hx hb hE hM (hJ.2 10 (by decide)).1 rfl (vp_in_iff.mpr (by omega)) dX10_mirrors_94 ?_
        exact m_iret hx hb hr hlocks hM hS (Nat.le_of_ble_eq_true rfl) (Nat.le_of_ble_eq_true rfl) ⟨rfl, (Or.inl ⟨by omega, by rw [show (a1).toNatClampNeg = 3 from tn_n (by omega)]; rfl⟩)⟩ dX10_mirrors_95
      · refine lv_tableIn (off := 84) (tgt := 96) hx hb dX10_mirrors_12 (by omega) (by omega) (by rw [qc4]; rfl) (by decide) ?_
        refine lv_aload_n hx hb dX10_mirrors_96 rfl (lv_at hl 0 rfl) ?_
        refine m_getr (1000) 11 (1011) hx hb hts hown hE oc10 hM hJ.1 rfl (by decide) rfl (hJ.2 11 (by decide)).2 (by decide) tb_1188 dX10_mirrors_97 ?_
        refine lv_iload_n hx hb dX10_mirrors_100 rfl (lv_at hl 1 rfl) ?_
        refine m_iald (1011) hx hb hE hM (hJ.2 11 (by decide)).1 rfl (vp_in_iff.mpr (by omega)) dX10_mirrors_101 ?_
        exact m_iret hx hb hr hlocks hM hS (Nat.le_of_ble_eq_true rfl) (Nat.le_of_ble_eq_true rfl) ⟨rfl, (Or.inl ⟨by omega, by rw [show (a1).toNatClampNeg = 4 from tn_n (by omega)]; rfl⟩)⟩ dX10_mirrors_102
      · refine lv_tableIn (off := 91) (tgt := 103) hx hb dX10_mirrors_12 (by omega) (by omega) (by rw [qc4]; rfl) (by decide) ?_
        refine lv_aload_n hx hb dX10_mirrors_103 rfl (lv_at hl 0 rfl) ?_
        refine m_getr (1000) 12 (1012) hx hb hts hown hE oc10 hM hJ.1 rfl (by decide) rfl (hJ.2 12 (by decide)).2 (by decide) tb_1189 dX10_mirrors_104 ?_
        refine lv_iload_n hx hb dX10_mirrors_107 rfl (lv_at hl 1 rfl) ?_
        refine m_iald (1012) hx hb hE hM (hJ.2 12 (by decide)).1 rfl (vp_in_iff.mpr (by omega)) dX10_mirrors_108 ?_
        exact m_iret hx hb hr hlocks hM hS (Nat.le_of_ble_eq_true rfl) (Nat.le_of_ble_eq_true rfl) ⟨rfl, (Or.inl ⟨by omega, by rw [show (a1).toNatClampNeg = 5 from tn_n (by omega)]; rfl⟩)⟩ dX10_mirrors_109
      · refine lv_tableIn (off := 98) (tgt := 110) hx hb dX10_mirrors_12 (by omega) (by omega) (by rw [qc4]; rfl) (by decide) ?_
        refine lv_aload_n hx hb dX10_mirrors_110 rfl (lv_at hl 0 rfl) ?_
        refine m_getr (1000) 13 (1013) hx hb hts hown hE oc10 hM hJ.1 rfl (by decide) rfl (hJ.2 13 (by decide)).2 (by decide) tb_1190 dX10_mirrors_111 ?_
        refine lv_iload_n hx hb dX10_mirrors_114 rfl (lv_at hl 1 rfl) ?_
        refine m_iald (1013) hx hb hE hM (hJ.2 13 (by decide)).1 rfl (vp_in_iff.mpr (by omega)) dX10_mirrors_115 ?_
        exact m_iret hx hb hr hlocks hM hS (Nat.le_of_ble_eq_true rfl) (Nat.le_of_ble_eq_true rfl) ⟨rfl, (Or.inl ⟨by omega, by rw [show (a1).toNatClampNeg = 6 from tn_n (by omega)]; rfl⟩)⟩ dX10_mirrors_116
      · refine lv_tableIn (off := 105) (tgt := 117) hx hb dX10_mirrors_12 (by omega) (by omega) (by rw [qc4]; rfl) (by decide) ?_
        refine lv_aload_n hx hb dX10_mirrors_117 rfl (lv_at hl 0 rfl) ?_
        refine m_getr (1000) 14 (1014) hx hb hts hown hE oc10 hM hJ.1 rfl (by decide) rfl (hJ.2 14 (by decide)).2 (by decide) tb_1191 dX10_mirrors_118 ?_
        refine lv_iload_n hx hb dX10_mirrors_121 rfl (lv_at hl 1 rfl) ?_
        refine m_iald (1014) hx hb hE hM (hJ.2 14 (by decide)).1 rfl (vp_in_iff.mpr (by omega)) dX10_mirrors_122 ?_
        exact m_iret hx hb hr hlocks hM hS (Nat.le_of_ble_eq_true rfl) (Nat.le_of_ble_eq_true rfl) ⟨rfl, (Or.inl ⟨by omega, by rw [show (a1).toNatClampNeg = 7 from tn_n (by omega)]; rfl⟩)⟩ dX10_mirrors_123
      · refine lv_tableIn (off := 112) (tgt := 124) hx hb dX10_mirrors_12 (by omega) (by omega) (by rw [qc4]; rfl) (by decide) ?_
        refine lv_aload_n hx hb dX10_mirrors_124 rfl (lv_at hl 0 rfl) ?_
        refine m_getr (1000) 15 (1015) hx hb hts hown hE oc10 hM hJ.1 rfl (by decide) rfl (hJ.2 15 (by decide)).2 (by decide) tb_1192 dX10_mirrors_125 ?_
        refine lv_iload_n hx hb dX10_mirrors_128 rfl (lv_at hl 1 rfl) ?_
        refine m_iald (1015) hx hb hE hM (hJ.2 15 (by decide)).1 rfl (vp_in_iff.mpr (by omega)) dX10_mirrors_129 ?_
        exact m_iret hx hb hr hlocks hM hS (Nat.le_of_ble_eq_true rfl) (Nat.le_of_ble_eq_true rfl) ⟨rfl, (Or.inl ⟨by omega, by rw [show (a1).toNatClampNeg = 8 from tn_n (by omega)]; rfl⟩)⟩ dX10_mirrors_130
      · refine lv_tableIn (off := 119) (tgt := 131) hx hb dX10_mirrors_12 (by omega) (by omega) (by rw [qc4]; rfl) (by decide) ?_
        refine lv_aload_n hx hb dX10_mirrors_131 rfl (lv_at hl 0 rfl) ?_
        refine m_getr (1000) 16 (1016) hx hb hts hown hE oc10 hM hJ.1 rfl (by decide) rfl (hJ.2 16 (by decide)).2 (by decide) tb_1193 dX10_mirrors_132 ?_
        refine lv_iload_n hx hb dX10_mirrors_135 rfl (lv_at hl 1 rfl) ?_
        refine m_iald (1016) hx hb hE hM (hJ.2 16 (by decide)).1 rfl (vp_in_iff.mpr (by omega)) dX10_mirrors_136 ?_
        exact m_iret hx hb hr hlocks hM hS (Nat.le_of_ble_eq_true rfl) (Nat.le_of_ble_eq_true rfl) ⟨rfl, (Or.inl ⟨by omega, by rw [show (a1).toNatClampNeg = 9 from tn_n (by omega)]; rfl⟩)⟩ dX10_mirrors_137
  · have hc3 := c3
    have q3 := xr1.f hc3
    refine lv_bipush (v := (-2)) hx hb dX10_mirrors_8 (by decide) ?_
    exact m_iret hx hb hr hlocks hM hS (Nat.le_of_ble_eq_true rfl) (Nat.le_of_ble_eq_true rfl) ⟨rfl, (Or.inr ⟨by omega, rfl⟩)⟩ dX10_mirrors_10
set_option maxHeartbeats 4000000 in
set_option maxRecDepth 20000 in
theorem V_X10_yards_y (l : Launch) (D : va_G) (A : Nat → Prop) (ad : Nat → Nat) (ns : List Nat) (I : MI) (L : ML) (G : MG) (a0 : Int32) (a1 : Int32) (hJ : SGM ns G) (hI : INV I) : Met l yX10_yards (wd yX10_yards cX10_yards 3 (some .int)) ({ frames := 2, cells := 0, slots := 0, locals := 46 }) (va_Pc [.ref (ad (1000)), .int a0, .int a1] (PM D A ad ns I L G)) (va_Qi (fun r u => u = (ad, ns, I, L, G) ∧ (ANW ((I 1001 0).toInt = 1 ∧ 0 ≤ a0.toInt ∧ a0.toInt < (I 1001 9).toInt ∧ 0 ≤ a1.toInt ∧ a1.toInt ≤ 6) r ((live I) (yrow (a1).toNatClampNeg) (a0).toNatClampNeg) (-1))) (BM D A) A) 0 0 A := by
  refine m_ofW (by decide) (Nat.le_of_ble_eq_true rfl) ?_
  intro p e s m below meth c ls args hC hE hM hA hS hl
  obtain ⟨hx, hb, hml, hown, hts, hr, hlocks, hin⟩ := hC
  have km1 : (-1 : Int32).toInt = -1 := by decide
  have k0 : (0 : Int32).toInt = 0 := by decide
  have hl : lv_has ls 3 [(0, .ref (ad (1000))), (1, .int (a0)), (2, .int (a1))] := hl
  refine lv_aload_n hx hb dX10_yards_0 rfl (lv_at hl 0 rfl) ?_
  refine lv_iload_n hx hb dX10_yards_1 rfl (lv_at hl 1 rfl) ?_
  refine m_calli (m_runV (1000) (As := [.int (a0)]) (rest := []) hx hb hml hown hts hE hM hS hA ce_X10_isYard tb_1686 (V_X10_isYard l D A ad ns I L G (a0) hJ hI) rfl rfl ⟨Nat.le_of_ble_eq_true rfl, Nat.le_of_ble_eq_true rfl⟩ hJ.1 rfl rfl (by decide) rfl hl.1 rfl (Nat.le_of_ble_eq_true rfl) dX10_yards_2 ⟨Nat.le_of_ble_eq_true rfl, Nat.le_of_ble_eq_true rfl⟩) hS (fun r1 u H locs hw hM hS => ?_)
  obtain ⟨rfl, xr1⟩ := hw
  have hM : Mem D A ad ns I L G H := hM
  have yr1 := bo01 xr1
  have g2 := hI.get 1001 9 (lo := 0) (hi := 8) rfl
  refine lv_if_ne (tgt := 10) hx hb dX10_yards_5 (by decide) (fun c3 => ?_) (fun c3 => ?_)
  · have hc3 := c3
    have q3 := xr1.t hc3
    refine lv_iload_n hx hb dX10_yards_10 rfl (lv_at hl 2 rfl) ?_
    by_cases c4 : (a1).toInt < 0 ∨ 6 < (a1).toInt
    · refine lv_tableOut (tgt := 101) hx hb dX10_yards_11 c4 (by decide) ?_
      refine lv_iconst (v := (-1)) hx hb dX10_yards_101 (by decide) ?_
      exact m_iret hx hb hr hlocks hM hS (Nat.le_of_ble_eq_true rfl) (Nat.le_of_ble_eq_true rfl) ⟨rfl, (Or.inr ⟨by omega, rfl⟩)⟩ dX10_yards_102
    · have qc4 : (a1).toInt = 0 ∨ (a1).toInt = 1 ∨ (a1).toInt = 2 ∨ (a1).toInt = 3 ∨ (a1).toInt = 4 ∨ (a1).toInt = 5 ∨ (a1).toInt = 6 := by omega
      rcases qc4 with qc4 | qc4 | qc4 | qc4 | qc4 | qc4 | qc4
      · refine lv_tableIn (off := 41) (tgt := 52) hx hb dX10_yards_11 (by omega) (by omega) (by rw [qc4]; rfl) (by decide) ?_
        refine lv_aload_n hx hb dX10_yards_52 rfl (lv_at hl 0 rfl) ?_
        refine m_getr (1000) 23 (1023) hx hb hts hown hE oc10 hM hJ.1 rfl (by decide) rfl (hJ.2 23 (by decide)).2 (by decide) tb_1200 dX10_yards_53 ?_
        refine lv_iload_n hx hb dX10_yards_56 rfl (lv_at hl 1 rfl) ?_
        refine m_iald (1023) hx hb hE hM (hJ.2 23 (by decide)).1 rfl (vp_in_iff.mpr (by omega)) dX10_yards_57 ?_
        exact m_iret hx hb hr hlocks hM hS (Nat.le_of_ble_eq_true rfl) (Nat.le_of_ble_eq_true rfl) ⟨rfl, (Or.inl ⟨by omega, by rw [show (a1).toNatClampNeg = 0 from tn_n (by omega)]; rfl⟩)⟩ dX10_yards_58
      · refine lv_tableIn (off := 48) (tgt := 59) hx hb dX10_yards_11 (by omega) (by omega) (by rw [qc4]; rfl) (by decide) ?_
        refine lv_aload_n hx hb dX10_yards_59 rfl (lv_at hl 0 rfl) ?_
        refine m_getr (1000) 22 (1022) hx hb hts hown hE oc10 hM hJ.1 rfl (by decide) rfl (hJ.2 22 (by decide)).2 (by decide) tb_1199 dX10_yards_60 ?_
        refine lv_iload_n hx hb dX10_yards_63 rfl (lv_at hl 1 rfl) ?_
        refine m_iald (1022) hx hb hE hM (hJ.2 22 (by decide)).1 rfl (vp_in_iff.mpr (by omega)) dX10_yards_64 ?_
        exact m_iret hx hb hr hlocks hM hS (Nat.le_of_ble_eq_true rfl) (Nat.le_of_ble_eq_true rfl) ⟨rfl, (Or.inl ⟨by omega, by rw [show (a1).toNatClampNeg = 1 from tn_n (by omega)]; rfl⟩)⟩ dX10_yards_65
      · refine lv_tableIn (off := 55) (tgt := 66) hx hb dX10_yards_11 (by omega) (by omega) (by rw [qc4]; rfl) (by decide) ?_
        refine lv_aload_n hx hb dX10_yards_66 rfl (lv_at hl 0 rfl) ?_
        refine m_getr (1000) 21 (1021) hx hb hts hown hE oc10 hM hJ.1 rfl (by decide) rfl (hJ.2 21 (by decide)).2 (by decide) tb_1198 dX10_yards_67 ?_
        refine lv_iload_n hx hb dX10_yards_70 rfl (lv_at hl 1 rfl) ?_
        refine m_iald (1021) hx hb hE hM (hJ.2 21 (by decide)).1 rfl (vp_in_iff.mpr (by omega)) dX10_yards_71 ?_
        exact m_iret hx hb hr hlocks hM hS (Nat.le_of_ble_eq_true rfl) (Nat.le_of_ble_eq_true rfl) ⟨rfl, (Or.inl ⟨by omega, by rw [show (a1).toNatClampNeg = 2 from tn_n (by omega)]; rfl⟩)⟩ dX10_yards_72
      · refine lv_tableIn (off := 62) (tgt := 73) hx hb dX10_yards_11 (by omega) (by omega) (by rw [qc4]; rfl) (by decide) ?_
        refine lv_aload_n hx hb dX10_yards_73 rfl (lv_at hl 0 rfl) ?_
        refine m_getr (1000) 17 (1017) hx hb hts hown hE oc10 hM hJ.1 rfl (by decide) rfl (hJ.2 17 (by decide)).2 (by decide) tb_1194 dX10_yards_74 ?_
        refine lv_iload_n hx hb dX10_yards_77 rfl (lv_at hl 1 rfl) ?_
        refine m_iald (1017) hx hb hE hM (hJ.2 17 (by decide)).1 rfl (vp_in_iff.mpr (by omega)) dX10_yards_78 ?_
        exact m_iret hx hb hr hlocks hM hS (Nat.le_of_ble_eq_true rfl) (Nat.le_of_ble_eq_true rfl) ⟨rfl, (Or.inl ⟨by omega, by rw [show (a1).toNatClampNeg = 3 from tn_n (by omega)]; rfl⟩)⟩ dX10_yards_79
      · refine lv_tableIn (off := 69) (tgt := 80) hx hb dX10_yards_11 (by omega) (by omega) (by rw [qc4]; rfl) (by decide) ?_
        refine lv_aload_n hx hb dX10_yards_80 rfl (lv_at hl 0 rfl) ?_
        refine m_getr (1000) 18 (1018) hx hb hts hown hE oc10 hM hJ.1 rfl (by decide) rfl (hJ.2 18 (by decide)).2 (by decide) tb_1195 dX10_yards_81 ?_
        refine lv_iload_n hx hb dX10_yards_84 rfl (lv_at hl 1 rfl) ?_
        refine m_iald (1018) hx hb hE hM (hJ.2 18 (by decide)).1 rfl (vp_in_iff.mpr (by omega)) dX10_yards_85 ?_
        exact m_iret hx hb hr hlocks hM hS (Nat.le_of_ble_eq_true rfl) (Nat.le_of_ble_eq_true rfl) ⟨rfl, (Or.inl ⟨by omega, by rw [show (a1).toNatClampNeg = 4 from tn_n (by omega)]; rfl⟩)⟩ dX10_yards_86
      · refine lv_tableIn (off := 76) (tgt := 87) hx hb dX10_yards_11 (by omega) (by omega) (by rw [qc4]; rfl) (by decide) ?_
        refine lv_aload_n hx hb dX10_yards_87 rfl (lv_at hl 0 rfl) ?_
        refine m_getr (1000) 19 (1019) hx hb hts hown hE oc10 hM hJ.1 rfl (by decide) rfl (hJ.2 19 (by decide)).2 (by decide) tb_1196 dX10_yards_88 ?_
        refine lv_iload_n hx hb dX10_yards_91 rfl (lv_at hl 1 rfl) ?_
        refine m_iald (1019) hx hb hE hM (hJ.2 19 (by decide)).1 rfl (vp_in_iff.mpr (by omega)) dX10_yards_92 ?_
        exact m_iret hx hb hr hlocks hM hS (Nat.le_of_ble_eq_true rfl) (Nat.le_of_ble_eq_true rfl) ⟨rfl, (Or.inl ⟨by omega, by rw [show (a1).toNatClampNeg = 5 from tn_n (by omega)]; rfl⟩)⟩ dX10_yards_93
      · refine lv_tableIn (off := 83) (tgt := 94) hx hb dX10_yards_11 (by omega) (by omega) (by rw [qc4]; rfl) (by decide) ?_
        refine lv_aload_n hx hb dX10_yards_94 rfl (lv_at hl 0 rfl) ?_
        refine m_getr (1000) 20 (1020) hx hb hts hown hE oc10 hM hJ.1 rfl (by decide) rfl (hJ.2 20 (by decide)).2 (by decide) tb_1197 dX10_yards_95 ?_
        refine lv_iload_n hx hb dX10_yards_98 rfl (lv_at hl 1 rfl) ?_
        refine m_iald (1020) hx hb hE hM (hJ.2 20 (by decide)).1 rfl (vp_in_iff.mpr (by omega)) dX10_yards_99 ?_
        exact m_iret hx hb hr hlocks hM hS (Nat.le_of_ble_eq_true rfl) (Nat.le_of_ble_eq_true rfl) ⟨rfl, (Or.inl ⟨by omega, by rw [show (a1).toNatClampNeg = 6 from tn_n (by omega)]; rfl⟩)⟩ dX10_yards_100
  · have hc3 := c3
    have q3 := xr1.f hc3
    refine lv_iconst (v := (-1)) hx hb dX10_yards_8 (by decide) ?_
    exact m_iret hx hb hr hlocks hM hS (Nat.le_of_ble_eq_true rfl) (Nat.le_of_ble_eq_true rfl) ⟨rfl, (Or.inr ⟨by omega, rfl⟩)⟩ dX10_yards_9
set_option maxHeartbeats 4000000 in
set_option maxRecDepth 20000 in
theorem V_X10_count_y (l : Launch) (D : va_G) (A : Nat → Prop) (ad : Nat → Nat) (ns : List Nat) (I : MI) (L : ML) (G : MG) (a0 : Int32) (hJ : SGM ns G) (hI : INV I) : Met l yX10_count (wd yX10_count cX10_count 2 (some .int)) ({ frames := 1, cells := 0, slots := 0, locals := 22 }) (va_Pc [.ref (ad (1000)), .int a0] (PM D A ad ns I L G)) (va_Qi (fun r u => u = (ad, ns, I, L, G) ∧ (CNX ((I 1001 0).toInt = 1) (live I) a0 r (I 1000 28) (I 1000 24))) (BM D A) A) 0 0 A := by
  refine m_ofW (by decide) (Nat.le_of_ble_eq_true rfl) ?_
  intro p e s m below meth c ls args hC hE hM hA hS hl
  obtain ⟨hx, hb, hml, hown, hts, hr, hlocks, hin⟩ := hC
  have km1 : (-1 : Int32).toInt = -1 := by decide
  have k0 : (0 : Int32).toInt = 0 := by decide
  have k1 : (1 : Int32).toInt = 1 := by decide
  have k2 : (2 : Int32).toInt = 2 := by decide
  have k5 : (5 : Int32).toInt = 5 := by decide
  have k6 : (6 : Int32).toInt = 6 := by decide
  have k7 : (7 : Int32).toInt = 7 := by decide
  have k8 : (8 : Int32).toInt = 8 := by decide
  have k9 : (9 : Int32).toInt = 9 := by decide
  have hl : lv_has ls 2 [(0, .ref (ad (1000))), (1, .int (a0))] := hl
  refine lv_iload_n hx hb dX10_count_0 rfl (lv_at hl 1 rfl) ?_
  by_cases c1 : (a0).toInt < 0 ∨ 9 < (a0).toInt
  · refine lv_tableOut (tgt := 212) hx hb dX10_count_1 c1 (by decide) ?_
    refine lv_iconst (v := (-1)) hx hb dX10_count_212 (by decide) ?_
    exact m_iret hx hb hr hlocks hM hS (Nat.le_of_ble_eq_true rfl) (Nat.le_of_ble_eq_true rfl) ⟨rfl, (Or.inr (Or.inr (Or.inr ⟨by omega, by omega, by omega, rfl⟩)))⟩ dX10_count_213
  · have qc1 : (a0).toInt = 0 ∨ (a0).toInt = 1 ∨ (a0).toInt = 2 ∨ (a0).toInt = 3 ∨ (a0).toInt = 4 ∨ (a0).toInt = 5 ∨ (a0).toInt = 6 ∨ (a0).toInt = 7 ∨ (a0).toInt = 8 ∨ (a0).toInt = 9 := by omega
    rcases qc1 with qc1 | qc1 | qc1 | qc1 | qc1 | qc1 | qc1 | qc1 | qc1 | qc1
    · refine lv_tableIn (off := 55) (tgt := 56) hx hb dX10_count_1 (by omega) (by omega) (by rw [qc1]; rfl) (by decide) ?_
      refine lv_aload_n hx hb dX10_count_56 rfl (lv_at hl 0 rfl) ?_
      refine m_calli (m_runV (1000) (As := []) (rest := []) hx hb hml hown hts hE hM hS hA ce_X10_isTown tb_1441 (V_X10_isTown l D A ad ns I L G hJ hI) rfl rfl ⟨Nat.le_of_ble_eq_true rfl, Nat.le_of_ble_eq_true rfl⟩ hJ.1 rfl rfl (by decide) rfl hl.1 rfl (Nat.le_of_ble_eq_true rfl) dX10_count_57 ⟨Nat.le_of_ble_eq_true rfl, Nat.le_of_ble_eq_true rfl⟩) hS (fun r2 u H locs hw hM hS => ?_)
      obtain ⟨rfl, xr2⟩ := hw
      have hM : Mem D A ad ns I L G H := hM
      have yr2 := bo01 xr2
      refine lv_if_eq (tgt := 72) hx hb dX10_count_60 (by decide) (fun c3 => ?_) (fun c3 => ?_)
      · have hc3 := c3
        have q3 := xr2.f hc3
        refine lv_iconst (v := (-1)) hx hb dX10_count_72 (by decide) ?_
        exact m_iret hx hb hr hlocks hM hS (Nat.le_of_ble_eq_true rfl) (Nat.le_of_ble_eq_true rfl) ⟨rfl, (Or.inr (Or.inr (Or.inr ⟨by omega, by omega, by omega, rfl⟩)))⟩ dX10_count_73
      · have hc3 := c3
        have q3 := xr2.t hc3
        refine lv_aload_n hx hb dX10_count_63 rfl (lv_at hl 0 rfl) ?_
        refine m_getr (1000) 1 (1001) hx hb hts hown hE oc10 hM hJ.1 rfl (by decide) rfl (hJ.2 1 (by decide)).2 (by decide) tb_1178 dX10_count_64 ?_
        refine lv_iconst (v := (1)) hx hb dX10_count_67 (by decide) ?_
        refine m_iald (1001) hx hb hE hM (hJ.2 1 (by decide)).1 rfl (vp_in_iff.mpr (by decide)) dX10_count_68 ?_
        rw [show (1 : Int32).toNatClampNeg = 1 from rfl]
        have g4 := hI.get (1001) 1 (lo := 0) (hi := 24) rfl
        refine lv_goto (tgt := 73) hx hb dX10_count_69 (by decide) ?_
        exact m_iret hx hb hr hlocks hM hS (Nat.le_of_ble_eq_true rfl) (Nat.le_of_ble_eq_true rfl) ⟨rfl, (Or.inr (Or.inr (Or.inl ⟨by omega, by unfold cnV; rw [if_pos (by omega)]; rfl⟩)))⟩ dX10_count_73
    · refine lv_tableIn (off := 73) (tgt := 74) hx hb dX10_count_1 (by omega) (by omega) (by rw [qc1]; rfl) (by decide) ?_
      refine lv_aload_n hx hb dX10_count_74 rfl (lv_at hl 0 rfl) ?_
      refine m_calli (m_runV (1000) (As := []) (rest := []) hx hb hml hown hts hE hM hS hA ce_X10_isTown tb_1441 (V_X10_isTown l D A ad ns I L G hJ hI) rfl rfl ⟨Nat.le_of_ble_eq_true rfl, Nat.le_of_ble_eq_true rfl⟩ hJ.1 rfl rfl (by decide) rfl hl.1 rfl (Nat.le_of_ble_eq_true rfl) dX10_count_75 ⟨Nat.le_of_ble_eq_true rfl, Nat.le_of_ble_eq_true rfl⟩) hS (fun r5 u H locs hw hM hS => ?_)
      obtain ⟨rfl, xr5⟩ := hw
      have hM : Mem D A ad ns I L G H := hM
      have yr5 := bo01 xr5
      refine lv_if_eq (tgt := 90) hx hb dX10_count_78 (by decide) (fun c6 => ?_) (fun c6 => ?_)
      · have hc6 := c6
        have q6 := xr5.f hc6
        refine lv_iconst (v := (-1)) hx hb dX10_count_90 (by decide) ?_
        exact m_iret hx hb hr hlocks hM hS (Nat.le_of_ble_eq_true rfl) (Nat.le_of_ble_eq_true rfl) ⟨rfl, (Or.inr (Or.inr (Or.inr ⟨by omega, by omega, by omega, rfl⟩)))⟩ dX10_count_91
      · have hc6 := c6
        have q6 := xr5.t hc6
        refine lv_aload_n hx hb dX10_count_81 rfl (lv_at hl 0 rfl) ?_
        refine m_getr (1000) 1 (1001) hx hb hts hown hE oc10 hM hJ.1 rfl (by decide) rfl (hJ.2 1 (by decide)).2 (by decide) tb_1178 dX10_count_82 ?_
        refine lv_iconst (v := (2)) hx hb dX10_count_85 (by decide) ?_
        refine m_iald (1001) hx hb hE hM (hJ.2 1 (by decide)).1 rfl (vp_in_iff.mpr (by decide)) dX10_count_86 ?_
        rw [show (2 : Int32).toNatClampNeg = 2 from rfl]
        have g7 := hI.get (1001) 2 (lo := 0) (hi := 24) rfl
        refine lv_goto (tgt := 91) hx hb dX10_count_87 (by decide) ?_
        exact m_iret hx hb hr hlocks hM hS (Nat.le_of_ble_eq_true rfl) (Nat.le_of_ble_eq_true rfl) ⟨rfl, (Or.inr (Or.inr (Or.inl ⟨by omega, by unfold cnV; rw [if_neg (by omega), if_pos (by omega)]; rfl⟩)))⟩ dX10_count_91
    · refine lv_tableIn (off := 91) (tgt := 92) hx hb dX10_count_1 (by omega) (by omega) (by rw [qc1]; rfl) (by decide) ?_
      refine lv_aload_n hx hb dX10_count_92 rfl (lv_at hl 0 rfl) ?_
      refine m_calli (m_runV (1000) (As := []) (rest := []) hx hb hml hown hts hE hM hS hA ce_X10_isTown tb_1441 (V_X10_isTown l D A ad ns I L G hJ hI) rfl rfl ⟨Nat.le_of_ble_eq_true rfl, Nat.le_of_ble_eq_true rfl⟩ hJ.1 rfl rfl (by decide) rfl hl.1 rfl (Nat.le_of_ble_eq_true rfl) dX10_count_93 ⟨Nat.le_of_ble_eq_true rfl, Nat.le_of_ble_eq_true rfl⟩) hS (fun r8 u H locs hw hM hS => ?_)
      obtain ⟨rfl, xr8⟩ := hw
      have hM : Mem D A ad ns I L G H := hM
      have yr8 := bo01 xr8
      refine lv_if_eq (tgt := 109) hx hb dX10_count_96 (by decide) (fun c9 => ?_) (fun c9 => ?_)
      · have hc9 := c9
        have q9 := xr8.f hc9
        refine lv_iconst (v := (-1)) hx hb dX10_count_109 (by decide) ?_
        exact m_iret hx hb hr hlocks hM hS (Nat.le_of_ble_eq_true rfl) (Nat.le_of_ble_eq_true rfl) ⟨rfl, (Or.inr (Or.inr (Or.inr ⟨by omega, by omega, by omega, rfl⟩)))⟩ dX10_count_110
      · have hc9 := c9
        have q9 := xr8.t hc9
        refine lv_aload_n hx hb dX10_count_99 rfl (lv_at hl 0 rfl) ?_
        refine m_getr (1000) 1 (1001) hx hb hts hown hE oc10 hM hJ.1 rfl (by decide) rfl (hJ.2 1 (by decide)).2 (by decide) tb_1178 dX10_count_100 ?_
        refine lv_bipush (v := (8)) hx hb dX10_count_103 (by decide) ?_
        refine m_iald (1001) hx hb hE hM (hJ.2 1 (by decide)).1 rfl (vp_in_iff.mpr (by decide)) dX10_count_105 ?_
        rw [show (8 : Int32).toNatClampNeg = 8 from rfl]
        have g10 := hI.get (1001) 8 (lo := 0) (hi := 24) rfl
        refine lv_goto (tgt := 110) hx hb dX10_count_106 (by decide) ?_
        exact m_iret hx hb hr hlocks hM hS (Nat.le_of_ble_eq_true rfl) (Nat.le_of_ble_eq_true rfl) ⟨rfl, (Or.inr (Or.inr (Or.inl ⟨by omega, by unfold cnV; rw [if_neg (by omega), if_neg (by omega), if_pos (by omega)]; rfl⟩)))⟩ dX10_count_110
    · refine lv_tableIn (off := 110) (tgt := 111) hx hb dX10_count_1 (by omega) (by omega) (by rw [qc1]; rfl) (by decide) ?_
      refine lv_aload_n hx hb dX10_count_111 rfl (lv_at hl 0 rfl) ?_
      refine m_calli (m_runV (1000) (As := []) (rest := []) hx hb hml hown hts hE hM hS hA ce_X10_isTown tb_1441 (V_X10_isTown l D A ad ns I L G hJ hI) rfl rfl ⟨Nat.le_of_ble_eq_true rfl, Nat.le_of_ble_eq_true rfl⟩ hJ.1 rfl rfl (by decide) rfl hl.1 rfl (Nat.le_of_ble_eq_true rfl) dX10_count_112 ⟨Nat.le_of_ble_eq_true rfl, Nat.le_of_ble_eq_true rfl⟩) hS (fun r11 u H locs hw hM hS => ?_)
      obtain ⟨rfl, xr11⟩ := hw
      have hM : Mem D A ad ns I L G H := hM
      have yr11 := bo01 xr11
      refine lv_if_eq (tgt := 128) hx hb dX10_count_115 (by decide) (fun c12 => ?_) (fun c12 => ?_)
      · have hc12 := c12
        have q12 := xr11.f hc12
        refine lv_iconst (v := (-1)) hx hb dX10_count_128 (by decide) ?_
        exact m_iret hx hb hr hlocks hM hS (Nat.le_of_ble_eq_true rfl) (Nat.le_of_ble_eq_true rfl) ⟨rfl, (Or.inr (Or.inr (Or.inr ⟨by omega, by omega, by omega, rfl⟩)))⟩ dX10_count_129
      · have hc12 := c12
        have q12 := xr11.t hc12
        refine lv_aload_n hx hb dX10_count_118 rfl (lv_at hl 0 rfl) ?_
        refine m_getr (1000) 1 (1001) hx hb hts hown hE oc10 hM hJ.1 rfl (by decide) rfl (hJ.2 1 (by decide)).2 (by decide) tb_1178 dX10_count_119 ?_
        refine lv_bipush (v := (9)) hx hb dX10_count_122 (by decide) ?_
        refine m_iald (1001) hx hb hE hM (hJ.2 1 (by decide)).1 rfl (vp_in_iff.mpr (by decide)) dX10_count_124 ?_
        rw [show (9 : Int32).toNatClampNeg = 9 from rfl]
        have g13 := hI.get (1001) 9 (lo := 0) (hi := 8) rfl
        refine lv_goto (tgt := 129) hx hb dX10_count_125 (by decide) ?_
        exact m_iret hx hb hr hlocks hM hS (Nat.le_of_ble_eq_true rfl) (Nat.le_of_ble_eq_true rfl) ⟨rfl, (Or.inr (Or.inr (Or.inl ⟨by omega, by unfold cnV; rw [if_neg (by omega), if_neg (by omega), if_neg (by omega), if_pos (by omega)]; rfl⟩)))⟩ dX10_count_129
    · refine lv_tableIn (off := 129) (tgt := 130) hx hb dX10_count_1 (by omega) (by omega) (by rw [qc1]; rfl) (by decide) ?_
      refine lv_aload_n hx hb dX10_count_130 rfl (lv_at hl 0 rfl) ?_
      refine m_calli (m_runV (1000) (As := []) (rest := []) hx hb hml hown hts hE hM hS hA ce_X10_isTown tb_1441 (V_X10_isTown l D A ad ns I L G hJ hI) rfl rfl ⟨Nat.le_of_ble_eq_true rfl, Nat.le_of_ble_eq_true rfl⟩ hJ.1 rfl rfl (by decide) rfl hl.1 rfl (Nat.le_of_ble_eq_true rfl) dX10_count_131 ⟨Nat.le_of_ble_eq_true rfl, Nat.le_of_ble_eq_true rfl⟩) hS (fun r14 u H locs hw hM hS => ?_)
      obtain ⟨rfl, xr14⟩ := hw
      have hM : Mem D A ad ns I L G H := hM
      have yr14 := bo01 xr14
      refine lv_if_eq (tgt := 146) hx hb dX10_count_134 (by decide) (fun c15 => ?_) (fun c15 => ?_)
      · have hc15 := c15
        have q15 := xr14.f hc15
        refine lv_iconst (v := (-1)) hx hb dX10_count_146 (by decide) ?_
        exact m_iret hx hb hr hlocks hM hS (Nat.le_of_ble_eq_true rfl) (Nat.le_of_ble_eq_true rfl) ⟨rfl, (Or.inr (Or.inr (Or.inr ⟨by omega, by omega, by omega, rfl⟩)))⟩ dX10_count_147
      · have hc15 := c15
        have q15 := xr14.t hc15
        refine lv_aload_n hx hb dX10_count_137 rfl (lv_at hl 0 rfl) ?_
        refine m_getr (1000) 1 (1001) hx hb hts hown hE oc10 hM hJ.1 rfl (by decide) rfl (hJ.2 1 (by decide)).2 (by decide) tb_1178 dX10_count_138 ?_
        refine lv_iconst (v := (5)) hx hb dX10_count_141 (by decide) ?_
        refine m_iald (1001) hx hb hE hM (hJ.2 1 (by decide)).1 rfl (vp_in_iff.mpr (by decide)) dX10_count_142 ?_
        rw [show (5 : Int32).toNatClampNeg = 5 from rfl]
        have g16 := hI.get (1001) 5 (lo := 0) (hi := 11) rfl
        refine lv_goto (tgt := 147) hx hb dX10_count_143 (by decide) ?_
        exact m_iret hx hb hr hlocks hM hS (Nat.le_of_ble_eq_true rfl) (Nat.le_of_ble_eq_true rfl) ⟨rfl, (Or.inr (Or.inr (Or.inl ⟨by omega, by unfold cnV; rw [if_neg (by omega), if_neg (by omega), if_neg (by omega), if_neg (by omega), if_pos (by omega)]; rfl⟩)))⟩ dX10_count_147
    · refine lv_tableIn (off := 147) (tgt := 148) hx hb dX10_count_1 (by omega) (by omega) (by rw [qc1]; rfl) (by decide) ?_
      refine lv_aload_n hx hb dX10_count_148 rfl (lv_at hl 0 rfl) ?_
      refine m_calli (m_runV (1000) (As := []) (rest := []) hx hb hml hown hts hE hM hS hA ce_X10_isTown tb_1441 (V_X10_isTown l D A ad ns I L G hJ hI) rfl rfl ⟨Nat.le_of_ble_eq_true rfl, Nat.le_of_ble_eq_true rfl⟩ hJ.1 rfl rfl (by decide) rfl hl.1 rfl (Nat.le_of_ble_eq_true rfl) dX10_count_149 ⟨Nat.le_of_ble_eq_true rfl, Nat.le_of_ble_eq_true rfl⟩) hS (fun r17 u H locs hw hM hS => ?_)
      obtain ⟨rfl, xr17⟩ := hw
      have hM : Mem D A ad ns I L G H := hM
      have yr17 := bo01 xr17
      refine lv_if_eq (tgt := 165) hx hb dX10_count_152 (by decide) (fun c18 => ?_) (fun c18 => ?_)
      · have hc18 := c18
        have q18 := xr17.f hc18
        refine lv_iconst (v := (-1)) hx hb dX10_count_165 (by decide) ?_
        exact m_iret hx hb hr hlocks hM hS (Nat.le_of_ble_eq_true rfl) (Nat.le_of_ble_eq_true rfl) ⟨rfl, (Or.inr (Or.inr (Or.inr ⟨by omega, by omega, by omega, rfl⟩)))⟩ dX10_count_166
      · have hc18 := c18
        have q18 := xr17.t hc18
        refine lv_aload_n hx hb dX10_count_155 rfl (lv_at hl 0 rfl) ?_
        refine m_getr (1000) 1 (1001) hx hb hts hown hE oc10 hM hJ.1 rfl (by decide) rfl (hJ.2 1 (by decide)).2 (by decide) tb_1178 dX10_count_156 ?_
        refine lv_bipush (v := (6)) hx hb dX10_count_159 (by decide) ?_
        refine m_iald (1001) hx hb hE hM (hJ.2 1 (by decide)).1 rfl (vp_in_iff.mpr (by decide)) dX10_count_161 ?_
        rw [show (6 : Int32).toNatClampNeg = 6 from rfl]
        refine lv_goto (tgt := 166) hx hb dX10_count_162 (by decide) ?_
        exact m_iret hx hb hr hlocks hM hS (Nat.le_of_ble_eq_true rfl) (Nat.le_of_ble_eq_true rfl) ⟨rfl, (Or.inr (Or.inr (Or.inl ⟨by omega, by unfold cnV; rw [if_neg (by omega), if_neg (by omega), if_neg (by omega), if_neg (by omega), if_neg (by omega), if_pos (by omega)]; rfl⟩)))⟩ dX10_count_166
    · refine lv_tableIn (off := 166) (tgt := 167) hx hb dX10_count_1 (by omega) (by omega) (by rw [qc1]; rfl) (by decide) ?_
      refine lv_aload_n hx hb dX10_count_167 rfl (lv_at hl 0 rfl) ?_
      refine m_calli (m_runV (1000) (As := []) (rest := []) hx hb hml hown hts hE hM hS hA ce_X10_isTown tb_1441 (V_X10_isTown l D A ad ns I L G hJ hI) rfl rfl ⟨Nat.le_of_ble_eq_true rfl, Nat.le_of_ble_eq_true rfl⟩ hJ.1 rfl rfl (by decide) rfl hl.1 rfl (Nat.le_of_ble_eq_true rfl) dX10_count_168 ⟨Nat.le_of_ble_eq_true rfl, Nat.le_of_ble_eq_true rfl⟩) hS (fun r19 u H locs hw hM hS => ?_)
      obtain ⟨rfl, xr19⟩ := hw
      have hM : Mem D A ad ns I L G H := hM
      have yr19 := bo01 xr19
      refine lv_if_eq (tgt := 181) hx hb dX10_count_171 (by decide) (fun c20 => ?_) (fun c20 => ?_)
      · have hc20 := c20
        have q20 := xr19.f hc20
        refine lv_iconst (v := (-1)) hx hb dX10_count_181 (by decide) ?_
        exact m_iret hx hb hr hlocks hM hS (Nat.le_of_ble_eq_true rfl) (Nat.le_of_ble_eq_true rfl) ⟨rfl, (Or.inr (Or.inr (Or.inr ⟨by omega, by omega, by omega, rfl⟩)))⟩ dX10_count_182
      · have hc20 := c20
        have q20 := xr19.t hc20
        refine lv_aload_n hx hb dX10_count_174 rfl (lv_at hl 0 rfl) ?_
        refine m_calli (m_runV (1000) (As := []) (rest := []) hx hb hml hown hts hE hM hS hA ce_X10_met tb_1674 (V_X10_met_y l D A ad ns I L G hJ hI) rfl rfl ⟨Nat.le_of_ble_eq_true rfl, Nat.le_of_ble_eq_true rfl⟩ hJ.1 rfl rfl (by decide) rfl hl.1 rfl (Nat.le_of_ble_eq_true rfl) dX10_count_175 ⟨Nat.le_of_ble_eq_true rfl, Nat.le_of_ble_eq_true rfl⟩) hS (fun r21 u H locs hw hM hS => ?_)
        obtain ⟨rfl, xr21⟩ := hw
        have hM : Mem D A ad ns I L G H := hM
        refine lv_goto (tgt := 182) hx hb dX10_count_178 (by decide) ?_
        exact m_iret hx hb hr hlocks hM hS (Nat.le_of_ble_eq_true rfl) (Nat.le_of_ble_eq_true rfl) ⟨rfl, (Or.inr (Or.inr (Or.inl ⟨by omega, by unfold cnV; rw [if_neg (by omega), if_neg (by omega), if_neg (by omega), if_neg (by omega), if_neg (by omega), if_neg (by omega), if_pos (by omega)]; exact xr21⟩)))⟩ dX10_count_182
    · refine lv_tableIn (off := 182) (tgt := 183) hx hb dX10_count_1 (by omega) (by omega) (by rw [qc1]; rfl) (by decide) ?_
      refine lv_aload_n hx hb dX10_count_183 rfl (lv_at hl 0 rfl) ?_
      refine m_calli (m_runV (1000) (As := []) (rest := []) hx hb hml hown hts hE hM hS hA ce_X10_isTown tb_1441 (V_X10_isTown l D A ad ns I L G hJ hI) rfl rfl ⟨Nat.le_of_ble_eq_true rfl, Nat.le_of_ble_eq_true rfl⟩ hJ.1 rfl rfl (by decide) rfl hl.1 rfl (Nat.le_of_ble_eq_true rfl) dX10_count_184 ⟨Nat.le_of_ble_eq_true rfl, Nat.le_of_ble_eq_true rfl⟩) hS (fun r22 u H locs hw hM hS => ?_)
      obtain ⟨rfl, xr22⟩ := hw
      have hM : Mem D A ad ns I L G H := hM
      have yr22 := bo01 xr22
      refine lv_if_eq (tgt := 200) hx hb dX10_count_187 (by decide) (fun c23 => ?_) (fun c23 => ?_)
      · have hc23 := c23
        have q23 := xr22.f hc23
        refine lv_iconst (v := (-1)) hx hb dX10_count_200 (by decide) ?_
        exact m_iret hx hb hr hlocks hM hS (Nat.le_of_ble_eq_true rfl) (Nat.le_of_ble_eq_true rfl) ⟨rfl, (Or.inr (Or.inr (Or.inr ⟨by omega, by omega, by omega, rfl⟩)))⟩ dX10_count_201
      · have hc23 := c23
        have q23 := xr22.t hc23
        refine lv_aload_n hx hb dX10_count_190 rfl (lv_at hl 0 rfl) ?_
        refine m_getr (1000) 1 (1001) hx hb hts hown hE oc10 hM hJ.1 rfl (by decide) rfl (hJ.2 1 (by decide)).2 (by decide) tb_1178 dX10_count_191 ?_
        refine lv_bipush (v := (7)) hx hb dX10_count_194 (by decide) ?_
        refine m_iald (1001) hx hb hE hM (hJ.2 1 (by decide)).1 rfl (vp_in_iff.mpr (by decide)) dX10_count_196 ?_
        rw [show (7 : Int32).toNatClampNeg = 7 from rfl]
        refine lv_goto (tgt := 201) hx hb dX10_count_197 (by decide) ?_
        exact m_iret hx hb hr hlocks hM hS (Nat.le_of_ble_eq_true rfl) (Nat.le_of_ble_eq_true rfl) ⟨rfl, (Or.inr (Or.inr (Or.inl ⟨by omega, by unfold cnV; rw [if_neg (by omega), if_neg (by omega), if_neg (by omega), if_neg (by omega), if_neg (by omega), if_neg (by omega), if_neg (by omega)]; rfl⟩)))⟩ dX10_count_201
    · refine lv_tableIn (off := 201) (tgt := 202) hx hb dX10_count_1 (by omega) (by omega) (by rw [qc1]; rfl) (by decide) ?_
      refine lv_aload_n hx hb dX10_count_202 rfl (lv_at hl 0 rfl) ?_
      refine m_geti (1000) 28 hx hb hts hown hE oc10 hM hJ.1 rfl (by decide) rfl tb_1205 dX10_count_203 ?_
      have g24 := hI.get (1000) 28 (lo := 0) (hi := 6) rfl
      exact m_iret hx hb hr hlocks hM hS (Nat.le_of_ble_eq_true rfl) (Nat.le_of_ble_eq_true rfl) ⟨rfl, (Or.inl ⟨by omega, rfl⟩)⟩ dX10_count_206
    · refine lv_tableIn (off := 206) (tgt := 207) hx hb dX10_count_1 (by omega) (by omega) (by rw [qc1]; rfl) (by decide) ?_
      refine lv_aload_n hx hb dX10_count_207 rfl (lv_at hl 0 rfl) ?_
      refine m_geti (1000) 24 hx hb hts hown hE oc10 hM hJ.1 rfl (by decide) rfl tb_1201 dX10_count_208 ?_
      have g25 := hI.get (1000) 24 (lo := 0) (hi := 400) rfl
      exact m_iret hx hb hr hlocks hM hS (Nat.le_of_ble_eq_true rfl) (Nat.le_of_ble_eq_true rfl) ⟨rfl, (Or.inr (Or.inl ⟨by omega, rfl⟩))⟩ dX10_count_211
