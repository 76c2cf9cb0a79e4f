set_option maxHeartbeats 4000000 in
set_option maxRecDepth 20000 in
theorem V_X2_holds_100_v (l : Launch) (D : va_G) (A : Nat → Prop) (ad : Nat → Nat) (ns : List Nat) (I : MI) (L : ML) (G : MG) (w : Nat) (a0 : Int32) (hG : SGC ns G) (hI : INV I) (hW : LOK ns G w) (hlx : LWX w I (a0).toNatClampNeg) (ha0 : 0 ≤ a0.toInt ∧ a0.toInt ≤ 11) : Met l yX2_holds (wd yX2_holds cX2_holds 6 (some .boolean)) ({ frames := 4, cells := 0, slots := 0, locals := 94 }) (va_Pc [.ref (ad (20)), .ref (ad (100)), .ref (ad (w)), .int a0] (PM D A ad ns I L G)) (va_Qi (fun r u => ∃ I2 L2, u = (ad, ns, I2, L2, G) ∧ INV I2 ∧ Kp [] [] I I2 ∧ (Bo r (HOLD 100 w I (a0).toNatClampNeg))) (BM D A) A) 0 0 A := by
  refine m_ofW (by decide) (Nat.le_of_ble_eq_true rfl) ?_
  intro p e s m below meth c ls args hC hE hM hA hS hl
  obtain ⟨hx, hb, hml, hown, hts, hr, hlocks, hin⟩ := hC
  have k0 : (0 : Int32).toInt = 0 := by decide
  have k1 : (1 : Int32).toInt = 1 := by decide
  have kl0 : (0 : Int64).toInt = 0 := by decide
  have kl0 : (0 : Int64).toInt = 0 := rfl
  have hmr := hlx.1
  have hor := hlx.2.1
  have hK : Kp [] [] I I := Kp.rf
  have hl : lv_has ls 6 [(0, .ref (ad (20))), (1, .ref (ad (100))), (2, .ref (ad (w))), (3, .int (a0))] := hl
  refine lv_aload_n hx hb dX2_holds_0 rfl (lv_at hl 2 rfl) ?_
  refine m_getr (w) 3 (w + 4) hx hb hts hown hE oc3 hM hW.l (kW _ hW.1).1 (by decide) rfl (hW.2.2 3 (by decide)) (by have := lbw hW.1; omega) tb_376 dX2_holds_1 ?_
  refine lv_iload_n hx hb dX2_holds_4 rfl (lv_at hl 3 rfl) ?_
  refine m_iald (w + 4) hx hb hE hM (hW.2.1 4 (by decide)) (kW _ hW.1).2.2.2.2.1 (vp_in_iff.mpr (by omega)) dX2_holds_5 ?_
  have g1 := hI.get (w + 4) ((a0).toNatClampNeg) (lo := 0) (hi := 400) (rgw4 hW.1 _)
  refine lv_istore (lv' := [(4, .int (I (w + 4) (a0).toNatClampNeg)), (0, .ref (ad (20))), (1, .ref (ad (100))), (2, .ref (ad (w))), (3, .int (a0))]) hx hb dX2_holds_6 hl (by decide) rfl (fun ls hl => ?_)
  refine lv_aload_n hx hb dX2_holds_8 rfl (lv_at hl 3 rfl) ?_
  refine m_getr (w) 4 (w + 5) hx hb hts hown hE oc3 hM hW.l (kW _ hW.1).1 (by decide) rfl (hW.2.2 4 (by decide)) (by have := lbw hW.1; omega) tb_378 dX2_holds_9 ?_
  refine lv_iload_n hx hb dX2_holds_12 rfl (lv_at hl 4 rfl) ?_
  refine m_iald (w + 5) hx hb hE hM (hW.2.1 5 (by decide)) (kW _ hW.1).2.2.2.2.2.1 (vp_in_iff.mpr (by omega)) dX2_holds_13 ?_
  have g2 := hI.get (w + 5) ((a0).toNatClampNeg) (lo := 0) (hi := 400) (rgw5 hW.1 _)
  refine lv_istore (lv' := [(5, .int (I (w + 5) (a0).toNatClampNeg)), (4, .int (I (w + 4) (a0).toNatClampNeg)), (0, .ref (ad (20))), (1, .ref (ad (100))), (2, .ref (ad (w))), (3, .int (a0))]) hx hb dX2_holds_14 hl (by decide) rfl (fun ls hl => ?_)
  refine lv_iload hx hb dX2_holds_16 (lv_at hl 1 rfl) ?_
  refine lv_iload hx hb dX2_holds_18 (lv_at hl 0 rfl) ?_
  refine lv_icmp_eq (tgt := 44) hx hb dX2_holds_20 (by decide) (fun c3 => ?_) (fun c3 => ?_)
  · have hc3 := c3
    have q3 := q_eq hc3
    refine lv_iconst (v := (1)) hx hb dX2_holds_44 (by decide) ?_
    refine lv_goto (tgt := 49) hx hb dX2_holds_45 (by decide) ?_
    exact m_zret hx hb hr rfl hlocks hM hS (Nat.le_of_ble_eq_true rfl) (Nat.le_of_ble_eq_true rfl) ⟨_, _, rfl, hI, hK, (Bo.y (Or.inl c3))⟩ dX2_holds_49
  · have hc3 := c3
    have q3 := q_ne hc3
    refine lv_aload_n hx hb dX2_holds_23 rfl (lv_at hl 2 rfl) ?_
    refine lv_aload_n hx hb dX2_holds_24 rfl (lv_at hl 3 rfl) ?_
    refine lv_aload_n hx hb dX2_holds_25 rfl (lv_at hl 4 rfl) ?_
    refine lv_iload hx hb dX2_holds_26 (lv_at hl 1 rfl) ?_
    refine lv_iload hx hb dX2_holds_28 (lv_at hl 0 rfl) ?_
    refine lv_aload_n hx hb dX2_holds_30 rfl (lv_at hl 4 rfl) ?_
    refine m_getr (w) 1 (w + 2) hx hb hts hown hE oc3 hM hW.l (kW _ hW.1).1 (by decide) rfl (hW.2.2 1 (by decide)) (by have := lbw hW.1; omega) tb_372 dX2_holds_31 ?_
    refine lv_iload_n hx hb dX2_holds_34 rfl (lv_at hl 5 rfl) ?_
    refine m_iald (w + 2) hx hb hE hM (hW.2.1 2 (by decide)) (kW _ hW.1).2.2.1 (vp_in_iff.mpr (by omega)) dX2_holds_35 ?_
    refine m_calll (m_runV (20) (As := [.ref (ad (100)), .ref (ad (w)), .int (I (w + 4) (a0).toNatClampNeg), .int (I (w + 5) (a0).toNatClampNeg), .int (I (w + 2) (a0).toNatClampNeg)]) (rest := []) hx hb hml hown hts hE hM hS hA ce_X2_valueOf tb_758 (V_X2_valueOf_100_v l D A ad ns I L G true (w) (I (w + 4) (a0).toNatClampNeg) (I (w + 5) (a0).toNatClampNeg) (I (w + 2) (a0).toNatClampNeg) hG hI hW hlx.2.1.2 (hlx.2.2.2 c3).1 (hlx.2.2.2 c3).2 (by first | omega | decide) (by first | omega | decide) (by first | omega | decide)) rfl rfl ⟨Nat.le_of_ble_eq_true rfl, Nat.le_of_ble_eq_true rfl⟩ (hG.1 20 (by decide)) rfl rfl (by decide) rfl hl.1 rfl (Nat.le_of_ble_eq_true rfl) dX2_holds_36 ⟨Nat.le_of_ble_eq_true rfl, Nat.le_of_ble_eq_true rfl⟩) hS (fun r4 u H locs hw hM hS => ?_)
    obtain ⟨I5, L6, rfl, hI, hkI5, xr4⟩ := hw
    have hM : Mem D A ad ns I5 L6 G H := hM
    have hK := hK.trans hkI5 rfl
    refine lv_lconst (v := 0) hx hb dX2_holds_39 (by decide) ?_
    refine W.lcmp hx hb dX2_holds_40 ?_
    refine lv_if_eq (tgt := 48) hx hb dX2_holds_41 (by decide) (fun c7 => ?_) (fun c7 => ?_)
    · have hc7 := c7
      have q7 := l_eq hc7
      refine lv_iconst (v := (0)) hx hb dX2_holds_48 (by decide) ?_
      exact m_zret hx hb hr rfl hlocks hM hS (Nat.le_of_ble_eq_true rfl) (Nat.le_of_ble_eq_true rfl) ⟨_, _, rfl, hI, hK, (Bo.n (fun hh => by rcases hh with hh | ⟨z, h1, h2⟩; exact c3 hh; have h3 := (xr4).symm.trans h1; simp only [List.cons.injEq, and_true] at h3; exact h2 (h3 ▸ Int64.toInt_inj.mp (by omega))))⟩ dX2_holds_49
    · have hc7 := c7
      have q7 := l_ne hc7
      refine lv_iconst (v := (1)) hx hb dX2_holds_44 (by decide) ?_
      refine lv_goto (tgt := 49) hx hb dX2_holds_45 (by decide) ?_
      exact m_zret hx hb hr rfl hlocks hM hS (Nat.le_of_ble_eq_true rfl) (Nat.le_of_ble_eq_true rfl) ⟨_, _, rfl, hI, hK, (Bo.y (Or.inr ⟨r4, xr4, l0_iff.mpr (by omega)⟩))⟩ dX2_holds_49
set_option maxHeartbeats 4000000 in
set_option maxRecDepth 20000 in
theorem V_X2_holds_110_v (l : Launch) (D : va_G) (A : Nat → Prop) (ad : Nat → Nat) (ns : List Nat) (I : MI) (L : ML) (G : MG) (w : Nat) (a0 : Int32) (hG : SGC ns G) (hI : INV I) (hW : LOK ns G w) (hlx : LWX w I (a0).toNatClampNeg) (ha0 : 0 ≤ a0.toInt ∧ a0.toInt ≤ 11) : Met l yX2_holds (wd yX2_holds cX2_holds 6 (some .boolean)) ({ frames := 4, cells := 0, slots := 0, locals := 94 }) (va_Pc [.ref (ad (20)), .ref (ad (110)), .ref (ad (w)), .int a0] (PM D A ad ns I L G)) (va_Qi (fun r u => ∃ I2 L2, u = (ad, ns, I2, L2, G) ∧ INV I2 ∧ Kp [] [] I I2 ∧ (Bo r (HOLD 110 w I (a0).toNatClampNeg))) (BM D A) A) 0 0 A := by
  refine m_ofW (by decide) (Nat.le_of_ble_eq_true rfl) ?_
  intro p e s m below meth c ls args hC hE hM hA hS hl
  obtain ⟨hx, hb, hml, hown, hts, hr, hlocks, hin⟩ := hC
  have k0 : (0 : Int32).toInt = 0 := by decide
  have k1 : (1 : Int32).toInt = 1 := by decide
  have kl0 : (0 : Int64).toInt = 0 := by decide
  have kl0 : (0 : Int64).toInt = 0 := rfl
  have hmr := hlx.1
  have hor := hlx.2.1
  have hK : Kp [] [] I I := Kp.rf
  have hl : lv_has ls 6 [(0, .ref (ad (20))), (1, .ref (ad (110))), (2, .ref (ad (w))), (3, .int (a0))] := hl
  refine lv_aload_n hx hb dX2_holds_0 rfl (lv_at hl 2 rfl) ?_
  refine m_getr (w) 3 (w + 4) hx hb hts hown hE oc3 hM hW.l (kW _ hW.1).1 (by decide) rfl (hW.2.2 3 (by decide)) (by have := lbw hW.1; omega) tb_376 dX2_holds_1 ?_
  refine lv_iload_n hx hb dX2_holds_4 rfl (lv_at hl 3 rfl) ?_
  refine m_iald (w + 4) hx hb hE hM (hW.2.1 4 (by decide)) (kW _ hW.1).2.2.2.2.1 (vp_in_iff.mpr (by omega)) dX2_holds_5 ?_
  have g1 := hI.get (w + 4) ((a0).toNatClampNeg) (lo := 0) (hi := 400) (rgw4 hW.1 _)
  refine lv_istore (lv' := [(4, .int (I (w + 4) (a0).toNatClampNeg)), (0, .ref (ad (20))), (1, .ref (ad (110))), (2, .ref (ad (w))), (3, .int (a0))]) hx hb dX2_holds_6 hl (by decide) rfl (fun ls hl => ?_)
  refine lv_aload_n hx hb dX2_holds_8 rfl (lv_at hl 3 rfl) ?_
  refine m_getr (w) 4 (w + 5) hx hb hts hown hE oc3 hM hW.l (kW _ hW.1).1 (by decide) rfl (hW.2.2 4 (by decide)) (by have := lbw hW.1; omega) tb_378 dX2_holds_9 ?_
  refine lv_iload_n hx hb dX2_holds_12 rfl (lv_at hl 4 rfl) ?_
  refine m_iald (w + 5) hx hb hE hM (hW.2.1 5 (by decide)) (kW _ hW.1).2.2.2.2.2.1 (vp_in_iff.mpr (by omega)) dX2_holds_13 ?_
  have g2 := hI.get (w + 5) ((a0).toNatClampNeg) (lo := 0) (hi := 400) (rgw5 hW.1 _)
  refine lv_istore (lv' := [(5, .int (I (w + 5) (a0).toNatClampNeg)), (4, .int (I (w + 4) (a0).toNatClampNeg)), (0, .ref (ad (20))), (1, .ref (ad (110))), (2, .ref (ad (w))), (3, .int (a0))]) hx hb dX2_holds_14 hl (by decide) rfl (fun ls hl => ?_)
  refine lv_iload hx hb dX2_holds_16 (lv_at hl 1 rfl) ?_
  refine lv_iload hx hb dX2_holds_18 (lv_at hl 0 rfl) ?_
  refine lv_icmp_eq (tgt := 44) hx hb dX2_holds_20 (by decide) (fun c3 => ?_) (fun c3 => ?_)
  · have hc3 := c3
    have q3 := q_eq hc3
    refine lv_iconst (v := (1)) hx hb dX2_holds_44 (by decide) ?_
    refine lv_goto (tgt := 49) hx hb dX2_holds_45 (by decide) ?_
    exact m_zret hx hb hr rfl hlocks hM hS (Nat.le_of_ble_eq_true rfl) (Nat.le_of_ble_eq_true rfl) ⟨_, _, rfl, hI, hK, (Bo.y (Or.inl c3))⟩ dX2_holds_49
  · have hc3 := c3
    have q3 := q_ne hc3
    refine lv_aload_n hx hb dX2_holds_23 rfl (lv_at hl 2 rfl) ?_
    refine lv_aload_n hx hb dX2_holds_24 rfl (lv_at hl 3 rfl) ?_
    refine lv_aload_n hx hb dX2_holds_25 rfl (lv_at hl 4 rfl) ?_
    refine lv_iload hx hb dX2_holds_26 (lv_at hl 1 rfl) ?_
    refine lv_iload hx hb dX2_holds_28 (lv_at hl 0 rfl) ?_
    refine lv_aload_n hx hb dX2_holds_30 rfl (lv_at hl 4 rfl) ?_
    refine m_getr (w) 1 (w + 2) hx hb hts hown hE oc3 hM hW.l (kW _ hW.1).1 (by decide) rfl (hW.2.2 1 (by decide)) (by have := lbw hW.1; omega) tb_372 dX2_holds_31 ?_
    refine lv_iload_n hx hb dX2_holds_34 rfl (lv_at hl 5 rfl) ?_
    refine m_iald (w + 2) hx hb hE hM (hW.2.1 2 (by decide)) (kW _ hW.1).2.2.1 (vp_in_iff.mpr (by omega)) dX2_holds_35 ?_
    refine m_calll (m_runV (20) (As := [.ref (ad (110)), .ref (ad (w)), .int (I (w + 4) (a0).toNatClampNeg), .int (I (w + 5) (a0).toNatClampNeg), .int (I (w + 2) (a0).toNatClampNeg)]) (rest := []) hx hb hml hown hts hE hM hS hA ce_X2_valueOf tb_758 (V_X2_valueOf_110_v l D A ad ns I L G true (w) (I (w + 4) (a0).toNatClampNeg) (I (w + 5) (a0).toNatClampNeg) (I (w + 2) (a0).toNatClampNeg) hG hI hW hlx.2.1.2 (hlx.2.2.2 c3).1 (hlx.2.2.2 c3).2 (by first | omega | decide) (by first | omega | decide) (by first | omega | decide)) rfl rfl ⟨Nat.le_of_ble_eq_true rfl, Nat.le_of_ble_eq_true rfl⟩ (hG.1 20 (by decide)) rfl rfl (by decide) rfl hl.1 rfl (Nat.le_of_ble_eq_true rfl) dX2_holds_36 ⟨Nat.le_of_ble_eq_true rfl, Nat.le_of_ble_eq_true rfl⟩) hS (fun r4 u H locs hw hM hS => ?_)
    obtain ⟨I5, L6, rfl, hI, hkI5, xr4⟩ := hw
    have hM : Mem D A ad ns I5 L6 G H := hM
    have hK := hK.trans hkI5 rfl
    refine lv_lconst (v := 0) hx hb dX2_holds_39 (by decide) ?_
    refine W.lcmp hx hb dX2_holds_40 ?_
    refine lv_if_eq (tgt := 48) hx hb dX2_holds_41 (by decide) (fun c7 => ?_) (fun c7 => ?_)
    · have hc7 := c7
      have q7 := l_eq hc7
      refine lv_iconst (v := (0)) hx hb dX2_holds_48 (by decide) ?_
      exact m_zret hx hb hr rfl hlocks hM hS (Nat.le_of_ble_eq_true rfl) (Nat.le_of_ble_eq_true rfl) ⟨_, _, rfl, hI, hK, (Bo.n (fun hh => by rcases hh with hh | ⟨z, h1, h2⟩; exact c3 hh; have h3 := (xr4).symm.trans h1; simp only [List.cons.injEq, and_true] at h3; exact h2 (h3 ▸ Int64.toInt_inj.mp (by omega))))⟩ dX2_holds_49
    · have hc7 := c7
      have q7 := l_ne hc7
      refine lv_iconst (v := (1)) hx hb dX2_holds_44 (by decide) ?_
      refine lv_goto (tgt := 49) hx hb dX2_holds_45 (by decide) ?_
      exact m_zret hx hb hr rfl hlocks hM hS (Nat.le_of_ble_eq_true rfl) (Nat.le_of_ble_eq_true rfl) ⟨_, _, rfl, hI, hK, (Bo.y (Or.inr ⟨r4, xr4, l0_iff.mpr (by omega)⟩))⟩ dX2_holds_49
