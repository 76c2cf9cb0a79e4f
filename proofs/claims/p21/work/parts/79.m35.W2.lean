set_option maxHeartbeats 4000000 in
set_option maxRecDepth 20000 in
theorem V_X2_gotByYard_v (l : Launch) (D : va_G) (A : Nat → Prop) (ad : Nat → Nat) (ns : List Nat) (I : MI) (L : ML) (G : MG) (a0 : Int32) (hG : SGC ns G) (hI : INV I) (ha0 : 0 ≤ a0.toInt ∧ a0.toInt ≤ 7) : Met l yX2_gotByYard (wd yX2_gotByYard cX2_gotByYard 2 (some .long)) ({ frames := 1, cells := 0, slots := 0, locals := 22 }) (va_Pc [.ref (ad (20)), .int a0] (PM D A ad ns I L G)) (va_Ql (fun r u => u = (ad, ns, I, L, G) ∧ (r = (I 21 (a0).toNatClampNeg).toInt64)) (BM D A) A) 0 0 A := by
  refine m_ofW (by decide) (Nat.le_of_ble_eq_true rfl) ?_
  intro p e s m below meth c ls args hC hE hM hA hS hl
  obtain ⟨hx, hb, hml, hown, hts, hr, hlocks, hin⟩ := hC
  have k0 : (0 : Int32).toInt = 0 := by decide
  have k7 : (7 : Int32).toInt = 7 := by decide
  have kl0 : (0 : Int64).toInt = 0 := by decide
  have hl : lv_has ls 2 [(0, .ref (ad (20))), (1, .int (a0))] := hl
  refine lv_iload_n hx hb dX2_gotByYard_0 rfl (lv_at hl 1 rfl) ?_
  refine lv_iconst (v := (0)) hx hb dX2_gotByYard_1 (by decide) ?_
  refine lv_bipush (v := (7)) hx hb dX2_gotByYard_2 (by decide) ?_
  refine m_calli (m_runSN (As := [.int (a0), .int (0), .int (7)]) (rest := []) hx hb hml hown hts hE hM hS hA ce_X9_isWithin (List.mem_of_getElem? (i := 6) rfl) (V_X9_isWithin l D A ad ns I L G (a0) (0) (7) hI) rfl rfl ⟨Nat.le_of_ble_eq_true rfl, Nat.le_of_ble_eq_true rfl⟩  rfl hl.1 rfl (Nat.le_of_ble_eq_true rfl) dX2_gotByYard_4 ⟨Nat.le_of_ble_eq_true rfl, Nat.le_of_ble_eq_true rfl⟩) hS (fun r1 u H locs hw hM hS => ?_)
  obtain ⟨rfl, xr1⟩ := hw
  have hM : Mem D A ad ns I L G H := hM
  have yr1 := bo01 xr1
  refine lv_if_eq (tgt := 20) hx hb dX2_gotByYard_7 (by decide) (fun c2 => ?_) (fun c2 => ?_)
  · have hc2 := c2
    have q2 := xr1.f hc2
    refine lv_lconst (v := 0) hx hb dX2_gotByYard_20 (by decide) ?_
    exact m_lret hx hb hr hlocks hM hS (Nat.le_of_ble_eq_true rfl) (Nat.le_of_ble_eq_true rfl) ⟨rfl, (by exfalso; omega)⟩ dX2_gotByYard_21
  · have hc2 := c2
    have q2 := xr1.t hc2
    refine lv_aload_n hx hb dX2_gotByYard_10 rfl (lv_at hl 0 rfl) ?_
    refine m_getr (20) 1 (21) hx hb hts hown hE oc2 hM (hG.1 20 (by decide)) rfl (by decide) rfl (hG.2 (20, 1, 21) (by decide)) (by decide) tb_186 dX2_gotByYard_11 ?_
    refine lv_iload_n hx hb dX2_gotByYard_14 rfl (lv_at hl 1 rfl) ?_
    refine m_iald (21) hx hb hE hM (hG.1 21 (by decide)) rfl (vp_in_iff.mpr (by omega)) dX2_gotByYard_15 ?_
    refine lv_i2l hx hb dX2_gotByYard_16 rfl ?_
    refine lv_topl (fun v3 ev3 => ?_)
    have tv3 := q_i2l ev3
    refine lv_goto (tgt := 21) hx hb dX2_gotByYard_17 (by decide) ?_
    exact m_lret hx hb hr hlocks hM hS (Nat.le_of_ble_eq_true rfl) (Nat.le_of_ble_eq_true rfl) ⟨rfl, ev3⟩ dX2_gotByYard_21
set_option maxHeartbeats 4000000 in
set_option maxRecDepth 20000 in
theorem V_X2_wordValue_100_v (l : Launch) (D : va_G) (A : Nat → Prop) (ad : Nat → Nat) (ns : List Nat) (I : MI) (L : ML) (G : MG) (a0 : Int32) (a1 : Int32) (hG : SGC ns G) (hI : INV I) (ha0 : -13 ≤ a0.toInt ∧ a0.toInt ≤ -1) (ha1 : 0 ≤ a1.toInt ∧ a1.toInt ≤ 23) : Met l yX2_wordValue (wd yX2_wordValue cX2_wordValue 4 (some .long)) ({ frames := 2, cells := 0, slots := 0, locals := 43 }) (va_Pc [.ref (ad (20)), .ref (ad (100)), .int a0, .int a1] (PM D A ad ns I L G)) (va_Ql (fun r u => u = (ad, ns, I, L, G) ∧ (r = eC 100 I (a1).toNatClampNeg (-1 - a0.toInt).toNat)) (BM D A) A) 0 0 A := by
  refine m_ofW (by decide) (Nat.le_of_ble_eq_true rfl) ?_
  intro p e s m below meth c ls args hC hE hM hA hS hl
  obtain ⟨hx, hb, hml, hown, hts, hr, hlocks, hin⟩ := hC
  have km6 : (-6 : Int32).toInt = -6 := by decide
  have k0 : (0 : Int32).toInt = 0 := by decide
  have k2 : (2 : Int32).toInt = 2 := by decide
  have kl8 : (8 : Int64).toInt = 8 := by decide
  have hl : lv_has ls 4 [(0, .ref (ad (20))), (1, .ref (ad (100))), (2, .int (a0)), (3, .int (a1))] := hl
  refine lv_iload_n hx hb dX2_wordValue_0 rfl (lv_at hl 2 rfl) ?_
  by_cases c1 : (a0).toInt < -5 ∨ -1 < (a0).toInt
  · refine lv_tableOut (tgt := 89) hx hb dX2_wordValue_1 c1 (by decide) ?_
    refine lv_aload_n hx hb dX2_wordValue_89 rfl (lv_at hl 0 rfl) ?_
    refine lv_bipush (v := (-6)) hx hb dX2_wordValue_90 (by decide) ?_
    refine lv_iload_n hx hb dX2_wordValue_92 rfl (lv_at hl 2 rfl) ?_
    refine lv_isub hx hb dX2_wordValue_93 ?_
    refine lv_topi (fun v2 ev2 => ?_)
    have tv2 := a_sub ev2 (by omega) (by omega)
    refine m_calll (m_runV (20) (As := [.int (v2)]) (rest := []) hx hb hml hown hts hE hM hS hA ce_X2_gotByYard tb_776 (V_X2_gotByYard_v l D A ad ns I L G (v2) hG hI (by first | omega | decide)) rfl rfl ⟨Nat.le_of_ble_eq_true rfl, Nat.le_of_ble_eq_true rfl⟩ (hG.1 20 (by decide)) rfl rfl (by decide) rfl hl.1 rfl (Nat.le_of_ble_eq_true rfl) dX2_wordValue_94 ⟨Nat.le_of_ble_eq_true rfl, Nat.le_of_ble_eq_true rfl⟩) hS (fun r3 u H locs hw hM hS => ?_)
    obtain ⟨rfl, xr3⟩ := hw
    have hM : Mem D A ad ns I L G H := hM
    exact m_lret hx hb hr hlocks hM hS (Nat.le_of_ble_eq_true rfl) (Nat.le_of_ble_eq_true rfl) ⟨rfl, (by have hk : (-1 - a0.toInt).toNat = (v2).toNatClampNeg + 5 := (by have z := tn (i := v2) (by omega); omega); rw [hk]; exact xr3)⟩ dX2_wordValue_97
  · have qc1 : (a0).toInt = -5 ∨ (a0).toInt = -4 ∨ (a0).toInt = -3 ∨ (a0).toInt = -2 ∨ (a0).toInt = -1 := by omega
    rcases qc1 with qc1 | qc1 | qc1 | qc1 | qc1
    · refine lv_tableIn (off := 61) (tgt := 62) hx hb dX2_wordValue_1 (by omega) (by omega) (by rw [qc1]; rfl) (by decide) ?_
      refine lv_aload_n hx hb dX2_wordValue_62 rfl (lv_at hl 1 rfl) ?_
      refine lv_aload_n hx hb dX2_wordValue_63 rfl (lv_at hl 0 rfl) ?_
      refine m_geti (20) 3 hx hb hts hown hE oc2 hM (hG.1 20 (by decide)) rfl (by decide) rfl tb_188 dX2_wordValue_64 ?_
      have g4 := hI.get (20) 3 (lo := 0) (hi := 23) rfl
      refine m_calli (m_runV (100) (As := [.int (I (20) 3)]) (rest := []) hx hb hml hown hts hE hM hS hA ce_X8_isLit tb_767 (V_X8_isLit_100 l D A ad ns I L G (I (20) 3) hG hI) rfl rfl ⟨Nat.le_of_ble_eq_true rfl, Nat.le_of_ble_eq_true rfl⟩ (hG.1 100 (by decide)) rfl rfl (by decide) rfl hl.1 rfl (Nat.le_of_ble_eq_true rfl) dX2_wordValue_67 ⟨Nat.le_of_ble_eq_true rfl, Nat.le_of_ble_eq_true rfl⟩) hS (fun r5 u H locs hw hM hS => ?_)
      obtain ⟨rfl, xr5⟩ := hw
      have hM : Mem D A ad ns I L G H := hM
      have yr5 := bo01 xr5
      refine lv_if_eq (tgt := 85) hx hb dX2_wordValue_70 (by decide) (fun c6 => ?_) (fun c6 => ?_)
      · have hc6 := c6
        have q6 := xr5.f hc6
        refine lv_ldc2 (v := (8)) hx hb hown (hts _ tb_775) dX2_wordValue_85 ?_
        have hix : (-1 - a0.toInt).toNat = 4 := by omega
        exact m_lret hx hb hr hlocks hM hS (Nat.le_of_ble_eq_true rfl) (Nat.le_of_ble_eq_true rfl) ⟨rfl, (by rw [hix]; exact (if_neg q6).symm)⟩ dX2_wordValue_88
      · have hc6 := c6
        have q6 := xr5.t hc6
        have lh6 := q6.2.1
        refine lv_aload_n hx hb dX2_wordValue_73 rfl (lv_at hl 1 rfl) ?_
        refine lv_aload_n hx hb dX2_wordValue_74 rfl (lv_at hl 0 rfl) ?_
        refine m_geti (20) 3 hx hb hts hown hE oc2 hM (hG.1 20 (by decide)) rfl (by decide) rfl tb_188 dX2_wordValue_75 ?_
        refine m_calli (m_runV (100) (As := [.int (I (20) 3)]) (rest := []) hx hb hml hown hts hE hM hS hA ce_X8_wayOf tb_771 (V_X8_wayOf_100 l D A ad ns I L G (I (20) 3) hG hI (by first | omega | decide)) rfl rfl ⟨Nat.le_of_ble_eq_true rfl, Nat.le_of_ble_eq_true rfl⟩ (hG.1 100 (by decide)) rfl rfl (by decide) rfl hl.1 rfl (Nat.le_of_ble_eq_true rfl) dX2_wordValue_78 ⟨Nat.le_of_ble_eq_true rfl, Nat.le_of_ble_eq_true rfl⟩) hS (fun r7 u H locs hw hM hS => ?_)
        obtain ⟨rfl, xr7⟩ := hw
        have hM : Mem D A ad ns I L G H := hM
        have lzr7 := hI.get 105 ((I 100 5 * 24 + I (20) 3).toNatClampNeg) (lo := -1) (hi := 7) rfl
        rw [← xr7] at lzr7
        refine lv_i2l hx hb dX2_wordValue_81 rfl ?_
        refine lv_topl (fun v8 ev8 => ?_)
        have tv8 := q_i2l ev8
        refine lv_goto (tgt := 88) hx hb dX2_wordValue_82 (by decide) ?_
        have hix : (-1 - a0.toInt).toNat = 4 := by omega
        exact m_lret hx hb hr hlocks hM hS (Nat.le_of_ble_eq_true rfl) (Nat.le_of_ble_eq_true rfl) ⟨rfl, (by rw [hix]; exact (ev8.trans (congrArg Int32.toInt64 xr7)).trans (if_pos q6).symm)⟩ dX2_wordValue_88
    · refine lv_tableIn (off := 53) (tgt := 54) hx hb dX2_wordValue_1 (by omega) (by omega) (by rw [qc1]; rfl) (by decide) ?_
      refine lv_aload_n hx hb dX2_wordValue_54 rfl (lv_at hl 1 rfl) ?_
      refine lv_iload_n hx hb dX2_wordValue_55 rfl (lv_at hl 3 rfl) ?_
      refine lv_iconst (v := (2)) hx hb dX2_wordValue_56 (by decide) ?_
      refine m_calli (m_runV (100) (As := [.int (a1), .int (2)]) (rest := []) hx hb hml hown hts hE hM hS hA ce_X8_ofMirror tb_766 (V_X8_ofMirror_100_l l D A ad ns I L G (a1) (2) hG hI (by first | omega | decide) (by first | omega | decide)) rfl rfl ⟨Nat.le_of_ble_eq_true rfl, Nat.le_of_ble_eq_true rfl⟩ (hG.1 100 (by decide)) rfl rfl (by decide) rfl hl.1 rfl (Nat.le_of_ble_eq_true rfl) dX2_wordValue_57 ⟨Nat.le_of_ble_eq_true rfl, Nat.le_of_ble_eq_true rfl⟩) hS (fun r9 u H locs hw hM hS => ?_)
      obtain ⟨rfl, xr9⟩ := hw
      have hM : Mem D A ad ns I L G H := hM
      rw [show (2 : Int32).toNatClampNeg = 2 from rfl, show 24 * 2 = 48 from rfl] at xr9
      refine lv_i2l hx hb dX2_wordValue_60 rfl ?_
      refine lv_topl (fun v10 ev10 => ?_)
      have tv10 := q_i2l ev10
      have hix : (-1 - a0.toInt).toNat = 3 := by omega
      exact m_lret hx hb hr hlocks hM hS (Nat.le_of_ble_eq_true rfl) (Nat.le_of_ble_eq_true rfl) ⟨rfl, (by rw [hix]; exact ev10.trans (congrArg Int32.toInt64 xr9))⟩ dX2_wordValue_61
    · refine lv_tableIn (off := 47) (tgt := 48) hx hb dX2_wordValue_1 (by omega) (by omega) (by rw [qc1]; rfl) (by decide) ?_
      refine lv_aload_n hx hb dX2_wordValue_48 rfl (lv_at hl 1 rfl) ?_
      refine m_geti (100) 6 hx hb hts hown hE oc8 hM (hG.1 100 (by decide)) rfl (by decide) rfl tb_55 dX2_wordValue_49 ?_
      refine lv_i2l hx hb dX2_wordValue_52 rfl ?_
      refine lv_topl (fun v11 ev11 => ?_)
      have tv11 := q_i2l ev11
      have hix : (-1 - a0.toInt).toNat = 2 := by omega
      exact m_lret hx hb hr hlocks hM hS (Nat.le_of_ble_eq_true rfl) (Nat.le_of_ble_eq_true rfl) ⟨rfl, (by rw [hix]; exact ev11)⟩ dX2_wordValue_53
    · refine lv_tableIn (off := 41) (tgt := 42) hx hb dX2_wordValue_1 (by omega) (by omega) (by rw [qc1]; rfl) (by decide) ?_
      refine lv_aload_n hx hb dX2_wordValue_42 rfl (lv_at hl 1 rfl) ?_
      refine m_geti (100) 5 hx hb hts hown hE oc8 hM (hG.1 100 (by decide)) rfl (by decide) rfl tb_52 dX2_wordValue_43 ?_
      have g12 := hI.get (100) 5 (lo := 0) (hi := 11) rfl
      refine lv_i2l hx hb dX2_wordValue_46 rfl ?_
      refine lv_topl (fun v13 ev13 => ?_)
      have tv13 := q_i2l ev13
      have hix : (-1 - a0.toInt).toNat = 1 := by omega
      exact m_lret hx hb hr hlocks hM hS (Nat.le_of_ble_eq_true rfl) (Nat.le_of_ble_eq_true rfl) ⟨rfl, (by rw [hix]; exact ev13)⟩ dX2_wordValue_47
    · refine lv_tableIn (off := 35) (tgt := 36) hx hb dX2_wordValue_1 (by omega) (by omega) (by rw [qc1]; rfl) (by decide) ?_
      refine lv_aload_n hx hb dX2_wordValue_36 rfl (lv_at hl 0 rfl) ?_
      refine m_geti (20) 3 hx hb hts hown hE oc2 hM (hG.1 20 (by decide)) rfl (by decide) rfl tb_188 dX2_wordValue_37 ?_
      have g14 := hI.get (20) 3 (lo := 0) (hi := 23) rfl
      refine lv_i2l hx hb dX2_wordValue_40 rfl ?_
      refine lv_topl (fun v15 ev15 => ?_)
      have tv15 := q_i2l ev15
      have hix : (-1 - a0.toInt).toNat = 0 := by omega
      exact m_lret hx hb hr hlocks hM hS (Nat.le_of_ble_eq_true rfl) (Nat.le_of_ble_eq_true rfl) ⟨rfl, (by rw [hix]; exact ev15)⟩ dX2_wordValue_41
set_option maxHeartbeats 4000000 in
set_option maxRecDepth 20000 in
theorem V_X2_valueOf_100_v (l : Launch) (D : va_G) (A : Nat → Prop) (ad : Nat → Nat) (ns : List Nat) (I : MI) (L : ML) (G : MG) (tt : Bool) (w : Nat) (a0 : Int32) (a1 : Int32) (a2 : Int32) (hG : SGC ns G) (hI : INV I) (hW : LOK ns G w) (hle : a0.toInt ≤ a1.toInt) (hty : tyx (sgF (I (w + 1)) (a0).toNatClampNeg (a1.toInt - a0.toInt).toNat) [] = some [tt]) (hcv : cv (sgF (I (w + 1)) (a0).toNatClampNeg (a1.toInt - a0.toInt).toNat) ≤ 60) (ha0 : 0 ≤ a0.toInt ∧ a0.toInt ≤ 400) (ha1 : 0 ≤ a1.toInt ∧ a1.toInt ≤ 400) (ha2 : 0 ≤ a2.toInt ∧ a2.toInt ≤ 23) : Met l yX2_valueOf (wd yX2_valueOf cX2_valueOf 9 (some .long)) ({ frames := 3, cells := 0, slots := 0, locals := 66 }) (va_Pc [.ref (ad (20)), .ref (ad (100)), .ref (ad (w)), .int a0, .int a1, .int a2] (PM D A ad ns I L G)) (va_Ql (fun r u => ∃ I2 L2, u = (ad, ns, I2, L2, G) ∧ INV I2 ∧ Kp [] [] I I2 ∧ ((evl (eC 100 I (a2).toNatClampNeg) (sgF (I (w + 1)) (a0).toNatClampNeg (a1.toInt - a0.toInt).toNat) []) = [r])) (BM D A) A) 0 0 A := by
  refine m_ofW (by decide) (Nat.le_of_ble_eq_true rfl) ?_
  intro p e s m below meth c ls args hC hE hM hA hS hl
  obtain ⟨hx, hb, hml, hown, hts, hr, hlocks, hin⟩ := hC
  have km14 : (-14 : Int32).toInt = -14 := by decide
  have k0 : (0 : Int32).toInt = 0 := by decide
  have k1 : (1 : Int32).toInt = 1 := by decide
  have k2 : (2 : Int32).toInt = 2 := by decide
  have k64 : (64 : Int32).toInt = 64 := by decide
  have kl0 : (0 : Int64).toInt = 0 := by decide
  have kl1 : (1 : Int64).toInt = 1 := by decide
  have hK : Kp [] [] I I := Kp.rf
  have hl : lv_has ls 9 [(0, .ref (ad (20))), (1, .ref (ad (100))), (2, .ref (ad (w))), (3, .int (a0)), (4, .int (a1)), (5, .int (a2))] := hl
  refine lv_iconst (v := (0)) hx hb dX2_valueOf_0 (by decide) ?_
  refine lv_istore (lv' := [(6, .int (0)), (0, .ref (ad (20))), (1, .ref (ad (100))), (2, .ref (ad (w))), (3, .int (a0)), (4, .int (a1)), (5, .int (a2))]) hx hb dX2_valueOf_1 hl (by decide) rfl (fun ls hl => ?_)
  refine lv_iload_n hx hb dX2_valueOf_3 rfl (lv_at hl 4 rfl) ?_
  refine lv_istore (lv' := [(7, .int (a0)), (6, .int (0)), (0, .ref (ad (20))), (1, .ref (ad (100))), (2, .ref (ad (w))), (3, .int (a0)), (4, .int (a1)), (5, .int (a2))]) hx hb dX2_valueOf_4 hl (by decide) rfl (fun ls hl => ?_)
  have loop6 : ∀ (n : Nat) (x7_6 : Int32) (x6_6 : Int32) (Ia6 : MI) (La6 : ML) (H : Heap) (locs : List Loc) (ls : Array Slot), INV Ia6 → Kp [] [] I Ia6 → (0 ≤ x7_6.toInt ∧ x7_6.toInt ≤ 400) → (0 ≤ x6_6.toInt ∧ x6_6.toInt ≤ 64) → ((x7_6).toInt ≤ a1.toInt) → (EVI (eC 100 I (a2).toNatClampNeg) (I (w + 1)) (x7_6).toNatClampNeg (a1.toInt - (x7_6).toInt).toNat (stL (La6 22) (x6_6).toNatClampNeg) (evl (eC 100 I (a2).toNatClampNeg) (sgF (I (w + 1)) (a0).toNatClampNeg (a1.toInt - a0.toInt).toNat) []) [tt]) → (400 - x7_6.toInt).toNat < n → Mem D A ad ns Ia6 La6 G H → va_S A s.heap H locs → lv_has ls 9 [(7, .int (x7_6)), (6, .int (x6_6)), (0, .ref (ad (20))), (1, .ref (ad (100))), (2, .ref (ad (w))), (3, .int (a0)), (4, .int (a1)), (5, .int (a2))] → W p l e ({ frames := 3, cells := 0, slots := 0, locals := 66 } : Room) s m args below meth c H locs 0 0 (MQ below (va_Ql (fun r u => ∃ I2 L2, u = (ad, ns, I2, L2, G) ∧ INV I2 ∧ Kp [] [] I I2 ∧ ((evl (eC 100 I (a2).toNatClampNeg) (sgF (I (w + 1)) (a0).toNatClampNeg (a1.toInt - a0.toInt).toNat) []) = [r])) (BM D A) A) args s 0 0 A) (F0 m 6 ls []) := by
    intro n
    induction n with
    | zero =>
      intro x7_6 x6_6 Ia6 La6 H locs ls hI hK hr7_6 hr6_6 hle6 hev6 hmu
      exact absurd hmu (Nat.not_lt_zero _)
    | succ n ih6 =>
      intro x7_6 x6_6 Ia6 La6 H locs ls hI hK hr7_6 hr6_6 hle6 hev6 hmu6 hM hS hl
      refine lv_iload hx hb dX2_valueOf_6 (lv_at hl 0 rfl) ?_
      refine lv_iload hx hb dX2_valueOf_8 (lv_at hl 6 rfl) ?_
      refine lv_icmp_ge (tgt := 150) hx hb dX2_valueOf_10 (by decide) (fun c1 => ?_) (fun c1 => ?_)
      · have hc1 := c1
        have q1 := q_le hc1
        refine lv_iload hx hb dX2_valueOf_150 (lv_at hl 1 rfl) ?_
        refine lv_iconst (v := (1)) hx hb dX2_valueOf_152 (by decide) ?_
        refine lv_icmp_lt (tgt := 165) hx hb dX2_valueOf_153 (by decide) (fun c2 => ?_) (fun c2 => ?_)
        · have hc2 := c2
          have q2 := q_lt hc2
          refine lv_lconst (v := 0) hx hb dX2_valueOf_165 (by decide) ?_
          have zt6 := tn (i := x6_6) (by omega)
          have hfin := hev6
          rw [show (a1.toInt - (x7_6).toInt).toNat = 0 from by omega] at hfin
          have hf2 := hfin.fin
          rw [stL_len] at hf2
          exact m_lret hx hb hr hlocks hM hS (Nat.le_of_ble_eq_true rfl) (Nat.le_of_ble_eq_true rfl) ⟨_, _, rfl, hI, hK, (by exfalso; omega)⟩ dX2_valueOf_166
        · have hc2 := c2
          have q2 := q_nlt hc2
          refine lv_aload_n hx hb dX2_valueOf_156 rfl (lv_at hl 2 rfl) ?_
          refine m_getr (20) 2 (22) hx hb hts hown hE oc2 hM (hG.1 20 (by decide)) rfl (by decide) rfl (hG.2 (20, 2, 22) (by decide)) (by decide) tb_187 dX2_valueOf_157 ?_
          refine lv_iconst (v := (0)) hx hb dX2_valueOf_160 (by decide) ?_
          refine m_lald (22) hx hb hE hM (hG.1 22 (by decide)) rfl (vp_in_iff.mpr (by decide)) dX2_valueOf_161 ?_
          rw [show (0 : Int32).toNatClampNeg = 0 from rfl]
          refine lv_goto (tgt := 166) hx hb dX2_valueOf_162 (by decide) ?_
          have zt6 := tn (i := x6_6) (by omega)
          have hfin := hev6
          rw [show (a1.toInt - (x7_6).toInt).toNat = 0 from by omega] at hfin
          have hf2 := hfin.fin
          rw [stL_len] at hf2
          exact m_lret hx hb hr hlocks hM hS (Nat.le_of_ble_eq_true rfl) (Nat.le_of_ble_eq_true rfl) ⟨_, _, rfl, hI, hK, (by rw [hf2.1, hf2.2]; rfl)⟩ dX2_valueOf_166
      · have hc1 := c1
        have q1 := q_nle hc1
        have zt7 := tn (i := x7_6) (by omega)
        have zt6 := tn (i := x6_6) (by omega)
        have hV0 := hev6
        rw [show (a1.toInt - (x7_6).toInt).toNat = (a1.toInt - (x7_6).toInt - 1).toNat + 1 from by omega] at hV0
        obtain ⟨hV1, hV2, hV3, hV4, hopx⟩ := hV0.head
        rw [stL_len] at hV2 hV3 hV4
        have hII : Ia6 = I := funext fun n => funext fun k => hK n k rfl rfl
        refine lv_aload_n hx hb dX2_valueOf_13 rfl (lv_at hl 4 rfl) ?_
        refine m_getr (w) 0 (w + 1) hx hb hts hown hE oc3 hM hW.l (kW _ hW.1).1 (by decide) rfl (hW.2.2 0 (by decide)) (by have := lbw hW.1; omega) tb_370 dX2_valueOf_14 ?_
        refine lv_iload hx hb dX2_valueOf_17 (lv_at hl 0 rfl) ?_
        refine m_iald (w + 1) hx hb hE hM (hW.2.1 1 (by decide)) (kW _ hW.1).2.1 (vp_in_iff.mpr (by omega)) dX2_valueOf_19 ?_
        have hsg : (Ia6 (w + 1) (x7_6).toNatClampNeg).toInt = (I (w + 1) (x7_6).toNatClampNeg).toInt := by rw [hII]
        refine lv_istore (lv' := [(8, .int (Ia6 (w + 1) (x7_6).toNatClampNeg)), (7, .int (x7_6)), (6, .int (x6_6)), (0, .ref (ad (20))), (1, .ref (ad (100))), (2, .ref (ad (w))), (3, .int (a0)), (4, .int (a1)), (5, .int (a2))]) hx hb dX2_valueOf_20 hl (by decide) rfl (fun ls hl => ?_)
        refine lv_iload hx hb dX2_valueOf_22 (lv_at hl 0 rfl) ?_
        refine lv_bipush (v := (-14)) hx hb dX2_valueOf_24 (by decide) ?_
        refine lv_icmp_le (tgt := 69) hx hb dX2_valueOf_26 (by decide) (fun c3 => ?_) (fun c3 => ?_)
        · have hc3 := c3
          have q3 := q_le hc3
          refine lv_iload hx hb dX2_valueOf_69 (lv_at hl 0 rfl) ?_
          refine lv_bipush (v := (-14)) hx hb dX2_valueOf_71 (by decide) ?_
          refine lv_icmp_ne (tgt := 105) hx hb dX2_valueOf_73 (by decide) (fun c4 => ?_) (fun c4 => ?_)
          · have hc4 := c4
            have q4 := q_ne hc4
            refine lv_iload hx hb dX2_valueOf_105 (lv_at hl 2 rfl) ?_
            refine lv_iconst (v := (2)) hx hb dX2_valueOf_107 (by decide) ?_
            refine lv_icmp_lt (tgt := 144) hx hb dX2_valueOf_108 (by decide) (fun c5 => ?_) (fun c5 => ?_)
            · have hc5 := c5
              have q5 := q_lt hc5
              obtain ⟨v6, ev6⟩ : ∃ z : Int32, z = x7_6 + Int32.ofInt (1) := ⟨_, rfl⟩
              have tv6 := a_inc ev6 (by decide) (by omega) (by omega)
              refine lv_iinc (v := v6) (lv' := [(7, .int (v6)), (8, .int (Ia6 (w + 1) (x7_6).toNatClampNeg)), (6, .int (x6_6)), (0, .ref (ad (20))), (1, .ref (ad (100))), (2, .ref (ad (w))), (3, .int (a0)), (4, .int (a1)), (5, .int (a2))]) hx hb dX2_valueOf_144 hl (k := 1) rfl ev6.symm (by decide) rfl (fun ls hl => ?_)
              refine lv_goto (tgt := 6) hx hb dX2_valueOf_147 (by decide) ?_
              exact ih6 (v6) (x6_6) Ia6 La6 _ _ ls hI hK (by first | omega | decide) (by first | omega | decide) (by omega) (by exfalso; omega) (by omega) hM hS (lv_sub hl [0, 2, 3, 4, 5, 6, 7, 8] rfl)
            · have hc5 := c5
              have q5 := q_nlt hc5
              obtain ⟨v7, ev7⟩ : ∃ z : Int32, z = x6_6 + Int32.ofInt (-1) := ⟨_, rfl⟩
              have tv7 := a_inc ev7 (by decide) (by omega) (by omega)
              refine lv_iinc (v := v7) (lv' := [(6, .int (v7)), (8, .int (Ia6 (w + 1) (x7_6).toNatClampNeg)), (7, .int (x7_6)), (0, .ref (ad (20))), (1, .ref (ad (100))), (2, .ref (ad (w))), (3, .int (a0)), (4, .int (a1)), (5, .int (a2))]) hx hb dX2_valueOf_111 hl (k := 2) rfl ev7.symm (by decide) rfl (fun ls hl => ?_)
              refine lv_aload_n hx hb dX2_valueOf_114 rfl (lv_at hl 3 rfl) ?_
              refine m_getr (20) 2 (22) hx hb hts hown hE oc2 hM (hG.1 20 (by decide)) rfl (by decide) rfl (hG.2 (20, 2, 22) (by decide)) (by decide) tb_187 dX2_valueOf_115 ?_
              refine lv_iload hx hb dX2_valueOf_118 (lv_at hl 0 rfl) ?_
              refine lv_iconst (v := (1)) hx hb dX2_valueOf_120 (by decide) ?_
              refine lv_isub hx hb dX2_valueOf_121 ?_
              refine lv_topi (fun v8 ev8 => ?_)
              have tv8 := a_sub ev8 (by omega) (by omega)
              refine lv_iload hx hb dX2_valueOf_122 (lv_at hl 1 rfl) ?_
              refine lv_aload_n hx hb dX2_valueOf_124 rfl (lv_at hl 3 rfl) ?_
              refine m_getr (20) 2 (22) hx hb hts hown hE oc2 hM (hG.1 20 (by decide)) rfl (by decide) rfl (hG.2 (20, 2, 22) (by decide)) (by decide) tb_187 dX2_valueOf_125 ?_
              refine lv_iload hx hb dX2_valueOf_128 (lv_at hl 0 rfl) ?_
              refine lv_iconst (v := (1)) hx hb dX2_valueOf_130 (by decide) ?_
              refine lv_isub hx hb dX2_valueOf_131 ?_
              refine lv_topi (fun v9 ev9 => ?_)
              have tv9 := a_sub ev9 (by omega) (by omega)
              refine m_lald (22) hx hb hE hM (hG.1 22 (by decide)) rfl (vp_in_iff.mpr (by omega)) dX2_valueOf_132 ?_
              refine lv_aload_n hx hb dX2_valueOf_133 rfl (lv_at hl 3 rfl) ?_
              refine m_getr (20) 2 (22) hx hb hts hown hE oc2 hM (hG.1 20 (by decide)) rfl (by decide) rfl (hG.2 (20, 2, 22) (by decide)) (by decide) tb_187 dX2_valueOf_134 ?_
              refine lv_iload hx hb dX2_valueOf_137 (lv_at hl 0 rfl) ?_
              refine m_lald (22) hx hb hE hM (hG.1 22 (by decide)) rfl (vp_in_iff.mpr (by omega)) dX2_valueOf_139 ?_
              refine m_calll (m_runS (As := [.int (Ia6 (w + 1) (x7_6).toNatClampNeg), .long (La6 (22) (v9).toNatClampNeg), .long (La6 (22) (v7).toNatClampNeg)]) (rest := [.int (v8), .ref (ad (22))]) hx hb hml hown hts hE hM hS hA ce_X2_join tb_781 (V_X2_join_v l D A ad ns Ia6 La6 G (Ia6 (w + 1) (x7_6).toNatClampNeg) (La6 (22) (v9).toNatClampNeg) (La6 (22) (v7).toNatClampNeg) hI (by first | omega | decide)) rfl rfl ⟨Nat.le_of_ble_eq_true rfl, Nat.le_of_ble_eq_true rfl⟩  rfl hl.1 rfl (Nat.le_of_ble_eq_true rfl) dX2_valueOf_140 ⟨Nat.le_of_ble_eq_true rfl, Nat.le_of_ble_eq_true rfl⟩) hS (fun r10 u H locs hw hM hS => ?_)
              obtain ⟨rfl, xr10⟩ := hw
              have hM : Mem D A ad ns Ia6 La6 G H := hM
              refine m_last (22) hx hb hE hM hS (hG.1 22 (by decide)) rfl (vp_in_iff.mpr (by omega)) dX2_valueOf_143 (fun H locs L11 eL11 hM hS => ?_)
              obtain ⟨v12, ev12⟩ : ∃ z : Int32, z = x7_6 + Int32.ofInt (1) := ⟨_, rfl⟩
              have tv12 := a_inc ev12 (by decide) (by omega) (by omega)
              refine lv_iinc (v := v12) (lv' := [(7, .int (v12)), (6, .int (v7)), (8, .int (Ia6 (w + 1) (x7_6).toNatClampNeg)), (0, .ref (ad (20))), (1, .ref (ad (100))), (2, .ref (ad (w))), (3, .int (a0)), (4, .int (a1)), (5, .int (a2))]) hx hb dX2_valueOf_144 hl (k := 2) rfl ev12.symm (by decide) rfl (fun ls hl => ?_)
              refine lv_goto (tgt := 6) hx hb dX2_valueOf_147 (by decide) ?_
              exact ih6 (v12) (v7) Ia6 L11 _ _ ls hI hK (by first | omega | decide) (by first | omega | decide) (by omega) (by rw [show (v12).toNatClampNeg = (x7_6).toNatClampNeg + 1 from (by have z := tn (i := v12) (by omega); omega), show (a1.toInt - (v12).toInt).toNat = (a1.toInt - (x7_6).toInt - 1).toNat from (by omega)]; have hh := hV1; rw [← hsg] at hh; rw [show (x6_6).toNatClampNeg = (v8).toNatClampNeg + 2 from (by have z := tn (i := v8) (by omega); omega)] at hh; rw [show (v7).toNatClampNeg = (v8).toNatClampNeg + 1 from (by have z := tn (i := v8) (by omega); have z2 := tn (i := v7) (by omega); omega), eL11, ev_jn (e := (eC 100 I (a2).toNatClampNeg)) (c := (Ia6 (w + 1) (x7_6).toNatClampNeg).toInt) (by omega) (by rw [xr10, show (v9).toNatClampNeg = (v8).toNatClampNeg from (by have z := tn (i := v9) (by omega); have z2 := tn (i := v8) (by omega); omega), show (v7).toNatClampNeg = (v8).toNatClampNeg + 1 from (by have z := tn (i := v8) (by omega); have z2 := tn (i := v7) (by omega); omega)])]; exact hh) (by omega) hM hS (lv_sub hl [0, 1, 3, 4, 5, 6, 7, 8] rfl)
          · have hc4 := c4
            have q4 := q_eq hc4
            refine lv_iload hx hb dX2_valueOf_76 (lv_at hl 2 rfl) ?_
            refine lv_iconst (v := (1)) hx hb dX2_valueOf_78 (by decide) ?_
            refine lv_icmp_lt (tgt := 105) hx hb dX2_valueOf_79 (by decide) (fun c13 => ?_) (fun c13 => ?_)
            · have hc13 := c13
              have q13 := q_lt hc13
              refine lv_iload hx hb dX2_valueOf_105 (lv_at hl 2 rfl) ?_
              refine lv_iconst (v := (2)) hx hb dX2_valueOf_107 (by decide) ?_
              refine lv_icmp_lt (tgt := 144) hx hb dX2_valueOf_108 (by decide) (fun c14 => ?_) (fun c14 => ?_)
              · have hc14 := c14
                have q14 := q_lt hc14
                obtain ⟨v15, ev15⟩ : ∃ z : Int32, z = x7_6 + Int32.ofInt (1) := ⟨_, rfl⟩
                have tv15 := a_inc ev15 (by decide) (by omega) (by omega)
                refine lv_iinc (v := v15) (lv' := [(7, .int (v15)), (8, .int (Ia6 (w + 1) (x7_6).toNatClampNeg)), (6, .int (x6_6)), (0, .ref (ad (20))), (1, .ref (ad (100))), (2, .ref (ad (w))), (3, .int (a0)), (4, .int (a1)), (5, .int (a2))]) hx hb dX2_valueOf_144 hl (k := 1) rfl ev15.symm (by decide) rfl (fun ls hl => ?_)
                refine lv_goto (tgt := 6) hx hb dX2_valueOf_147 (by decide) ?_
                exact ih6 (v15) (x6_6) Ia6 La6 _ _ ls hI hK (by first | omega | decide) (by first | omega | decide) (by omega) (by exfalso; omega) (by omega) hM hS (lv_sub hl [0, 2, 3, 4, 5, 6, 7, 8] rfl)
              · have hc14 := c14
                have q14 := q_nlt hc14
                obtain ⟨v16, ev16⟩ : ∃ z : Int32, z = x6_6 + Int32.ofInt (-1) := ⟨_, rfl⟩
                have tv16 := a_inc ev16 (by decide) (by omega) (by omega)
                refine lv_iinc (v := v16) (lv' := [(6, .int (v16)), (8, .int (Ia6 (w + 1) (x7_6).toNatClampNeg)), (7, .int (x7_6)), (0, .ref (ad (20))), (1, .ref (ad (100))), (2, .ref (ad (w))), (3, .int (a0)), (4, .int (a1)), (5, .int (a2))]) hx hb dX2_valueOf_111 hl (k := 2) rfl ev16.symm (by decide) rfl (fun ls hl => ?_)
                refine lv_aload_n hx hb dX2_valueOf_114 rfl (lv_at hl 3 rfl) ?_
                refine m_getr (20) 2 (22) hx hb hts hown hE oc2 hM (hG.1 20 (by decide)) rfl (by decide) rfl (hG.2 (20, 2, 22) (by decide)) (by decide) tb_187 dX2_valueOf_115 ?_
                refine lv_iload hx hb dX2_valueOf_118 (lv_at hl 0 rfl) ?_
                refine lv_iconst (v := (1)) hx hb dX2_valueOf_120 (by decide) ?_
                refine lv_isub hx hb dX2_valueOf_121 ?_
                refine lv_topi (fun v17 ev17 => ?_)
                have tv17 := a_sub ev17 (by omega) (by omega)
                refine lv_iload hx hb dX2_valueOf_122 (lv_at hl 1 rfl) ?_
                refine lv_aload_n hx hb dX2_valueOf_124 rfl (lv_at hl 3 rfl) ?_
                refine m_getr (20) 2 (22) hx hb hts hown hE oc2 hM (hG.1 20 (by decide)) rfl (by decide) rfl (hG.2 (20, 2, 22) (by decide)) (by decide) tb_187 dX2_valueOf_125 ?_
                refine lv_iload hx hb dX2_valueOf_128 (lv_at hl 0 rfl) ?_
                refine lv_iconst (v := (1)) hx hb dX2_valueOf_130 (by decide) ?_
                refine lv_isub hx hb dX2_valueOf_131 ?_
                refine lv_topi (fun v18 ev18 => ?_)
                have tv18 := a_sub ev18 (by omega) (by omega)
                refine m_lald (22) hx hb hE hM (hG.1 22 (by decide)) rfl (vp_in_iff.mpr (by omega)) dX2_valueOf_132 ?_
                refine lv_aload_n hx hb dX2_valueOf_133 rfl (lv_at hl 3 rfl) ?_
                refine m_getr (20) 2 (22) hx hb hts hown hE oc2 hM (hG.1 20 (by decide)) rfl (by decide) rfl (hG.2 (20, 2, 22) (by decide)) (by decide) tb_187 dX2_valueOf_134 ?_
                refine lv_iload hx hb dX2_valueOf_137 (lv_at hl 0 rfl) ?_
                refine m_lald (22) hx hb hE hM (hG.1 22 (by decide)) rfl (vp_in_iff.mpr (by omega)) dX2_valueOf_139 ?_
                refine m_calll (m_runS (As := [.int (Ia6 (w + 1) (x7_6).toNatClampNeg), .long (La6 (22) (v18).toNatClampNeg), .long (La6 (22) (v16).toNatClampNeg)]) (rest := [.int (v17), .ref (ad (22))]) hx hb hml hown hts hE hM hS hA ce_X2_join tb_781 (V_X2_join_v l D A ad ns Ia6 La6 G (Ia6 (w + 1) (x7_6).toNatClampNeg) (La6 (22) (v18).toNatClampNeg) (La6 (22) (v16).toNatClampNeg) hI (by first | omega | decide)) rfl rfl ⟨Nat.le_of_ble_eq_true rfl, Nat.le_of_ble_eq_true rfl⟩  rfl hl.1 rfl (Nat.le_of_ble_eq_true rfl) dX2_valueOf_140 ⟨Nat.le_of_ble_eq_true rfl, Nat.le_of_ble_eq_true rfl⟩) hS (fun r19 u H locs hw hM hS => ?_)
                obtain ⟨rfl, xr19⟩ := hw
                have hM : Mem D A ad ns Ia6 La6 G H := hM
                refine m_last (22) hx hb hE hM hS (hG.1 22 (by decide)) rfl (vp_in_iff.mpr (by omega)) dX2_valueOf_143 (fun H locs L20 eL20 hM hS => ?_)
                obtain ⟨v21, ev21⟩ : ∃ z : Int32, z = x7_6 + Int32.ofInt (1) := ⟨_, rfl⟩
                have tv21 := a_inc ev21 (by decide) (by omega) (by omega)
                refine lv_iinc (v := v21) (lv' := [(7, .int (v21)), (6, .int (v16)), (8, .int (Ia6 (w + 1) (x7_6).toNatClampNeg)), (0, .ref (ad (20))), (1, .ref (ad (100))), (2, .ref (ad (w))), (3, .int (a0)), (4, .int (a1)), (5, .int (a2))]) hx hb dX2_valueOf_144 hl (k := 2) rfl ev21.symm (by decide) rfl (fun ls hl => ?_)
                refine lv_goto (tgt := 6) hx hb dX2_valueOf_147 (by decide) ?_
                exact ih6 (v21) (v16) Ia6 L20 _ _ ls hI hK (by first | omega | decide) (by first | omega | decide) (by omega) (by rw [show (v21).toNatClampNeg = (x7_6).toNatClampNeg + 1 from (by have z := tn (i := v21) (by omega); omega), show (a1.toInt - (v21).toInt).toNat = (a1.toInt - (x7_6).toInt - 1).toNat from (by omega)]; have hh := hV1; rw [← hsg] at hh; rw [show (x6_6).toNatClampNeg = (v17).toNatClampNeg + 2 from (by have z := tn (i := v17) (by omega); omega)] at hh; rw [show (v16).toNatClampNeg = (v17).toNatClampNeg + 1 from (by have z := tn (i := v17) (by omega); have z2 := tn (i := v16) (by omega); omega), eL20, ev_jn (e := (eC 100 I (a2).toNatClampNeg)) (c := (Ia6 (w + 1) (x7_6).toNatClampNeg).toInt) (by omega) (by rw [xr19, show (v18).toNatClampNeg = (v17).toNatClampNeg from (by have z := tn (i := v18) (by omega); have z2 := tn (i := v17) (by omega); omega), show (v16).toNatClampNeg = (v17).toNatClampNeg + 1 from (by have z := tn (i := v17) (by omega); have z2 := tn (i := v16) (by omega); omega)])]; exact hh) (by omega) hM hS (lv_sub hl [0, 1, 3, 4, 5, 6, 7, 8] rfl)
            · have hc13 := c13
              have q13 := q_nlt hc13
              refine lv_aload_n hx hb dX2_valueOf_82 rfl (lv_at hl 3 rfl) ?_
              refine m_getr (20) 2 (22) hx hb hts hown hE oc2 hM (hG.1 20 (by decide)) rfl (by decide) rfl (hG.2 (20, 2, 22) (by decide)) (by decide) tb_187 dX2_valueOf_83 ?_
              refine lv_iload hx hb dX2_valueOf_86 (lv_at hl 2 rfl) ?_
              refine lv_iconst (v := (1)) hx hb dX2_valueOf_88 (by decide) ?_
              refine lv_isub hx hb dX2_valueOf_89 ?_
              refine lv_topi (fun v22 ev22 => ?_)
              have tv22 := a_sub ev22 (by omega) (by omega)
              refine lv_lconst (v := 1) hx hb dX2_valueOf_90 (by decide) ?_
              refine lv_aload_n hx hb dX2_valueOf_91 rfl (lv_at hl 3 rfl) ?_
              refine m_getr (20) 2 (22) hx hb hts hown hE oc2 hM (hG.1 20 (by decide)) rfl (by decide) rfl (hG.2 (20, 2, 22) (by decide)) (by decide) tb_187 dX2_valueOf_92 ?_
              refine lv_iload hx hb dX2_valueOf_95 (lv_at hl 2 rfl) ?_
              refine lv_iconst (v := (1)) hx hb dX2_valueOf_97 (by decide) ?_
              refine lv_isub hx hb dX2_valueOf_98 ?_
              refine lv_topi (fun v23 ev23 => ?_)
              have tv23 := a_sub ev23 (by omega) (by omega)
              refine m_lald (22) hx hb hE hM (hG.1 22 (by decide)) rfl (vp_in_iff.mpr (by omega)) dX2_valueOf_99 ?_
              refine lv_lsub hx hb dX2_valueOf_100 ?_
              refine lv_topl (fun v24 ev24 => ?_)
              refine m_last (22) hx hb hE hM hS (hG.1 22 (by decide)) rfl (vp_in_iff.mpr (by omega)) dX2_valueOf_101 (fun H locs L25 eL25 hM hS => ?_)
              refine lv_goto (tgt := 144) hx hb dX2_valueOf_102 (by decide) ?_
              obtain ⟨v26, ev26⟩ : ∃ z : Int32, z = x7_6 + Int32.ofInt (1) := ⟨_, rfl⟩
              have tv26 := a_inc ev26 (by decide) (by omega) (by omega)
              refine lv_iinc (v := v26) (lv' := [(7, .int (v26)), (8, .int (Ia6 (w + 1) (x7_6).toNatClampNeg)), (6, .int (x6_6)), (0, .ref (ad (20))), (1, .ref (ad (100))), (2, .ref (ad (w))), (3, .int (a0)), (4, .int (a1)), (5, .int (a2))]) hx hb dX2_valueOf_144 hl (k := 1) rfl ev26.symm (by decide) rfl (fun ls hl => ?_)
              refine lv_goto (tgt := 6) hx hb dX2_valueOf_147 (by decide) ?_
              exact ih6 (v26) (x6_6) Ia6 L25 _ _ ls hI hK (by first | omega | decide) (by first | omega | decide) (by omega) (by rw [show (v26).toNatClampNeg = (x7_6).toNatClampNeg + 1 from (by have z := tn (i := v26) (by omega); omega), show (a1.toInt - (v26).toInt).toNat = (a1.toInt - (x7_6).toInt - 1).toNat from (by omega)]; have hh := hV1; rw [← hsg] at hh; rw [show (x6_6).toNatClampNeg = (v22).toNatClampNeg + 1 from (by have z := tn (i := v22) (by omega); omega)] at hh ⊢; rw [eL25, ev_not (e := (eC 100 I (a2).toNatClampNeg)) (by rw [ev24, show (v23).toNatClampNeg = (v22).toNatClampNeg from (by have z := tn (i := v23) (by omega); have z2 := tn (i := v22) (by omega); omega)])]; rw [show (Ia6 (w + 1) (x7_6).toNatClampNeg).toInt = -14 from (by omega)] at hh; exact hh) (by omega) hM hS (lv_sub hl [0, 2, 3, 4, 5, 6, 7, 8] rfl)
        · have hc3 := c3
          have q3 := q_nle hc3
          refine lv_iload hx hb dX2_valueOf_29 (lv_at hl 2 rfl) ?_
          refine lv_bipush (v := (64)) hx hb dX2_valueOf_31 (by decide) ?_
          refine lv_icmp_ge (tgt := 69) hx hb dX2_valueOf_33 (by decide) (fun c27 => ?_) (fun c27 => ?_)
          · have hc27 := c27
            have q27 := q_le hc27
            refine lv_iload hx hb dX2_valueOf_69 (lv_at hl 0 rfl) ?_
            refine lv_bipush (v := (-14)) hx hb dX2_valueOf_71 (by decide) ?_
            refine lv_icmp_ne (tgt := 105) hx hb dX2_valueOf_73 (by decide) (fun c28 => ?_) (fun c28 => ?_)
            · have hc28 := c28
              have q28 := q_ne hc28
              refine lv_iload hx hb dX2_valueOf_105 (lv_at hl 2 rfl) ?_
              refine lv_iconst (v := (2)) hx hb dX2_valueOf_107 (by decide) ?_
              refine lv_icmp_lt (tgt := 144) hx hb dX2_valueOf_108 (by decide) (fun c29 => ?_) (fun c29 => ?_)
              · have hc29 := c29
                have q29 := q_lt hc29
                obtain ⟨v30, ev30⟩ : ∃ z : Int32, z = x7_6 + Int32.ofInt (1) := ⟨_, rfl⟩
                have tv30 := a_inc ev30 (by decide) (by omega) (by omega)
                refine lv_iinc (v := v30) (lv' := [(7, .int (v30)), (8, .int (Ia6 (w + 1) (x7_6).toNatClampNeg)), (6, .int (x6_6)), (0, .ref (ad (20))), (1, .ref (ad (100))), (2, .ref (ad (w))), (3, .int (a0)), (4, .int (a1)), (5, .int (a2))]) hx hb dX2_valueOf_144 hl (k := 1) rfl ev30.symm (by decide) rfl (fun ls hl => ?_)
                refine lv_goto (tgt := 6) hx hb dX2_valueOf_147 (by decide) ?_
                exact ih6 (v30) (x6_6) Ia6 La6 _ _ ls hI hK (by first | omega | decide) (by first | omega | decide) (by omega) (by exfalso; omega) (by omega) hM hS (lv_sub hl [0, 2, 3, 4, 5, 6, 7, 8] rfl)
              · have hc29 := c29
                have q29 := q_nlt hc29
                obtain ⟨v31, ev31⟩ : ∃ z : Int32, z = x6_6 + Int32.ofInt (-1) := ⟨_, rfl⟩
                have tv31 := a_inc ev31 (by decide) (by omega) (by omega)
                refine lv_iinc (v := v31) (lv' := [(6, .int (v31)), (8, .int (Ia6 (w + 1) (x7_6).toNatClampNeg)), (7, .int (x7_6)), (0, .ref (ad (20))), (1, .ref (ad (100))), (2, .ref (ad (w))), (3, .int (a0)), (4, .int (a1)), (5, .int (a2))]) hx hb dX2_valueOf_111 hl (k := 2) rfl ev31.symm (by decide) rfl (fun ls hl => ?_)
                refine lv_aload_n hx hb dX2_valueOf_114 rfl (lv_at hl 3 rfl) ?_
                refine m_getr (20) 2 (22) hx hb hts hown hE oc2 hM (hG.1 20 (by decide)) rfl (by decide) rfl (hG.2 (20, 2, 22) (by decide)) (by decide) tb_187 dX2_valueOf_115 ?_
                refine lv_iload hx hb dX2_valueOf_118 (lv_at hl 0 rfl) ?_
                refine lv_iconst (v := (1)) hx hb dX2_valueOf_120 (by decide) ?_
                refine lv_isub hx hb dX2_valueOf_121 ?_
                refine lv_topi (fun v32 ev32 => ?_)
                have tv32 := a_sub ev32 (by omega) (by omega)
                refine lv_iload hx hb dX2_valueOf_122 (lv_at hl 1 rfl) ?_
                refine lv_aload_n hx hb dX2_valueOf_124 rfl (lv_at hl 3 rfl) ?_
                refine m_getr (20) 2 (22) hx hb hts hown hE oc2 hM (hG.1 20 (by decide)) rfl (by decide) rfl (hG.2 (20, 2, 22) (by decide)) (by decide) tb_187 dX2_valueOf_125 ?_
                refine lv_iload hx hb dX2_valueOf_128 (lv_at hl 0 rfl) ?_
                refine lv_iconst (v := (1)) hx hb dX2_valueOf_130 (by decide) ?_
                refine lv_isub hx hb dX2_valueOf_131 ?_
                refine lv_topi (fun v33 ev33 => ?_)
                have tv33 := a_sub ev33 (by omega) (by omega)
                refine m_lald (22) hx hb hE hM (hG.1 22 (by decide)) rfl (vp_in_iff.mpr (by omega)) dX2_valueOf_132 ?_
                refine lv_aload_n hx hb dX2_valueOf_133 rfl (lv_at hl 3 rfl) ?_
                refine m_getr (20) 2 (22) hx hb hts hown hE oc2 hM (hG.1 20 (by decide)) rfl (by decide) rfl (hG.2 (20, 2, 22) (by decide)) (by decide) tb_187 dX2_valueOf_134 ?_
                refine lv_iload hx hb dX2_valueOf_137 (lv_at hl 0 rfl) ?_
                refine m_lald (22) hx hb hE hM (hG.1 22 (by decide)) rfl (vp_in_iff.mpr (by omega)) dX2_valueOf_139 ?_
                refine m_calll (m_runS (As := [.int (Ia6 (w + 1) (x7_6).toNatClampNeg), .long (La6 (22) (v33).toNatClampNeg), .long (La6 (22) (v31).toNatClampNeg)]) (rest := [.int (v32), .ref (ad (22))]) hx hb hml hown hts hE hM hS hA ce_X2_join tb_781 (V_X2_join_v l D A ad ns Ia6 La6 G (Ia6 (w + 1) (x7_6).toNatClampNeg) (La6 (22) (v33).toNatClampNeg) (La6 (22) (v31).toNatClampNeg) hI (by first | omega | decide)) rfl rfl ⟨Nat.le_of_ble_eq_true rfl, Nat.le_of_ble_eq_true rfl⟩  rfl hl.1 rfl (Nat.le_of_ble_eq_true rfl) dX2_valueOf_140 ⟨Nat.le_of_ble_eq_true rfl, Nat.le_of_ble_eq_true rfl⟩) hS (fun r34 u H locs hw hM hS => ?_)
                obtain ⟨rfl, xr34⟩ := hw
                have hM : Mem D A ad ns Ia6 La6 G H := hM
                refine m_last (22) hx hb hE hM hS (hG.1 22 (by decide)) rfl (vp_in_iff.mpr (by omega)) dX2_valueOf_143 (fun H locs L35 eL35 hM hS => ?_)
                obtain ⟨v36, ev36⟩ : ∃ z : Int32, z = x7_6 + Int32.ofInt (1) := ⟨_, rfl⟩
                have tv36 := a_inc ev36 (by decide) (by omega) (by omega)
                refine lv_iinc (v := v36) (lv' := [(7, .int (v36)), (6, .int (v31)), (8, .int (Ia6 (w + 1) (x7_6).toNatClampNeg)), (0, .ref (ad (20))), (1, .ref (ad (100))), (2, .ref (ad (w))), (3, .int (a0)), (4, .int (a1)), (5, .int (a2))]) hx hb dX2_valueOf_144 hl (k := 2) rfl ev36.symm (by decide) rfl (fun ls hl => ?_)
                refine lv_goto (tgt := 6) hx hb dX2_valueOf_147 (by decide) ?_
                exact ih6 (v36) (v31) Ia6 L35 _ _ ls hI hK (by first | omega | decide) (by first | omega | decide) (by omega) (by rw [show (v36).toNatClampNeg = (x7_6).toNatClampNeg + 1 from (by have z := tn (i := v36) (by omega); omega), show (a1.toInt - (v36).toInt).toNat = (a1.toInt - (x7_6).toInt - 1).toNat from (by omega)]; have hh := hV1; rw [← hsg] at hh; rw [show (x6_6).toNatClampNeg = (v32).toNatClampNeg + 2 from (by have z := tn (i := v32) (by omega); omega)] at hh; rw [show (v31).toNatClampNeg = (v32).toNatClampNeg + 1 from (by have z := tn (i := v32) (by omega); have z2 := tn (i := v31) (by omega); omega), eL35, ev_jn (e := (eC 100 I (a2).toNatClampNeg)) (c := (Ia6 (w + 1) (x7_6).toNatClampNeg).toInt) (by omega) (by rw [xr34, show (v33).toNatClampNeg = (v32).toNatClampNeg from (by have z := tn (i := v33) (by omega); have z2 := tn (i := v32) (by omega); omega), show (v31).toNatClampNeg = (v32).toNatClampNeg + 1 from (by have z := tn (i := v32) (by omega); have z2 := tn (i := v31) (by omega); omega)])]; exact hh) (by omega) hM hS (lv_sub hl [0, 1, 3, 4, 5, 6, 7, 8] rfl)
            · have hc28 := c28
              have q28 := q_eq hc28
              refine lv_iload hx hb dX2_valueOf_76 (lv_at hl 2 rfl) ?_
              refine lv_iconst (v := (1)) hx hb dX2_valueOf_78 (by decide) ?_
              refine lv_icmp_lt (tgt := 105) hx hb dX2_valueOf_79 (by decide) (fun c37 => ?_) (fun c37 => ?_)
              · have hc37 := c37
                have q37 := q_lt hc37
                refine lv_iload hx hb dX2_valueOf_105 (lv_at hl 2 rfl) ?_
                refine lv_iconst (v := (2)) hx hb dX2_valueOf_107 (by decide) ?_
                refine lv_icmp_lt (tgt := 144) hx hb dX2_valueOf_108 (by decide) (fun c38 => ?_) (fun c38 => ?_)
                · have hc38 := c38
                  have q38 := q_lt hc38
                  obtain ⟨v39, ev39⟩ : ∃ z : Int32, z = x7_6 + Int32.ofInt (1) := ⟨_, rfl⟩
                  have tv39 := a_inc ev39 (by decide) (by omega) (by omega)
                  refine lv_iinc (v := v39) (lv' := [(7, .int (v39)), (8, .int (Ia6 (w + 1) (x7_6).toNatClampNeg)), (6, .int (x6_6)), (0, .ref (ad (20))), (1, .ref (ad (100))), (2, .ref (ad (w))), (3, .int (a0)), (4, .int (a1)), (5, .int (a2))]) hx hb dX2_valueOf_144 hl (k := 1) rfl ev39.symm (by decide) rfl (fun ls hl => ?_)
                  refine lv_goto (tgt := 6) hx hb dX2_valueOf_147 (by decide) ?_
                  exact ih6 (v39) (x6_6) Ia6 La6 _ _ ls hI hK (by first | omega | decide) (by first | omega | decide) (by omega) (by exfalso; omega) (by omega) hM hS (lv_sub hl [0, 2, 3, 4, 5, 6, 7, 8] rfl)
                · have hc38 := c38
                  have q38 := q_nlt hc38
                  obtain ⟨v40, ev40⟩ : ∃ z : Int32, z = x6_6 + Int32.ofInt (-1) := ⟨_, rfl⟩
                  have tv40 := a_inc ev40 (by decide) (by omega) (by omega)
                  refine lv_iinc (v := v40) (lv' := [(6, .int (v40)), (8, .int (Ia6 (w + 1) (x7_6).toNatClampNeg)), (7, .int (x7_6)), (0, .ref (ad (20))), (1, .ref (ad (100))), (2, .ref (ad (w))), (3, .int (a0)), (4, .int (a1)), (5, .int (a2))]) hx hb dX2_valueOf_111 hl (k := 2) rfl ev40.symm (by decide) rfl (fun ls hl => ?_)
                  refine lv_aload_n hx hb dX2_valueOf_114 rfl (lv_at hl 3 rfl) ?_
                  refine m_getr (20) 2 (22) hx hb hts hown hE oc2 hM (hG.1 20 (by decide)) rfl (by decide) rfl (hG.2 (20, 2, 22) (by decide)) (by decide) tb_187 dX2_valueOf_115 ?_
                  refine lv_iload hx hb dX2_valueOf_118 (lv_at hl 0 rfl) ?_
                  refine lv_iconst (v := (1)) hx hb dX2_valueOf_120 (by decide) ?_
                  refine lv_isub hx hb dX2_valueOf_121 ?_
                  refine lv_topi (fun v41 ev41 => ?_)
                  have tv41 := a_sub ev41 (by omega) (by omega)
                  refine lv_iload hx hb dX2_valueOf_122 (lv_at hl 1 rfl) ?_
                  refine lv_aload_n hx hb dX2_valueOf_124 rfl (lv_at hl 3 rfl) ?_
                  refine m_getr (20) 2 (22) hx hb hts hown hE oc2 hM (hG.1 20 (by decide)) rfl (by decide) rfl (hG.2 (20, 2, 22) (by decide)) (by decide) tb_187 dX2_valueOf_125 ?_
                  refine lv_iload hx hb dX2_valueOf_128 (lv_at hl 0 rfl) ?_
                  refine lv_iconst (v := (1)) hx hb dX2_valueOf_130 (by decide) ?_
                  refine lv_isub hx hb dX2_valueOf_131 ?_
                  refine lv_topi (fun v42 ev42 => ?_)
                  have tv42 := a_sub ev42 (by omega) (by omega)
                  refine m_lald (22) hx hb hE hM (hG.1 22 (by decide)) rfl (vp_in_iff.mpr (by omega)) dX2_valueOf_132 ?_
                  refine lv_aload_n hx hb dX2_valueOf_133 rfl (lv_at hl 3 rfl) ?_
                  refine m_getr (20) 2 (22) hx hb hts hown hE oc2 hM (hG.1 20 (by decide)) rfl (by decide) rfl (hG.2 (20, 2, 22) (by decide)) (by decide) tb_187 dX2_valueOf_134 ?_
                  refine lv_iload hx hb dX2_valueOf_137 (lv_at hl 0 rfl) ?_
                  refine m_lald (22) hx hb hE hM (hG.1 22 (by decide)) rfl (vp_in_iff.mpr (by omega)) dX2_valueOf_139 ?_
                  refine m_calll (m_runS (As := [.int (Ia6 (w + 1) (x7_6).toNatClampNeg), .long (La6 (22) (v42).toNatClampNeg), .long (La6 (22) (v40).toNatClampNeg)]) (rest := [.int (v41), .ref (ad (22))]) hx hb hml hown hts hE hM hS hA ce_X2_join tb_781 (V_X2_join_v l D A ad ns Ia6 La6 G (Ia6 (w + 1) (x7_6).toNatClampNeg) (La6 (22) (v42).toNatClampNeg) (La6 (22) (v40).toNatClampNeg) hI (by first | omega | decide)) rfl rfl ⟨Nat.le_of_ble_eq_true rfl, Nat.le_of_ble_eq_true rfl⟩  rfl hl.1 rfl (Nat.le_of_ble_eq_true rfl) dX2_valueOf_140 ⟨Nat.le_of_ble_eq_true rfl, Nat.le_of_ble_eq_true rfl⟩) hS (fun r43 u H locs hw hM hS => ?_)
                  obtain ⟨rfl, xr43⟩ := hw
                  have hM : Mem D A ad ns Ia6 La6 G H := hM
                  refine m_last (22) hx hb hE hM hS (hG.1 22 (by decide)) rfl (vp_in_iff.mpr (by omega)) dX2_valueOf_143 (fun H locs L44 eL44 hM hS => ?_)
                  obtain ⟨v45, ev45⟩ : ∃ z : Int32, z = x7_6 + Int32.ofInt (1) := ⟨_, rfl⟩
                  have tv45 := a_inc ev45 (by decide) (by omega) (by omega)
                  refine lv_iinc (v := v45) (lv' := [(7, .int (v45)), (6, .int (v40)), (8, .int (Ia6 (w + 1) (x7_6).toNatClampNeg)), (0, .ref (ad (20))), (1, .ref (ad (100))), (2, .ref (ad (w))), (3, .int (a0)), (4, .int (a1)), (5, .int (a2))]) hx hb dX2_valueOf_144 hl (k := 2) rfl ev45.symm (by decide) rfl (fun ls hl => ?_)
                  refine lv_goto (tgt := 6) hx hb dX2_valueOf_147 (by decide) ?_
                  exact ih6 (v45) (v40) Ia6 L44 _ _ ls hI hK (by first | omega | decide) (by first | omega | decide) (by omega) (by rw [show (v45).toNatClampNeg = (x7_6).toNatClampNeg + 1 from (by have z := tn (i := v45) (by omega); omega), show (a1.toInt - (v45).toInt).toNat = (a1.toInt - (x7_6).toInt - 1).toNat from (by omega)]; have hh := hV1; rw [← hsg] at hh; rw [show (x6_6).toNatClampNeg = (v41).toNatClampNeg + 2 from (by have z := tn (i := v41) (by omega); omega)] at hh; rw [show (v40).toNatClampNeg = (v41).toNatClampNeg + 1 from (by have z := tn (i := v41) (by omega); have z2 := tn (i := v40) (by omega); omega), eL44, ev_jn (e := (eC 100 I (a2).toNatClampNeg)) (c := (Ia6 (w + 1) (x7_6).toNatClampNeg).toInt) (by omega) (by rw [xr43, show (v42).toNatClampNeg = (v41).toNatClampNeg from (by have z := tn (i := v42) (by omega); have z2 := tn (i := v41) (by omega); omega), show (v40).toNatClampNeg = (v41).toNatClampNeg + 1 from (by have z := tn (i := v41) (by omega); have z2 := tn (i := v40) (by omega); omega)])]; exact hh) (by omega) hM hS (lv_sub hl [0, 1, 3, 4, 5, 6, 7, 8] rfl)
              · have hc37 := c37
                have q37 := q_nlt hc37
                refine lv_aload_n hx hb dX2_valueOf_82 rfl (lv_at hl 3 rfl) ?_
                refine m_getr (20) 2 (22) hx hb hts hown hE oc2 hM (hG.1 20 (by decide)) rfl (by decide) rfl (hG.2 (20, 2, 22) (by decide)) (by decide) tb_187 dX2_valueOf_83 ?_
                refine lv_iload hx hb dX2_valueOf_86 (lv_at hl 2 rfl) ?_
                refine lv_iconst (v := (1)) hx hb dX2_valueOf_88 (by decide) ?_
                refine lv_isub hx hb dX2_valueOf_89 ?_
                refine lv_topi (fun v46 ev46 => ?_)
                have tv46 := a_sub ev46 (by omega) (by omega)
                refine lv_lconst (v := 1) hx hb dX2_valueOf_90 (by decide) ?_
                refine lv_aload_n hx hb dX2_valueOf_91 rfl (lv_at hl 3 rfl) ?_
                refine m_getr (20) 2 (22) hx hb hts hown hE oc2 hM (hG.1 20 (by decide)) rfl (by decide) rfl (hG.2 (20, 2, 22) (by decide)) (by decide) tb_187 dX2_valueOf_92 ?_
                refine lv_iload hx hb dX2_valueOf_95 (lv_at hl 2 rfl) ?_
                refine lv_iconst (v := (1)) hx hb dX2_valueOf_97 (by decide) ?_
                refine lv_isub hx hb dX2_valueOf_98 ?_
                refine lv_topi (fun v47 ev47 => ?_)
                have tv47 := a_sub ev47 (by omega) (by omega)
                refine m_lald (22) hx hb hE hM (hG.1 22 (by decide)) rfl (vp_in_iff.mpr (by omega)) dX2_valueOf_99 ?_
                refine lv_lsub hx hb dX2_valueOf_100 ?_
                refine lv_topl (fun v48 ev48 => ?_)
                refine m_last (22) hx hb hE hM hS (hG.1 22 (by decide)) rfl (vp_in_iff.mpr (by omega)) dX2_valueOf_101 (fun H locs L49 eL49 hM hS => ?_)
                refine lv_goto (tgt := 144) hx hb dX2_valueOf_102 (by decide) ?_
                obtain ⟨v50, ev50⟩ : ∃ z : Int32, z = x7_6 + Int32.ofInt (1) := ⟨_, rfl⟩
                have tv50 := a_inc ev50 (by decide) (by omega) (by omega)
                refine lv_iinc (v := v50) (lv' := [(7, .int (v50)), (8, .int (Ia6 (w + 1) (x7_6).toNatClampNeg)), (6, .int (x6_6)), (0, .ref (ad (20))), (1, .ref (ad (100))), (2, .ref (ad (w))), (3, .int (a0)), (4, .int (a1)), (5, .int (a2))]) hx hb dX2_valueOf_144 hl (k := 1) rfl ev50.symm (by decide) rfl (fun ls hl => ?_)
                refine lv_goto (tgt := 6) hx hb dX2_valueOf_147 (by decide) ?_
                exact ih6 (v50) (x6_6) Ia6 L49 _ _ ls hI hK (by first | omega | decide) (by first | omega | decide) (by omega) (by rw [show (v50).toNatClampNeg = (x7_6).toNatClampNeg + 1 from (by have z := tn (i := v50) (by omega); omega), show (a1.toInt - (v50).toInt).toNat = (a1.toInt - (x7_6).toInt - 1).toNat from (by omega)]; have hh := hV1; rw [← hsg] at hh; rw [show (x6_6).toNatClampNeg = (v46).toNatClampNeg + 1 from (by have z := tn (i := v46) (by omega); omega)] at hh ⊢; rw [eL49, ev_not (e := (eC 100 I (a2).toNatClampNeg)) (by rw [ev48, show (v47).toNatClampNeg = (v46).toNatClampNeg from (by have z := tn (i := v47) (by omega); have z2 := tn (i := v46) (by omega); omega)])]; rw [show (Ia6 (w + 1) (x7_6).toNatClampNeg).toInt = -14 from (by omega)] at hh; exact hh) (by omega) hM hS (lv_sub hl [0, 2, 3, 4, 5, 6, 7, 8] rfl)
          · have hc27 := c27
            have q27 := q_nle hc27
            refine lv_aload_n hx hb dX2_valueOf_36 rfl (lv_at hl 3 rfl) ?_
            refine m_getr (20) 2 (22) hx hb hts hown hE oc2 hM (hG.1 20 (by decide)) rfl (by decide) rfl (hG.2 (20, 2, 22) (by decide)) (by decide) tb_187 dX2_valueOf_37 ?_
            refine lv_iload hx hb dX2_valueOf_40 (lv_at hl 2 rfl) ?_
            refine lv_iload hx hb dX2_valueOf_42 (lv_at hl 0 rfl) ?_
            refine lv_if_lt (tgt := 53) hx hb dX2_valueOf_44 (by decide) (fun c51 => ?_) (fun c51 => ?_)
            · have hc51 := c51
              have q51 := q_lt hc51
              refine lv_aload_n hx hb dX2_valueOf_53 rfl (lv_at hl 3 rfl) ?_
              refine lv_aload_n hx hb dX2_valueOf_54 rfl (lv_at hl 4 rfl) ?_
              refine lv_iload hx hb dX2_valueOf_55 (lv_at hl 0 rfl) ?_
              refine lv_iload hx hb dX2_valueOf_57 (lv_at hl 8 rfl) ?_
              refine m_calll (m_runV (20) (As := [.ref (ad (100)), .int (Ia6 (w + 1) (x7_6).toNatClampNeg), .int (a2)]) (rest := [.int (x6_6), .ref (ad (22))]) hx hb hml hown hts hE hM hS hA ce_X2_wordValue tb_762 (V_X2_wordValue_100_v l D A ad ns Ia6 La6 G (Ia6 (w + 1) (x7_6).toNatClampNeg) (a2) hG hI (by first | omega | decide) (by first | omega | decide)) rfl rfl ⟨Nat.le_of_ble_eq_true rfl, Nat.le_of_ble_eq_true rfl⟩ (hG.1 20 (by decide)) rfl rfl (by decide) rfl hl.1 rfl (Nat.le_of_ble_eq_true rfl) dX2_valueOf_59 ⟨Nat.le_of_ble_eq_true rfl, Nat.le_of_ble_eq_true rfl⟩) hS (fun r52 u H locs hw hM hS => ?_)
              obtain ⟨rfl, xr52⟩ := hw
              have hM : Mem D A ad ns Ia6 La6 G H := hM
              refine m_last (22) hx hb hE hM hS (hG.1 22 (by decide)) rfl (vp_in_iff.mpr (by omega)) dX2_valueOf_62 (fun H locs L53 eL53 hM hS => ?_)
              obtain ⟨v54, ev54⟩ : ∃ z : Int32, z = x6_6 + Int32.ofInt (1) := ⟨_, rfl⟩
              have tv54 := a_inc ev54 (by decide) (by omega) (by omega)
              refine lv_iinc (v := v54) (lv' := [(6, .int (v54)), (8, .int (Ia6 (w + 1) (x7_6).toNatClampNeg)), (7, .int (x7_6)), (0, .ref (ad (20))), (1, .ref (ad (100))), (2, .ref (ad (w))), (3, .int (a0)), (4, .int (a1)), (5, .int (a2))]) hx hb dX2_valueOf_63 hl (k := 2) rfl ev54.symm (by decide) rfl (fun ls hl => ?_)
              refine lv_goto (tgt := 144) hx hb dX2_valueOf_66 (by decide) ?_
              obtain ⟨v55, ev55⟩ : ∃ z : Int32, z = x7_6 + Int32.ofInt (1) := ⟨_, rfl⟩
              have tv55 := a_inc ev55 (by decide) (by omega) (by omega)
              refine lv_iinc (v := v55) (lv' := [(7, .int (v55)), (6, .int (v54)), (8, .int (Ia6 (w + 1) (x7_6).toNatClampNeg)), (0, .ref (ad (20))), (1, .ref (ad (100))), (2, .ref (ad (w))), (3, .int (a0)), (4, .int (a1)), (5, .int (a2))]) hx hb dX2_valueOf_144 hl (k := 2) rfl ev55.symm (by decide) rfl (fun ls hl => ?_)
              refine lv_goto (tgt := 6) hx hb dX2_valueOf_147 (by decide) ?_
              exact ih6 (v55) (v54) Ia6 L53 _ _ ls hI hK (by first | omega | decide) (by first | omega | decide) (by omega) (by rw [show (v55).toNatClampNeg = (x7_6).toNatClampNeg + 1 from (by have z := tn (i := v55) (by omega); omega), show (a1.toInt - (v55).toInt).toNat = (a1.toInt - (x7_6).toInt - 1).toNat from (by omega)]; have hh := hV1; rw [← hsg] at hh; rw [show (v54).toNatClampNeg = (x6_6).toNatClampNeg + 1 from (by have z := tn (i := v54) (by omega); omega), eL53, ev_push (e := (eC 100 I (a2).toNatClampNeg)) (c := (Ia6 (w + 1) (x7_6).toNatClampNeg).toInt) (by omega) (by unfold vl; rw [if_neg (by omega), ← hII]; exact xr52)]; exact hh) (by omega) hM hS (lv_sub hl [0, 1, 3, 4, 5, 6, 7, 8] rfl)
            · have hc51 := c51
              have q51 := q_nlt hc51
              refine lv_iload hx hb dX2_valueOf_47 (lv_at hl 0 rfl) ?_
              refine lv_i2l hx hb dX2_valueOf_49 rfl ?_
              refine lv_topl (fun v56 ev56 => ?_)
              have tv56 := q_i2l ev56
              refine lv_goto (tgt := 62) hx hb dX2_valueOf_50 (by decide) ?_
              refine m_last (22) hx hb hE hM hS (hG.1 22 (by decide)) rfl (vp_in_iff.mpr (by omega)) dX2_valueOf_62 (fun H locs L57 eL57 hM hS => ?_)
              obtain ⟨v58, ev58⟩ : ∃ z : Int32, z = x6_6 + Int32.ofInt (1) := ⟨_, rfl⟩
              have tv58 := a_inc ev58 (by decide) (by omega) (by omega)
              refine lv_iinc (v := v58) (lv' := [(6, .int (v58)), (8, .int (Ia6 (w + 1) (x7_6).toNatClampNeg)), (7, .int (x7_6)), (0, .ref (ad (20))), (1, .ref (ad (100))), (2, .ref (ad (w))), (3, .int (a0)), (4, .int (a1)), (5, .int (a2))]) hx hb dX2_valueOf_63 hl (k := 2) rfl ev58.symm (by decide) rfl (fun ls hl => ?_)
              refine lv_goto (tgt := 144) hx hb dX2_valueOf_66 (by decide) ?_
              obtain ⟨v59, ev59⟩ : ∃ z : Int32, z = x7_6 + Int32.ofInt (1) := ⟨_, rfl⟩
              have tv59 := a_inc ev59 (by decide) (by omega) (by omega)
              refine lv_iinc (v := v59) (lv' := [(7, .int (v59)), (6, .int (v58)), (8, .int (Ia6 (w + 1) (x7_6).toNatClampNeg)), (0, .ref (ad (20))), (1, .ref (ad (100))), (2, .ref (ad (w))), (3, .int (a0)), (4, .int (a1)), (5, .int (a2))]) hx hb dX2_valueOf_144 hl (k := 2) rfl ev59.symm (by decide) rfl (fun ls hl => ?_)
              refine lv_goto (tgt := 6) hx hb dX2_valueOf_147 (by decide) ?_
              exact ih6 (v59) (v58) Ia6 L57 _ _ ls hI hK (by first | omega | decide) (by first | omega | decide) (by omega) (by rw [show (v59).toNatClampNeg = (x7_6).toNatClampNeg + 1 from (by have z := tn (i := v59) (by omega); omega), show (a1.toInt - (v59).toInt).toNat = (a1.toInt - (x7_6).toInt - 1).toNat from (by omega)]; have hh := hV1; rw [← hsg] at hh; rw [show (v58).toNatClampNeg = (x6_6).toNatClampNeg + 1 from (by have z := tn (i := v58) (by omega); omega), eL57, ev_push (e := (eC 100 I (a2).toNatClampNeg)) (c := (Ia6 (w + 1) (x7_6).toNatClampNeg).toInt) (by omega) (by unfold vl; rw [if_pos (by omega)]; exact (ev56).trans (i64_of _))]; exact hh) (by omega) hM hS (lv_sub hl [0, 1, 3, 4, 5, 6, 7, 8] rfl)
  exact loop6 (_ + 1) (a0) (0) I L _ _ ls hI hK (by first | omega | decide) (by first | omega | decide) (by omega) (EVI.z hty hcv) (Nat.lt_succ_self _) hM hS (lv_sub hl [0, 1, 2, 3, 4, 5, 6, 7] rfl)
set_option maxHeartbeats 4000000 in
set_option maxRecDepth 20000 in
theorem V_X2_wordValue_110_v (l : Launch) (D : va_G) (A : Nat → Prop) (ad : Nat → Nat) (ns : List Nat) (I : MI) (L : ML) (G : MG) (a0 : Int32) (a1 : Int32) (hG : SGC ns G) (hI : INV I) (ha0 : -13 ≤ a0.toInt ∧ a0.toInt ≤ -1) (ha1 : 0 ≤ a1.toInt ∧ a1.toInt ≤ 23) : Met l yX2_wordValue (wd yX2_wordValue cX2_wordValue 4 (some .long)) ({ frames := 2, cells := 0, slots := 0, locals := 43 }) (va_Pc [.ref (ad (20)), .ref (ad (110)), .int a0, .int a1] (PM D A ad ns I L G)) (va_Ql (fun r u => u = (ad, ns, I, L, G) ∧ (r = eC 110 I (a1).toNatClampNeg (-1 - a0.toInt).toNat)) (BM D A) A) 0 0 A := by
  refine m_ofW (by decide) (Nat.le_of_ble_eq_true rfl) ?_
  intro p e s m below meth c ls args hC hE hM hA hS hl
  obtain ⟨hx, hb, hml, hown, hts, hr, hlocks, hin⟩ := hC
  have km6 : (-6 : Int32).toInt = -6 := by decide
  have k0 : (0 : Int32).toInt = 0 := by decide
  have k2 : (2 : Int32).toInt = 2 := by decide
  have kl8 : (8 : Int64).toInt = 8 := by decide
  have hl : lv_has ls 4 [(0, .ref (ad (20))), (1, .ref (ad (110))), (2, .int (a0)), (3, .int (a1))] := hl
  refine lv_iload_n hx hb dX2_wordValue_0 rfl (lv_at hl 2 rfl) ?_
  by_cases c1 : (a0).toInt < -5 ∨ -1 < (a0).toInt
  · refine lv_tableOut (tgt := 89) hx hb dX2_wordValue_1 c1 (by decide) ?_
    refine lv_aload_n hx hb dX2_wordValue_89 rfl (lv_at hl 0 rfl) ?_
    refine lv_bipush (v := (-6)) hx hb dX2_wordValue_90 (by decide) ?_
    refine lv_iload_n hx hb dX2_wordValue_92 rfl (lv_at hl 2 rfl) ?_
    refine lv_isub hx hb dX2_wordValue_93 ?_
    refine lv_topi (fun v2 ev2 => ?_)
    have tv2 := a_sub ev2 (by omega) (by omega)
    refine m_calll (m_runV (20) (As := [.int (v2)]) (rest := []) hx hb hml hown hts hE hM hS hA ce_X2_gotByYard tb_776 (V_X2_gotByYard_v l D A ad ns I L G (v2) hG hI (by first | omega | decide)) rfl rfl ⟨Nat.le_of_ble_eq_true rfl, Nat.le_of_ble_eq_true rfl⟩ (hG.1 20 (by decide)) rfl rfl (by decide) rfl hl.1 rfl (Nat.le_of_ble_eq_true rfl) dX2_wordValue_94 ⟨Nat.le_of_ble_eq_true rfl, Nat.le_of_ble_eq_true rfl⟩) hS (fun r3 u H locs hw hM hS => ?_)
    obtain ⟨rfl, xr3⟩ := hw
    have hM : Mem D A ad ns I L G H := hM
    exact m_lret hx hb hr hlocks hM hS (Nat.le_of_ble_eq_true rfl) (Nat.le_of_ble_eq_true rfl) ⟨rfl, (by have hk : (-1 - a0.toInt).toNat = (v2).toNatClampNeg + 5 := (by have z := tn (i := v2) (by omega); omega); rw [hk]; exact xr3)⟩ dX2_wordValue_97
  · have qc1 : (a0).toInt = -5 ∨ (a0).toInt = -4 ∨ (a0).toInt = -3 ∨ (a0).toInt = -2 ∨ (a0).toInt = -1 := by omega
    rcases qc1 with qc1 | qc1 | qc1 | qc1 | qc1
    · refine lv_tableIn (off := 61) (tgt := 62) hx hb dX2_wordValue_1 (by omega) (by omega) (by rw [qc1]; rfl) (by decide) ?_
      refine lv_aload_n hx hb dX2_wordValue_62 rfl (lv_at hl 1 rfl) ?_
      refine lv_aload_n hx hb dX2_wordValue_63 rfl (lv_at hl 0 rfl) ?_
      refine m_geti (20) 3 hx hb hts hown hE oc2 hM (hG.1 20 (by decide)) rfl (by decide) rfl tb_188 dX2_wordValue_64 ?_
      have g4 := hI.get (20) 3 (lo := 0) (hi := 23) rfl
      refine m_calli (m_runV (110) (As := [.int (I (20) 3)]) (rest := []) hx hb hml hown hts hE hM hS hA ce_X8_isLit tb_767 (V_X8_isLit_110 l D A ad ns I L G (I (20) 3) hG hI) rfl rfl ⟨Nat.le_of_ble_eq_true rfl, Nat.le_of_ble_eq_true rfl⟩ (hG.1 110 (by decide)) rfl rfl (by decide) rfl hl.1 rfl (Nat.le_of_ble_eq_true rfl) dX2_wordValue_67 ⟨Nat.le_of_ble_eq_true rfl, Nat.le_of_ble_eq_true rfl⟩) hS (fun r5 u H locs hw hM hS => ?_)
      obtain ⟨rfl, xr5⟩ := hw
      have hM : Mem D A ad ns I L G H := hM
      have yr5 := bo01 xr5
      refine lv_if_eq (tgt := 85) hx hb dX2_wordValue_70 (by decide) (fun c6 => ?_) (fun c6 => ?_)
      · have hc6 := c6
        have q6 := xr5.f hc6
        refine lv_ldc2 (v := (8)) hx hb hown (hts _ tb_775) dX2_wordValue_85 ?_
        have hix : (-1 - a0.toInt).toNat = 4 := by omega
        exact m_lret hx hb hr hlocks hM hS (Nat.le_of_ble_eq_true rfl) (Nat.le_of_ble_eq_true rfl) ⟨rfl, (by rw [hix]; exact (if_neg q6).symm)⟩ dX2_wordValue_88
      · have hc6 := c6
        have q6 := xr5.t hc6
        have lh6 := q6.2.1
        refine lv_aload_n hx hb dX2_wordValue_73 rfl (lv_at hl 1 rfl) ?_
        refine lv_aload_n hx hb dX2_wordValue_74 rfl (lv_at hl 0 rfl) ?_
        refine m_geti (20) 3 hx hb hts hown hE oc2 hM (hG.1 20 (by decide)) rfl (by decide) rfl tb_188 dX2_wordValue_75 ?_
        refine m_calli (m_runV (110) (As := [.int (I (20) 3)]) (rest := []) hx hb hml hown hts hE hM hS hA ce_X8_wayOf tb_771 (V_X8_wayOf_110 l D A ad ns I L G (I (20) 3) hG hI (by first | omega | decide)) rfl rfl ⟨Nat.le_of_ble_eq_true rfl, Nat.le_of_ble_eq_true rfl⟩ (hG.1 110 (by decide)) rfl rfl (by decide) rfl hl.1 rfl (Nat.le_of_ble_eq_true rfl) dX2_wordValue_78 ⟨Nat.le_of_ble_eq_true rfl, Nat.le_of_ble_eq_true rfl⟩) hS (fun r7 u H locs hw hM hS => ?_)
        obtain ⟨rfl, xr7⟩ := hw
        have hM : Mem D A ad ns I L G H := hM
        have lzr7 := hI.get 115 ((I 110 5 * 24 + I (20) 3).toNatClampNeg) (lo := -1) (hi := 7) rfl
        rw [← xr7] at lzr7
        refine lv_i2l hx hb dX2_wordValue_81 rfl ?_
        refine lv_topl (fun v8 ev8 => ?_)
        have tv8 := q_i2l ev8
        refine lv_goto (tgt := 88) hx hb dX2_wordValue_82 (by decide) ?_
        have hix : (-1 - a0.toInt).toNat = 4 := by omega
        exact m_lret hx hb hr hlocks hM hS (Nat.le_of_ble_eq_true rfl) (Nat.le_of_ble_eq_true rfl) ⟨rfl, (by rw [hix]; exact (ev8.trans (congrArg Int32.toInt64 xr7)).trans (if_pos q6).symm)⟩ dX2_wordValue_88
    · refine lv_tableIn (off := 53) (tgt := 54) hx hb dX2_wordValue_1 (by omega) (by omega) (by rw [qc1]; rfl) (by decide) ?_
      refine lv_aload_n hx hb dX2_wordValue_54 rfl (lv_at hl 1 rfl) ?_
      refine lv_iload_n hx hb dX2_wordValue_55 rfl (lv_at hl 3 rfl) ?_
      refine lv_iconst (v := (2)) hx hb dX2_wordValue_56 (by decide) ?_
      refine m_calli (m_runV (110) (As := [.int (a1), .int (2)]) (rest := []) hx hb hml hown hts hE hM hS hA ce_X8_ofMirror tb_766 (V_X8_ofMirror_110_l l D A ad ns I L G (a1) (2) hG hI (by first | omega | decide) (by first | omega | decide)) rfl rfl ⟨Nat.le_of_ble_eq_true rfl, Nat.le_of_ble_eq_true rfl⟩ (hG.1 110 (by decide)) rfl rfl (by decide) rfl hl.1 rfl (Nat.le_of_ble_eq_true rfl) dX2_wordValue_57 ⟨Nat.le_of_ble_eq_true rfl, Nat.le_of_ble_eq_true rfl⟩) hS (fun r9 u H locs hw hM hS => ?_)
      obtain ⟨rfl, xr9⟩ := hw
      have hM : Mem D A ad ns I L G H := hM
      rw [show (2 : Int32).toNatClampNeg = 2 from rfl, show 24 * 2 = 48 from rfl] at xr9
      refine lv_i2l hx hb dX2_wordValue_60 rfl ?_
      refine lv_topl (fun v10 ev10 => ?_)
      have tv10 := q_i2l ev10
      have hix : (-1 - a0.toInt).toNat = 3 := by omega
      exact m_lret hx hb hr hlocks hM hS (Nat.le_of_ble_eq_true rfl) (Nat.le_of_ble_eq_true rfl) ⟨rfl, (by rw [hix]; exact ev10.trans (congrArg Int32.toInt64 xr9))⟩ dX2_wordValue_61
    · refine lv_tableIn (off := 47) (tgt := 48) hx hb dX2_wordValue_1 (by omega) (by omega) (by rw [qc1]; rfl) (by decide) ?_
      refine lv_aload_n hx hb dX2_wordValue_48 rfl (lv_at hl 1 rfl) ?_
      refine m_geti (110) 6 hx hb hts hown hE oc8 hM (hG.1 110 (by decide)) rfl (by decide) rfl tb_55 dX2_wordValue_49 ?_
      refine lv_i2l hx hb dX2_wordValue_52 rfl ?_
      refine lv_topl (fun v11 ev11 => ?_)
      have tv11 := q_i2l ev11
      have hix : (-1 - a0.toInt).toNat = 2 := by omega
      exact m_lret hx hb hr hlocks hM hS (Nat.le_of_ble_eq_true rfl) (Nat.le_of_ble_eq_true rfl) ⟨rfl, (by rw [hix]; exact ev11)⟩ dX2_wordValue_53
    · refine lv_tableIn (off := 41) (tgt := 42) hx hb dX2_wordValue_1 (by omega) (by omega) (by rw [qc1]; rfl) (by decide) ?_
      refine lv_aload_n hx hb dX2_wordValue_42 rfl (lv_at hl 1 rfl) ?_
      refine m_geti (110) 5 hx hb hts hown hE oc8 hM (hG.1 110 (by decide)) rfl (by decide) rfl tb_52 dX2_wordValue_43 ?_
      have g12 := hI.get (110) 5 (lo := 0) (hi := 11) rfl
      refine lv_i2l hx hb dX2_wordValue_46 rfl ?_
      refine lv_topl (fun v13 ev13 => ?_)
      have tv13 := q_i2l ev13
      have hix : (-1 - a0.toInt).toNat = 1 := by omega
      exact m_lret hx hb hr hlocks hM hS (Nat.le_of_ble_eq_true rfl) (Nat.le_of_ble_eq_true rfl) ⟨rfl, (by rw [hix]; exact ev13)⟩ dX2_wordValue_47
    · refine lv_tableIn (off := 35) (tgt := 36) hx hb dX2_wordValue_1 (by omega) (by omega) (by rw [qc1]; rfl) (by decide) ?_
      refine lv_aload_n hx hb dX2_wordValue_36 rfl (lv_at hl 0 rfl) ?_
      refine m_geti (20) 3 hx hb hts hown hE oc2 hM (hG.1 20 (by decide)) rfl (by decide) rfl tb_188 dX2_wordValue_37 ?_
      have g14 := hI.get (20) 3 (lo := 0) (hi := 23) rfl
      refine lv_i2l hx hb dX2_wordValue_40 rfl ?_
      refine lv_topl (fun v15 ev15 => ?_)
      have tv15 := q_i2l ev15
      have hix : (-1 - a0.toInt).toNat = 0 := by omega
      exact m_lret hx hb hr hlocks hM hS (Nat.le_of_ble_eq_true rfl) (Nat.le_of_ble_eq_true rfl) ⟨rfl, (by rw [hix]; exact ev15)⟩ dX2_wordValue_41
set_option maxHeartbeats 4000000 in
set_option maxRecDepth 20000 in
theorem V_X2_valueOf_110_v (l : Launch) (D : va_G) (A : Nat → Prop) (ad : Nat → Nat) (ns : List Nat) (I : MI) (L : ML) (G : MG) (tt : Bool) (w : Nat) (a0 : Int32) (a1 : Int32) (a2 : Int32) (hG : SGC ns G) (hI : INV I) (hW : LOK ns G w) (hle : a0.toInt ≤ a1.toInt) (hty : tyx (sgF (I (w + 1)) (a0).toNatClampNeg (a1.toInt - a0.toInt).toNat) [] = some [tt]) (hcv : cv (sgF (I (w + 1)) (a0).toNatClampNeg (a1.toInt - a0.toInt).toNat) ≤ 60) (ha0 : 0 ≤ a0.toInt ∧ a0.toInt ≤ 400) (ha1 : 0 ≤ a1.toInt ∧ a1.toInt ≤ 400) (ha2 : 0 ≤ a2.toInt ∧ a2.toInt ≤ 23) : Met l yX2_valueOf (wd yX2_valueOf cX2_valueOf 9 (some .long)) ({ frames := 3, cells := 0, slots := 0, locals := 66 }) (va_Pc [.ref (ad (20)), .ref (ad (110)), .ref (ad (w)), .int a0, .int a1, .int a2] (PM D A ad ns I L G)) (va_Ql (fun r u => ∃ I2 L2, u = (ad, ns, I2, L2, G) ∧ INV I2 ∧ Kp [] [] I I2 ∧ ((evl (eC 110 I (a2).toNatClampNeg) (sgF (I (w + 1)) (a0).toNatClampNeg (a1.toInt - a0.toInt).toNat) []) = [r])) (BM D A) A) 0 0 A := by
  refine m_ofW (by decide) (Nat.le_of_ble_eq_true rfl) ?_
  intro p e s m below meth c ls args hC hE hM hA hS hl
  obtain ⟨hx, hb, hml, hown, hts, hr, hlocks, hin⟩ := hC
  have km14 : (-14 : Int32).toInt = -14 := by decide
  have k0 : (0 : Int32).toInt = 0 := by decide
  have k1 : (1 : Int32).toInt = 1 := by decide
  have k2 : (2 : Int32).toInt = 2 := by decide
  have k64 : (64 : Int32).toInt = 64 := by decide
  have kl0 : (0 : Int64).toInt = 0 := by decide
  have kl1 : (1 : Int64).toInt = 1 := by decide
  have hK : Kp [] [] I I := Kp.rf
  have hl : lv_has ls 9 [(0, .ref (ad (20))), (1, .ref (ad (110))), (2, .ref (ad (w))), (3, .int (a0)), (4, .int (a1)), (5, .int (a2))] := hl
  refine lv_iconst (v := (0)) hx hb dX2_valueOf_0 (by decide) ?_
  refine lv_istore (lv' := [(6, .int (0)), (0, .ref (ad (20))), (1, .ref (ad (110))), (2, .ref (ad (w))), (3, .int (a0)), (4, .int (a1)), (5, .int (a2))]) hx hb dX2_valueOf_1 hl (by decide) rfl (fun ls hl => ?_)
  refine lv_iload_n hx hb dX2_valueOf_3 rfl (lv_at hl 4 rfl) ?_
  refine lv_istore (lv' := [(7, .int (a0)), (6, .int (0)), (0, .ref (ad (20))), (1, .ref (ad (110))), (2, .ref (ad (w))), (3, .int (a0)), (4, .int (a1)), (5, .int (a2))]) hx hb dX2_valueOf_4 hl (by decide) rfl (fun ls hl => ?_)
  have loop6 : ∀ (n : Nat) (x7_6 : Int32) (x6_6 : Int32) (Ia6 : MI) (La6 : ML) (H : Heap) (locs : List Loc) (ls : Array Slot), INV Ia6 → Kp [] [] I Ia6 → (0 ≤ x7_6.toInt ∧ x7_6.toInt ≤ 400) → (0 ≤ x6_6.toInt ∧ x6_6.toInt ≤ 64) → ((x7_6).toInt ≤ a1.toInt) → (EVI (eC 110 I (a2).toNatClampNeg) (I (w + 1)) (x7_6).toNatClampNeg (a1.toInt - (x7_6).toInt).toNat (stL (La6 22) (x6_6).toNatClampNeg) (evl (eC 110 I (a2).toNatClampNeg) (sgF (I (w + 1)) (a0).toNatClampNeg (a1.toInt - a0.toInt).toNat) []) [tt]) → (400 - x7_6.toInt).toNat < n → Mem D A ad ns Ia6 La6 G H → va_S A s.heap H locs → lv_has ls 9 [(7, .int (x7_6)), (6, .int (x6_6)), (0, .ref (ad (20))), (1, .ref (ad (110))), (2, .ref (ad (w))), (3, .int (a0)), (4, .int (a1)), (5, .int (a2))] → W p l e ({ frames := 3, cells := 0, slots := 0, locals := 66 } : Room) s m args below meth c H locs 0 0 (MQ below (va_Ql (fun r u => ∃ I2 L2, u = (ad, ns, I2, L2, G) ∧ INV I2 ∧ Kp [] [] I I2 ∧ ((evl (eC 110 I (a2).toNatClampNeg) (sgF (I (w + 1)) (a0).toNatClampNeg (a1.toInt - a0.toInt).toNat) []) = [r])) (BM D A) A) args s 0 0 A) (F0 m 6 ls []) := by
    intro n
    induction n with
    | zero =>
      intro x7_6 x6_6 Ia6 La6 H locs ls hI hK hr7_6 hr6_6 hle6 hev6 hmu
      exact absurd hmu (Nat.not_lt_zero _)
    | succ n ih6 =>
      intro x7_6 x6_6 Ia6 La6 H locs ls hI hK hr7_6 hr6_6 hle6 hev6 hmu6 hM hS hl
      refine lv_iload hx hb dX2_valueOf_6 (lv_at hl 0 rfl) ?_
      refine lv_iload hx hb dX2_valueOf_8 (lv_at hl 6 rfl) ?_
      refine lv_icmp_ge (tgt := 150) hx hb dX2_valueOf_10 (by decide) (fun c1 => ?_) (fun c1 => ?_)
      · have hc1 := c1
        have q1 := q_le hc1
        refine lv_iload hx hb dX2_valueOf_150 (lv_at hl 1 rfl) ?_
        refine lv_iconst (v := (1)) hx hb dX2_valueOf_152 (by decide) ?_
        refine lv_icmp_lt (tgt := 165) hx hb dX2_valueOf_153 (by decide) (fun c2 => ?_) (fun c2 => ?_)
        · have hc2 := c2
          have q2 := q_lt hc2
          refine lv_lconst (v := 0) hx hb dX2_valueOf_165 (by decide) ?_
          have zt6 := tn (i := x6_6) (by omega)
          have hfin := hev6
          rw [show (a1.toInt - (x7_6).toInt).toNat = 0 from by omega] at hfin
          have hf2 := hfin.fin
          rw [stL_len] at hf2
          exact m_lret hx hb hr hlocks hM hS (Nat.le_of_ble_eq_true rfl) (Nat.le_of_ble_eq_true rfl) ⟨_, _, rfl, hI, hK, (by exfalso; omega)⟩ dX2_valueOf_166
        · have hc2 := c2
          have q2 := q_nlt hc2
          refine lv_aload_n hx hb dX2_valueOf_156 rfl (lv_at hl 2 rfl) ?_
          refine m_getr (20) 2 (22) hx hb hts hown hE oc2 hM (hG.1 20 (by decide)) rfl (by decide) rfl (hG.2 (20, 2, 22) (by decide)) (by decide) tb_187 dX2_valueOf_157 ?_
          refine lv_iconst (v := (0)) hx hb dX2_valueOf_160 (by decide) ?_
          refine m_lald (22) hx hb hE hM (hG.1 22 (by decide)) rfl (vp_in_iff.mpr (by decide)) dX2_valueOf_161 ?_
          rw [show (0 : Int32).toNatClampNeg = 0 from rfl]
          refine lv_goto (tgt := 166) hx hb dX2_valueOf_162 (by decide) ?_
          have zt6 := tn (i := x6_6) (by omega)
          have hfin := hev6
          rw [show (a1.toInt - (x7_6).toInt).toNat = 0 from by omega] at hfin
          have hf2 := hfin.fin
          rw [stL_len] at hf2
          exact m_lret hx hb hr hlocks hM hS (Nat.le_of_ble_eq_true rfl) (Nat.le_of_ble_eq_true rfl) ⟨_, _, rfl, hI, hK, (by rw [hf2.1, hf2.2]; rfl)⟩ dX2_valueOf_166
      · have hc1 := c1
        have q1 := q_nle hc1
        have zt7 := tn (i := x7_6) (by omega)
        have zt6 := tn (i := x6_6) (by omega)
        have hV0 := hev6
        rw [show (a1.toInt - (x7_6).toInt).toNat = (a1.toInt - (x7_6).toInt - 1).toNat + 1 from by omega] at hV0
        obtain ⟨hV1, hV2, hV3, hV4, hopx⟩ := hV0.head
        rw [stL_len] at hV2 hV3 hV4
        have hII : Ia6 = I := funext fun n => funext fun k => hK n k rfl rfl
        refine lv_aload_n hx hb dX2_valueOf_13 rfl (lv_at hl 4 rfl) ?_
        refine m_getr (w) 0 (w + 1) hx hb hts hown hE oc3 hM hW.l (kW _ hW.1).1 (by decide) rfl (hW.2.2 0 (by decide)) (by have := lbw hW.1; omega) tb_370 dX2_valueOf_14 ?_
        refine lv_iload hx hb dX2_valueOf_17 (lv_at hl 0 rfl) ?_
        refine m_iald (w + 1) hx hb hE hM (hW.2.1 1 (by decide)) (kW _ hW.1).2.1 (vp_in_iff.mpr (by omega)) dX2_valueOf_19 ?_
        have hsg : (Ia6 (w + 1) (x7_6).toNatClampNeg).toInt = (I (w + 1) (x7_6).toNatClampNeg).toInt := by rw [hII]
        refine lv_istore (lv' := [(8, .int (Ia6 (w + 1) (x7_6).toNatClampNeg)), (7, .int (x7_6)), (6, .int (x6_6)), (0, .ref (ad (20))), (1, .ref (ad (110))), (2, .ref (ad (w))), (3, .int (a0)), (4, .int (a1)), (5, .int (a2))]) hx hb dX2_valueOf_20 hl (by decide) rfl (fun ls hl => ?_)
        refine lv_iload hx hb dX2_valueOf_22 (lv_at hl 0 rfl) ?_
        refine lv_bipush (v := (-14)) hx hb dX2_valueOf_24 (by decide) ?_
        refine lv_icmp_le (tgt := 69) hx hb dX2_valueOf_26 (by decide) (fun c3 => ?_) (fun c3 => ?_)
        · have hc3 := c3
          have q3 := q_le hc3
          refine lv_iload hx hb dX2_valueOf_69 (lv_at hl 0 rfl) ?_
          refine lv_bipush (v := (-14)) hx hb dX2_valueOf_71 (by decide) ?_
          refine lv_icmp_ne (tgt := 105) hx hb dX2_valueOf_73 (by decide) (fun c4 => ?_) (fun c4 => ?_)
          · have hc4 := c4
            have q4 := q_ne hc4
            refine lv_iload hx hb dX2_valueOf_105 (lv_at hl 2 rfl) ?_
            refine lv_iconst (v := (2)) hx hb dX2_valueOf_107 (by decide) ?_
            refine lv_icmp_lt (tgt := 144) hx hb dX2_valueOf_108 (by decide) (fun c5 => ?_) (fun c5 => ?_)
            · have hc5 := c5
              have q5 := q_lt hc5
              obtain ⟨v6, ev6⟩ : ∃ z : Int32, z = x7_6 + Int32.ofInt (1) := ⟨_, rfl⟩
              have tv6 := a_inc ev6 (by decide) (by omega) (by omega)
              refine lv_iinc (v := v6) (lv' := [(7, .int (v6)), (8, .int (Ia6 (w + 1) (x7_6).toNatClampNeg)), (6, .int (x6_6)), (0, .ref (ad (20))), (1, .ref (ad (110))), (2, .ref (ad (w))), (3, .int (a0)), (4, .int (a1)), (5, .int (a2))]) hx hb dX2_valueOf_144 hl (k := 1) rfl ev6.symm (by decide) rfl (fun ls hl => ?_)
              refine lv_goto (tgt := 6) hx hb dX2_valueOf_147 (by decide) ?_
              exact ih6 (v6) (x6_6) Ia6 La6 _ _ ls hI hK (by first | omega | decide) (by first | omega | decide) (by omega) (by exfalso; omega) (by omega) hM hS (lv_sub hl [0, 2, 3, 4, 5, 6, 7, 8] rfl)
            · have hc5 := c5
              have q5 := q_nlt hc5
              obtain ⟨v7, ev7⟩ : ∃ z : Int32, z = x6_6 + Int32.ofInt (-1) := ⟨_, rfl⟩
              have tv7 := a_inc ev7 (by decide) (by omega) (by omega)
              refine lv_iinc (v := v7) (lv' := [(6, .int (v7)), (8, .int (Ia6 (w + 1) (x7_6).toNatClampNeg)), (7, .int (x7_6)), (0, .ref (ad (20))), (1, .ref (ad (110))), (2, .ref (ad (w))), (3, .int (a0)), (4, .int (a1)), (5, .int (a2))]) hx hb dX2_valueOf_111 hl (k := 2) rfl ev7.symm (by decide) rfl (fun ls hl => ?_)
              refine lv_aload_n hx hb dX2_valueOf_114 rfl (lv_at hl 3 rfl) ?_
              refine m_getr (20) 2 (22) hx hb hts hown hE oc2 hM (hG.1 20 (by decide)) rfl (by decide) rfl (hG.2 (20, 2, 22) (by decide)) (by decide) tb_187 dX2_valueOf_115 ?_
              refine lv_iload hx hb dX2_valueOf_118 (lv_at hl 0 rfl) ?_
              refine lv_iconst (v := (1)) hx hb dX2_valueOf_120 (by decide) ?_
              refine lv_isub hx hb dX2_valueOf_121 ?_
              refine lv_topi (fun v8 ev8 => ?_)
              have tv8 := a_sub ev8 (by omega) (by omega)
              refine lv_iload hx hb dX2_valueOf_122 (lv_at hl 1 rfl) ?_
              refine lv_aload_n hx hb dX2_valueOf_124 rfl (lv_at hl 3 rfl) ?_
              refine m_getr (20) 2 (22) hx hb hts hown hE oc2 hM (hG.1 20 (by decide)) rfl (by decide) rfl (hG.2 (20, 2, 22) (by decide)) (by decide) tb_187 dX2_valueOf_125 ?_
              refine lv_iload hx hb dX2_valueOf_128 (lv_at hl 0 rfl) ?_
              refine lv_iconst (v := (1)) hx hb dX2_valueOf_130 (by decide) ?_
              refine lv_isub hx hb dX2_valueOf_131 ?_
              refine lv_topi (fun v9 ev9 => ?_)
              have tv9 := a_sub ev9 (by omega) (by omega)
              refine m_lald (22) hx hb hE hM (hG.1 22 (by decide)) rfl (vp_in_iff.mpr (by omega)) dX2_valueOf_132 ?_
              refine lv_aload_n hx hb dX2_valueOf_133 rfl (lv_at hl 3 rfl) ?_
              refine m_getr (20) 2 (22) hx hb hts hown hE oc2 hM (hG.1 20 (by decide)) rfl (by decide) rfl (hG.2 (20, 2, 22) (by decide)) (by decide) tb_187 dX2_valueOf_134 ?_
              refine lv_iload hx hb dX2_valueOf_137 (lv_at hl 0 rfl) ?_
              refine m_lald (22) hx hb hE hM (hG.1 22 (by decide)) rfl (vp_in_iff.mpr (by omega)) dX2_valueOf_139 ?_
              refine m_calll (m_runS (As := [.int (Ia6 (w + 1) (x7_6).toNatClampNeg), .long (La6 (22) (v9).toNatClampNeg), .long (La6 (22) (v7).toNatClampNeg)]) (rest := [.int (v8), .ref (ad (22))]) hx hb hml hown hts hE hM hS hA ce_X2_join tb_781 (V_X2_join_v l D A ad ns Ia6 La6 G (Ia6 (w + 1) (x7_6).toNatClampNeg) (La6 (22) (v9).toNatClampNeg) (La6 (22) (v7).toNatClampNeg) hI (by first | omega | decide)) rfl rfl ⟨Nat.le_of_ble_eq_true rfl, Nat.le_of_ble_eq_true rfl⟩  rfl hl.1 rfl (Nat.le_of_ble_eq_true rfl) dX2_valueOf_140 ⟨Nat.le_of_ble_eq_true rfl, Nat.le_of_ble_eq_true rfl⟩) hS (fun r10 u H locs hw hM hS => ?_)
              obtain ⟨rfl, xr10⟩ := hw
              have hM : Mem D A ad ns Ia6 La6 G H := hM
              refine m_last (22) hx hb hE hM hS (hG.1 22 (by decide)) rfl (vp_in_iff.mpr (by omega)) dX2_valueOf_143 (fun H locs L11 eL11 hM hS => ?_)
              obtain ⟨v12, ev12⟩ : ∃ z : Int32, z = x7_6 + Int32.ofInt (1) := ⟨_, rfl⟩
              have tv12 := a_inc ev12 (by decide) (by omega) (by omega)
              refine lv_iinc (v := v12) (lv' := [(7, .int (v12)), (6, .int (v7)), (8, .int (Ia6 (w + 1) (x7_6).toNatClampNeg)), (0, .ref (ad (20))), (1, .ref (ad (110))), (2, .ref (ad (w))), (3, .int (a0)), (4, .int (a1)), (5, .int (a2))]) hx hb dX2_valueOf_144 hl (k := 2) rfl ev12.symm (by decide) rfl (fun ls hl => ?_)
              refine lv_goto (tgt := 6) hx hb dX2_valueOf_147 (by decide) ?_
              exact ih6 (v12) (v7) Ia6 L11 _ _ ls hI hK (by first | omega | decide) (by first | omega | decide) (by omega) (by rw [show (v12).toNatClampNeg = (x7_6).toNatClampNeg + 1 from (by have z := tn (i := v12) (by omega); omega), show (a1.toInt - (v12).toInt).toNat = (a1.toInt - (x7_6).toInt - 1).toNat from (by omega)]; have hh := hV1; rw [← hsg] at hh; rw [show (x6_6).toNatClampNeg = (v8).toNatClampNeg + 2 from (by have z := tn (i := v8) (by omega); omega)] at hh; rw [show (v7).toNatClampNeg = (v8).toNatClampNeg + 1 from (by have z := tn (i := v8) (by omega); have z2 := tn (i := v7) (by omega); omega), eL11, ev_jn (e := (eC 110 I (a2).toNatClampNeg)) (c := (Ia6 (w + 1) (x7_6).toNatClampNeg).toInt) (by omega) (by rw [xr10, show (v9).toNatClampNeg = (v8).toNatClampNeg from (by have z := tn (i := v9) (by omega); have z2 := tn (i := v8) (by omega); omega), show (v7).toNatClampNeg = (v8).toNatClampNeg + 1 from (by have z := tn (i := v8) (by omega); have z2 := tn (i := v7) (by omega); omega)])]; exact hh) (by omega) hM hS (lv_sub hl [0, 1, 3, 4, 5, 6, 7, 8] rfl)
          · have hc4 := c4
            have q4 := q_eq hc4
            refine lv_iload hx hb dX2_valueOf_76 (lv_at hl 2 rfl) ?_
            refine lv_iconst (v := (1)) hx hb dX2_valueOf_78 (by decide) ?_
            refine lv_icmp_lt (tgt := 105) hx hb dX2_valueOf_79 (by decide) (fun c13 => ?_) (fun c13 => ?_)
            · have hc13 := c13
              have q13 := q_lt hc13
              refine lv_iload hx hb dX2_valueOf_105 (lv_at hl 2 rfl) ?_
              refine lv_iconst (v := (2)) hx hb dX2_valueOf_107 (by decide) ?_
              refine lv_icmp_lt (tgt := 144) hx hb dX2_valueOf_108 (by decide) (fun c14 => ?_) (fun c14 => ?_)
              · have hc14 := c14
                have q14 := q_lt hc14
                obtain ⟨v15, ev15⟩ : ∃ z : Int32, z = x7_6 + Int32.ofInt (1) := ⟨_, rfl⟩
                have tv15 := a_inc ev15 (by decide) (by omega) (by omega)
                refine lv_iinc (v := v15) (lv' := [(7, .int (v15)), (8, .int (Ia6 (w + 1) (x7_6).toNatClampNeg)), (6, .int (x6_6)), (0, .ref (ad (20))), (1, .ref (ad (110))), (2, .ref (ad (w))), (3, .int (a0)), (4, .int (a1)), (5, .int (a2))]) hx hb dX2_valueOf_144 hl (k := 1) rfl ev15.symm (by decide) rfl (fun ls hl => ?_)
                refine lv_goto (tgt := 6) hx hb dX2_valueOf_147 (by decide) ?_
                exact ih6 (v15) (x6_6) Ia6 La6 _ _ ls hI hK (by first | omega | decide) (by first | omega | decide) (by omega) (by exfalso; omega) (by omega) hM hS (lv_sub hl [0, 2, 3, 4, 5, 6, 7, 8] rfl)
              · have hc14 := c14
                have q14 := q_nlt hc14
                obtain ⟨v16, ev16⟩ : ∃ z : Int32, z = x6_6 + Int32.ofInt (-1) := ⟨_, rfl⟩
                have tv16 := a_inc ev16 (by decide) (by omega) (by omega)
                refine lv_iinc (v := v16) (lv' := [(6, .int (v16)), (8, .int (Ia6 (w + 1) (x7_6).toNatClampNeg)), (7, .int (x7_6)), (0, .ref (ad (20))), (1, .ref (ad (110))), (2, .ref (ad (w))), (3, .int (a0)), (4, .int (a1)), (5, .int (a2))]) hx hb dX2_valueOf_111 hl (k := 2) rfl ev16.symm (by decide) rfl (fun ls hl => ?_)
                refine lv_aload_n hx hb dX2_valueOf_114 rfl (lv_at hl 3 rfl) ?_
                refine m_getr (20) 2 (22) hx hb hts hown hE oc2 hM (hG.1 20 (by decide)) rfl (by decide) rfl (hG.2 (20, 2, 22) (by decide)) (by decide) tb_187 dX2_valueOf_115 ?_
                refine lv_iload hx hb dX2_valueOf_118 (lv_at hl 0 rfl) ?_
                refine lv_iconst (v := (1)) hx hb dX2_valueOf_120 (by decide) ?_
                refine lv_isub hx hb dX2_valueOf_121 ?_
                refine lv_topi (fun v17 ev17 => ?_)
                have tv17 := a_sub ev17 (by omega) (by omega)
                refine lv_iload hx hb dX2_valueOf_122 (lv_at hl 1 rfl) ?_
                refine lv_aload_n hx hb dX2_valueOf_124 rfl (lv_at hl 3 rfl) ?_
                refine m_getr (20) 2 (22) hx hb hts hown hE oc2 hM (hG.1 20 (by decide)) rfl (by decide) rfl (hG.2 (20, 2, 22) (by decide)) (by decide) tb_187 dX2_valueOf_125 ?_
                refine lv_iload hx hb dX2_valueOf_128 (lv_at hl 0 rfl) ?_
                refine lv_iconst (v := (1)) hx hb dX2_valueOf_130 (by decide) ?_
                refine lv_isub hx hb dX2_valueOf_131 ?_
                refine lv_topi (fun v18 ev18 => ?_)
                have tv18 := a_sub ev18 (by omega) (by omega)
                refine m_lald (22) hx hb hE hM (hG.1 22 (by decide)) rfl (vp_in_iff.mpr (by omega)) dX2_valueOf_132 ?_
                refine lv_aload_n hx hb dX2_valueOf_133 rfl (lv_at hl 3 rfl) ?_
                refine m_getr (20) 2 (22) hx hb hts hown hE oc2 hM (hG.1 20 (by decide)) rfl (by decide) rfl (hG.2 (20, 2, 22) (by decide)) (by decide) tb_187 dX2_valueOf_134 ?_
                refine lv_iload hx hb dX2_valueOf_137 (lv_at hl 0 rfl) ?_
                refine m_lald (22) hx hb hE hM (hG.1 22 (by decide)) rfl (vp_in_iff.mpr (by omega)) dX2_valueOf_139 ?_
                refine m_calll (m_runS (As := [.int (Ia6 (w + 1) (x7_6).toNatClampNeg), .long (La6 (22) (v18).toNatClampNeg), .long (La6 (22) (v16).toNatClampNeg)]) (rest := [.int (v17), .ref (ad (22))]) hx hb hml hown hts hE hM hS hA ce_X2_join tb_781 (V_X2_join_v l D A ad ns Ia6 La6 G (Ia6 (w + 1) (x7_6).toNatClampNeg) (La6 (22) (v18).toNatClampNeg) (La6 (22) (v16).toNatClampNeg) hI (by first | omega | decide)) rfl rfl ⟨Nat.le_of_ble_eq_true rfl, Nat.le_of_ble_eq_true rfl⟩  rfl hl.1 rfl (Nat.le_of_ble_eq_true rfl) dX2_valueOf_140 ⟨Nat.le_of_ble_eq_true rfl, Nat.le_of_ble_eq_true rfl⟩) hS (fun r19 u H locs hw hM hS => ?_)
                obtain ⟨rfl, xr19⟩ := hw
                have hM : Mem D A ad ns Ia6 La6 G H := hM
                refine m_last (22) hx hb hE hM hS (hG.1 22 (by decide)) rfl (vp_in_iff.mpr (by omega)) dX2_valueOf_143 (fun H locs L20 eL20 hM hS => ?_)
                obtain ⟨v21, ev21⟩ : ∃ z : Int32, z = x7_6 + Int32.ofInt (1) := ⟨_, rfl⟩
                have tv21 := a_inc ev21 (by decide) (by omega) (by omega)
                refine lv_iinc (v := v21) (lv' := [(7, .int (v21)), (6, .int (v16)), (8, .int (Ia6 (w + 1) (x7_6).toNatClampNeg)), (0, .ref (ad (20))), (1, .ref (ad (110))), (2, .ref (ad (w))), (3, .int (a0)), (4, .int (a1)), (5, .int (a2))]) hx hb dX2_valueOf_144 hl (k := 2) rfl ev21.symm (by decide) rfl (fun ls hl => ?_)
                refine lv_goto (tgt := 6) hx hb dX2_valueOf_147 (by decide) ?_
                exact ih6 (v21) (v16) Ia6 L20 _ _ ls hI hK (by first | omega | decide) (by first | omega | decide) (by omega) (by rw [show (v21).toNatClampNeg = (x7_6).toNatClampNeg + 1 from (by have z := tn (i := v21) (by omega); omega), show (a1.toInt - (v21).toInt).toNat = (a1.toInt - (x7_6).toInt - 1).toNat from (by omega)]; have hh := hV1; rw [← hsg] at hh; rw [show (x6_6).toNatClampNeg = (v17).toNatClampNeg + 2 from (by have z := tn (i := v17) (by omega); omega)] at hh; rw [show (v16).toNatClampNeg = (v17).toNatClampNeg + 1 from (by have z := tn (i := v17) (by omega); have z2 := tn (i := v16) (by omega); omega), eL20, ev_jn (e := (eC 110 I (a2).toNatClampNeg)) (c := (Ia6 (w + 1) (x7_6).toNatClampNeg).toInt) (by omega) (by rw [xr19, show (v18).toNatClampNeg = (v17).toNatClampNeg from (by have z := tn (i := v18) (by omega); have z2 := tn (i := v17) (by omega); omega), show (v16).toNatClampNeg = (v17).toNatClampNeg + 1 from (by have z := tn (i := v17) (by omega); have z2 := tn (i := v16) (by omega); omega)])]; exact hh) (by omega) hM hS (lv_sub hl [0, 1, 3, 4, 5, 6, 7, 8] rfl)
            · have hc13 := c13
              have q13 := q_nlt hc13
              refine lv_aload_n hx hb dX2_valueOf_82 rfl (lv_at hl 3 rfl) ?_
              refine m_getr (20) 2 (22) hx hb hts hown hE oc2 hM (hG.1 20 (by decide)) rfl (by decide) rfl (hG.2 (20, 2, 22) (by decide)) (by decide) tb_187 dX2_valueOf_83 ?_
              refine lv_iload hx hb dX2_valueOf_86 (lv_at hl 2 rfl) ?_
              refine lv_iconst (v := (1)) hx hb dX2_valueOf_88 (by decide) ?_
              refine lv_isub hx hb dX2_valueOf_89 ?_
              refine lv_topi (fun v22 ev22 => ?_)
              have tv22 := a_sub ev22 (by omega) (by omega)
              refine lv_lconst (v := 1) hx hb dX2_valueOf_90 (by decide) ?_
              refine lv_aload_n hx hb dX2_valueOf_91 rfl (lv_at hl 3 rfl) ?_
              refine m_getr (20) 2 (22) hx hb hts hown hE oc2 hM (hG.1 20 (by decide)) rfl (by decide) rfl (hG.2 (20, 2, 22) (by decide)) (by decide) tb_187 dX2_valueOf_92 ?_
              refine lv_iload hx hb dX2_valueOf_95 (lv_at hl 2 rfl) ?_
              refine lv_iconst (v := (1)) hx hb dX2_valueOf_97 (by decide) ?_
              refine lv_isub hx hb dX2_valueOf_98 ?_
              refine lv_topi (fun v23 ev23 => ?_)
              have tv23 := a_sub ev23 (by omega) (by omega)
              refine m_lald (22) hx hb hE hM (hG.1 22 (by decide)) rfl (vp_in_iff.mpr (by omega)) dX2_valueOf_99 ?_
              refine lv_lsub hx hb dX2_valueOf_100 ?_
              refine lv_topl (fun v24 ev24 => ?_)
              refine m_last (22) hx hb hE hM hS (hG.1 22 (by decide)) rfl (vp_in_iff.mpr (by omega)) dX2_valueOf_101 (fun H locs L25 eL25 hM hS => ?_)
              refine lv_goto (tgt := 144) hx hb dX2_valueOf_102 (by decide) ?_
              obtain ⟨v26, ev26⟩ : ∃ z : Int32, z = x7_6 + Int32.ofInt (1) := ⟨_, rfl⟩
              have tv26 := a_inc ev26 (by decide) (by omega) (by omega)
              refine lv_iinc (v := v26) (lv' := [(7, .int (v26)), (8, .int (Ia6 (w + 1) (x7_6).toNatClampNeg)), (6, .int (x6_6)), (0, .ref (ad (20))), (1, .ref (ad (110))), (2, .ref (ad (w))), (3, .int (a0)), (4, .int (a1)), (5, .int (a2))]) hx hb dX2_valueOf_144 hl (k := 1) rfl ev26.symm (by decide) rfl (fun ls hl => ?_)
              refine lv_goto (tgt := 6) hx hb dX2_valueOf_147 (by decide) ?_
              exact ih6 (v26) (x6_6) Ia6 L25 _ _ ls hI hK (by first | omega | decide) (by first | omega | decide) (by omega) (by rw [show (v26).toNatClampNeg = (x7_6).toNatClampNeg + 1 from (by have z := tn (i := v26) (by omega); omega), show (a1.toInt - (v26).toInt).toNat = (a1.toInt - (x7_6).toInt - 1).toNat from (by omega)]; have hh := hV1; rw [← hsg] at hh; rw [show (x6_6).toNatClampNeg = (v22).toNatClampNeg + 1 from (by have z := tn (i := v22) (by omega); omega)] at hh ⊢; rw [eL25, ev_not (e := (eC 110 I (a2).toNatClampNeg)) (by rw [ev24, show (v23).toNatClampNeg = (v22).toNatClampNeg from (by have z := tn (i := v23) (by omega); have z2 := tn (i := v22) (by omega); omega)])]; rw [show (Ia6 (w + 1) (x7_6).toNatClampNeg).toInt = -14 from (by omega)] at hh; exact hh) (by omega) hM hS (lv_sub hl [0, 2, 3, 4, 5, 6, 7, 8] rfl)
        · have hc3 := c3
          have q3 := q_nle hc3
          refine lv_iload hx hb dX2_valueOf_29 (lv_at hl 2 rfl) ?_
          refine lv_bipush (v := (64)) hx hb dX2_valueOf_31 (by decide) ?_
          refine lv_icmp_ge (tgt := 69) hx hb dX2_valueOf_33 (by decide) (fun c27 => ?_) (fun c27 => ?_)
          · have hc27 := c27
            have q27 := q_le hc27
            refine lv_iload hx hb dX2_valueOf_69 (lv_at hl 0 rfl) ?_
            refine lv_bipush (v := (-14)) hx hb dX2_valueOf_71 (by decide) ?_
            refine lv_icmp_ne (tgt := 105) hx hb dX2_valueOf_73 (by decide) (fun c28 => ?_) (fun c28 => ?_)
            · have hc28 := c28
              have q28 := q_ne hc28
              refine lv_iload hx hb dX2_valueOf_105 (lv_at hl 2 rfl) ?_
              refine lv_iconst (v := (2)) hx hb dX2_valueOf_107 (by decide) ?_
              refine lv_icmp_lt (tgt := 144) hx hb dX2_valueOf_108 (by decide) (fun c29 => ?_) (fun c29 => ?_)
              · have hc29 := c29
                have q29 := q_lt hc29
                obtain ⟨v30, ev30⟩ : ∃ z : Int32, z = x7_6 + Int32.ofInt (1) := ⟨_, rfl⟩
                have tv30 := a_inc ev30 (by decide) (by omega) (by omega)
                refine lv_iinc (v := v30) (lv' := [(7, .int (v30)), (8, .int (Ia6 (w + 1) (x7_6).toNatClampNeg)), (6, .int (x6_6)), (0, .ref (ad (20))), (1, .ref (ad (110))), (2, .ref (ad (w))), (3, .int (a0)), (4, .int (a1)), (5, .int (a2))]) hx hb dX2_valueOf_144 hl (k := 1) rfl ev30.symm (by decide) rfl (fun ls hl => ?_)
                refine lv_goto (tgt := 6) hx hb dX2_valueOf_147 (by decide) ?_
                exact ih6 (v30) (x6_6) Ia6 La6 _ _ ls hI hK (by first | omega | decide) (by first | omega | decide) (by omega) (by exfalso; omega) (by omega) hM hS (lv_sub hl [0, 2, 3, 4, 5, 6, 7, 8] rfl)
              · have hc29 := c29
                have q29 := q_nlt hc29
                obtain ⟨v31, ev31⟩ : ∃ z : Int32, z = x6_6 + Int32.ofInt (-1) := ⟨_, rfl⟩
                have tv31 := a_inc ev31 (by decide) (by omega) (by omega)
                refine lv_iinc (v := v31) (lv' := [(6, .int (v31)), (8, .int (Ia6 (w + 1) (x7_6).toNatClampNeg)), (7, .int (x7_6)), (0, .ref (ad (20))), (1, .ref (ad (110))), (2, .ref (ad (w))), (3, .int (a0)), (4, .int (a1)), (5, .int (a2))]) hx hb dX2_valueOf_111 hl (k := 2) rfl ev31.symm (by decide) rfl (fun ls hl => ?_)
                refine lv_aload_n hx hb dX2_valueOf_114 rfl (lv_at hl 3 rfl) ?_
                refine m_getr (20) 2 (22) hx hb hts hown hE oc2 hM (hG.1 20 (by decide)) rfl (by decide) rfl (hG.2 (20, 2, 22) (by decide)) (by decide) tb_187 dX2_valueOf_115 ?_
                refine lv_iload hx hb dX2_valueOf_118 (lv_at hl 0 rfl) ?_
                refine lv_iconst (v := (1)) hx hb dX2_valueOf_120 (by decide) ?_
                refine lv_isub hx hb dX2_valueOf_121 ?_
                refine lv_topi (fun v32 ev32 => ?_)
                have tv32 := a_sub ev32 (by omega) (by omega)
                refine lv_iload hx hb dX2_valueOf_122 (lv_at hl 1 rfl) ?_
                refine lv_aload_n hx hb dX2_valueOf_124 rfl (lv_at hl 3 rfl) ?_
                refine m_getr (20) 2 (22) hx hb hts hown hE oc2 hM (hG.1 20 (by decide)) rfl (by decide) rfl (hG.2 (20, 2, 22) (by decide)) (by decide) tb_187 dX2_valueOf_125 ?_
                refine lv_iload hx hb dX2_valueOf_128 (lv_at hl 0 rfl) ?_
                refine lv_iconst (v := (1)) hx hb dX2_valueOf_130 (by decide) ?_
                refine lv_isub hx hb dX2_valueOf_131 ?_
                refine lv_topi (fun v33 ev33 => ?_)
                have tv33 := a_sub ev33 (by omega) (by omega)
                refine m_lald (22) hx hb hE hM (hG.1 22 (by decide)) rfl (vp_in_iff.mpr (by omega)) dX2_valueOf_132 ?_
                refine lv_aload_n hx hb dX2_valueOf_133 rfl (lv_at hl 3 rfl) ?_
                refine m_getr (20) 2 (22) hx hb hts hown hE oc2 hM (hG.1 20 (by decide)) rfl (by decide) rfl (hG.2 (20, 2, 22) (by decide)) (by decide) tb_187 dX2_valueOf_134 ?_
                refine lv_iload hx hb dX2_valueOf_137 (lv_at hl 0 rfl) ?_
                refine m_lald (22) hx hb hE hM (hG.1 22 (by decide)) rfl (vp_in_iff.mpr (by omega)) dX2_valueOf_139 ?_
                refine m_calll (m_runS (As := [.int (Ia6 (w + 1) (x7_6).toNatClampNeg), .long (La6 (22) (v33).toNatClampNeg), .long (La6 (22) (v31).toNatClampNeg)]) (rest := [.int (v32), .ref (ad (22))]) hx hb hml hown hts hE hM hS hA ce_X2_join tb_781 (V_X2_join_v l D A ad ns Ia6 La6 G (Ia6 (w + 1) (x7_6).toNatClampNeg) (La6 (22) (v33).toNatClampNeg) (La6 (22) (v31).toNatClampNeg) hI (by first | omega | decide)) rfl rfl ⟨Nat.le_of_ble_eq_true rfl, Nat.le_of_ble_eq_true rfl⟩  rfl hl.1 rfl (Nat.le_of_ble_eq_true rfl) dX2_valueOf_140 ⟨Nat.le_of_ble_eq_true rfl, Nat.le_of_ble_eq_true rfl⟩) hS (fun r34 u H locs hw hM hS => ?_)
                obtain ⟨rfl, xr34⟩ := hw
                have hM : Mem D A ad ns Ia6 La6 G H := hM
                refine m_last (22) hx hb hE hM hS (hG.1 22 (by decide)) rfl (vp_in_iff.mpr (by omega)) dX2_valueOf_143 (fun H locs L35 eL35 hM hS => ?_)
                obtain ⟨v36, ev36⟩ : ∃ z : Int32, z = x7_6 + Int32.ofInt (1) := ⟨_, rfl⟩
                have tv36 := a_inc ev36 (by decide) (by omega) (by omega)
                refine lv_iinc (v := v36) (lv' := [(7, .int (v36)), (6, .int (v31)), (8, .int (Ia6 (w + 1) (x7_6).toNatClampNeg)), (0, .ref (ad (20))), (1, .ref (ad (110))), (2, .ref (ad (w))), (3, .int (a0)), (4, .int (a1)), (5, .int (a2))]) hx hb dX2_valueOf_144 hl (k := 2) rfl ev36.symm (by decide) rfl (fun ls hl => ?_)
                refine lv_goto (tgt := 6) hx hb dX2_valueOf_147 (by decide) ?_
                exact ih6 (v36) (v31) Ia6 L35 _ _ ls hI hK (by first | omega | decide) (by first | omega | decide) (by omega) (by rw [show (v36).toNatClampNeg = (x7_6).toNatClampNeg + 1 from (by have z := tn (i := v36) (by omega); omega), show (a1.toInt - (v36).toInt).toNat = (a1.toInt - (x7_6).toInt - 1).toNat from (by omega)]; have hh := hV1; rw [← hsg] at hh; rw [show (x6_6).toNatClampNeg = (v32).toNatClampNeg + 2 from (by have z := tn (i := v32) (by omega); omega)] at hh; rw [show (v31).toNatClampNeg = (v32).toNatClampNeg + 1 from (by have z := tn (i := v32) (by omega); have z2 := tn (i := v31) (by omega); omega), eL35, ev_jn (e := (eC 110 I (a2).toNatClampNeg)) (c := (Ia6 (w + 1) (x7_6).toNatClampNeg).toInt) (by omega) (by rw [xr34, show (v33).toNatClampNeg = (v32).toNatClampNeg from (by have z := tn (i := v33) (by omega); have z2 := tn (i := v32) (by omega); omega), show (v31).toNatClampNeg = (v32).toNatClampNeg + 1 from (by have z := tn (i := v32) (by omega); have z2 := tn (i := v31) (by omega); omega)])]; exact hh) (by omega) hM hS (lv_sub hl [0, 1, 3, 4, 5, 6, 7, 8] rfl)
            · have hc28 := c28
              have q28 := q_eq hc28
              refine lv_iload hx hb dX2_valueOf_76 (lv_at hl 2 rfl) ?_
              refine lv_iconst (v := (1)) hx hb dX2_valueOf_78 (by decide) ?_
              refine lv_icmp_lt (tgt := 105) hx hb dX2_valueOf_79 (by decide) (fun c37 => ?_) (fun c37 => ?_)
              · have hc37 := c37
                have q37 := q_lt hc37
                refine lv_iload hx hb dX2_valueOf_105 (lv_at hl 2 rfl) ?_
                refine lv_iconst (v := (2)) hx hb dX2_valueOf_107 (by decide) ?_
                refine lv_icmp_lt (tgt := 144) hx hb dX2_valueOf_108 (by decide) (fun c38 => ?_) (fun c38 => ?_)
                · have hc38 := c38
                  have q38 := q_lt hc38
                  obtain ⟨v39, ev39⟩ : ∃ z : Int32, z = x7_6 + Int32.ofInt (1) := ⟨_, rfl⟩
                  have tv39 := a_inc ev39 (by decide) (by omega) (by omega)
                  refine lv_iinc (v := v39) (lv' := [(7, .int (v39)), (8, .int (Ia6 (w + 1) (x7_6).toNatClampNeg)), (6, .int (x6_6)), (0, .ref (ad (20))), (1, .ref (ad (110))), (2, .ref (ad (w))), (3, .int (a0)), (4, .int (a1)), (5, .int (a2))]) hx hb dX2_valueOf_144 hl (k := 1) rfl ev39.symm (by decide) rfl (fun ls hl => ?_)
                  refine lv_goto (tgt := 6) hx hb dX2_valueOf_147 (by decide) ?_
                  exact ih6 (v39) (x6_6) Ia6 La6 _ _ ls hI hK (by first | omega | decide) (by first | omega | decide) (by omega) (by exfalso; omega) (by omega) hM hS (lv_sub hl [0, 2, 3, 4, 5, 6, 7, 8] rfl)
                · have hc38 := c38
                  have q38 := q_nlt hc38
                  obtain ⟨v40, ev40⟩ : ∃ z : Int32, z = x6_6 + Int32.ofInt (-1) := ⟨_, rfl⟩
                  have tv40 := a_inc ev40 (by decide) (by omega) (by omega)
                  refine lv_iinc (v := v40) (lv' := [(6, .int (v40)), (8, .int (Ia6 (w + 1) (x7_6).toNatClampNeg)), (7, .int (x7_6)), (0, .ref (ad (20))), (1, .ref (ad (110))), (2, .ref (ad (w))), (3, .int (a0)), (4, .int (a1)), (5, .int (a2))]) hx hb dX2_valueOf_111 hl (k := 2) rfl ev40.symm (by decide) rfl (fun ls hl => ?_)
                  refine lv_aload_n hx hb dX2_valueOf_114 rfl (lv_at hl 3 rfl) ?_
                  refine m_getr (20) 2 (22) hx hb hts hown hE oc2 hM (hG.1 20 (by decide)) rfl (by decide) rfl (hG.2 (20, 2, 22) (by decide)) (by decide) tb_187 dX2_valueOf_115 ?_
                  refine lv_iload hx hb dX2_valueOf_118 (lv_at hl 0 rfl) ?_
                  refine lv_iconst (v := (1)) hx hb dX2_valueOf_120 (by decide) ?_
                  refine lv_isub hx hb dX2_valueOf_121 ?_
                  refine lv_topi (fun v41 ev41 => ?_)
                  have tv41 := a_sub ev41 (by omega) (by omega)
                  refine lv_iload hx hb dX2_valueOf_122 (lv_at hl 1 rfl) ?_
                  refine lv_aload_n hx hb dX2_valueOf_124 rfl (lv_at hl 3 rfl) ?_
                  refine m_getr (20) 2 (22) hx hb hts hown hE oc2 hM (hG.1 20 (by decide)) rfl (by decide) rfl (hG.2 (20, 2, 22) (by decide)) (by decide) tb_187 dX2_valueOf_125 ?_
                  refine lv_iload hx hb dX2_valueOf_128 (lv_at hl 0 rfl) ?_
                  refine lv_iconst (v := (1)) hx hb dX2_valueOf_130 (by decide) ?_
                  refine lv_isub hx hb dX2_valueOf_131 ?_
                  refine lv_topi (fun v42 ev42 => ?_)
                  have tv42 := a_sub ev42 (by omega) (by omega)
                  refine m_lald (22) hx hb hE hM (hG.1 22 (by decide)) rfl (vp_in_iff.mpr (by omega)) dX2_valueOf_132 ?_
                  refine lv_aload_n hx hb dX2_valueOf_133 rfl (lv_at hl 3 rfl) ?_
                  refine m_getr (20) 2 (22) hx hb hts hown hE oc2 hM (hG.1 20 (by decide)) rfl (by decide) rfl (hG.2 (20, 2, 22) (by decide)) (by decide) tb_187 dX2_valueOf_134 ?_
                  refine lv_iload hx hb dX2_valueOf_137 (lv_at hl 0 rfl) ?_
                  refine m_lald (22) hx hb hE hM (hG.1 22 (by decide)) rfl (vp_in_iff.mpr (by omega)) dX2_valueOf_139 ?_
                  refine m_calll (m_runS (As := [.int (Ia6 (w + 1) (x7_6).toNatClampNeg), .long (La6 (22) (v42).toNatClampNeg), .long (La6 (22) (v40).toNatClampNeg)]) (rest := [.int (v41), .ref (ad (22))]) hx hb hml hown hts hE hM hS hA ce_X2_join tb_781 (V_X2_join_v l D A ad ns Ia6 La6 G (Ia6 (w + 1) (x7_6).toNatClampNeg) (La6 (22) (v42).toNatClampNeg) (La6 (22) (v40).toNatClampNeg) hI (by first | omega | decide)) rfl rfl ⟨Nat.le_of_ble_eq_true rfl, Nat.le_of_ble_eq_true rfl⟩  rfl hl.1 rfl (Nat.le_of_ble_eq_true rfl) dX2_valueOf_140 ⟨Nat.le_of_ble_eq_true rfl, Nat.le_of_ble_eq_true rfl⟩) hS (fun r43 u H locs hw hM hS => ?_)
                  obtain ⟨rfl, xr43⟩ := hw
                  have hM : Mem D A ad ns Ia6 La6 G H := hM
                  refine m_last (22) hx hb hE hM hS (hG.1 22 (by decide)) rfl (vp_in_iff.mpr (by omega)) dX2_valueOf_143 (fun H locs L44 eL44 hM hS => ?_)
                  obtain ⟨v45, ev45⟩ : ∃ z : Int32, z = x7_6 + Int32.ofInt (1) := ⟨_, rfl⟩
                  have tv45 := a_inc ev45 (by decide) (by omega) (by omega)
                  refine lv_iinc (v := v45) (lv' := [(7, .int (v45)), (6, .int (v40)), (8, .int (Ia6 (w + 1) (x7_6).toNatClampNeg)), (0, .ref (ad (20))), (1, .ref (ad (110))), (2, .ref (ad (w))), (3, .int (a0)), (4, .int (a1)), (5, .int (a2))]) hx hb dX2_valueOf_144 hl (k := 2) rfl ev45.symm (by decide) rfl (fun ls hl => ?_)
                  refine lv_goto (tgt := 6) hx hb dX2_valueOf_147 (by decide) ?_
                  exact ih6 (v45) (v40) Ia6 L44 _ _ ls hI hK (by first | omega | decide) (by first | omega | decide) (by omega) (by rw [show (v45).toNatClampNeg = (x7_6).toNatClampNeg + 1 from (by have z := tn (i := v45) (by omega); omega), show (a1.toInt - (v45).toInt).toNat = (a1.toInt - (x7_6).toInt - 1).toNat from (by omega)]; have hh := hV1; rw [← hsg] at hh; rw [show (x6_6).toNatClampNeg = (v41).toNatClampNeg + 2 from (by have z := tn (i := v41) (by omega); omega)] at hh; rw [show (v40).toNatClampNeg = (v41).toNatClampNeg + 1 from (by have z := tn (i := v41) (by omega); have z2 := tn (i := v40) (by omega); omega), eL44, ev_jn (e := (eC 110 I (a2).toNatClampNeg)) (c := (Ia6 (w + 1) (x7_6).toNatClampNeg).toInt) (by omega) (by rw [xr43, show (v42).toNatClampNeg = (v41).toNatClampNeg from (by have z := tn (i := v42) (by omega); have z2 := tn (i := v41) (by omega); omega), show (v40).toNatClampNeg = (v41).toNatClampNeg + 1 from (by have z := tn (i := v41) (by omega); have z2 := tn (i := v40) (by omega); omega)])]; exact hh) (by omega) hM hS (lv_sub hl [0, 1, 3, 4, 5, 6, 7, 8] rfl)
              · have hc37 := c37
                have q37 := q_nlt hc37
                refine lv_aload_n hx hb dX2_valueOf_82 rfl (lv_at hl 3 rfl) ?_
                refine m_getr (20) 2 (22) hx hb hts hown hE oc2 hM (hG.1 20 (by decide)) rfl (by decide) rfl (hG.2 (20, 2, 22) (by decide)) (by decide) tb_187 dX2_valueOf_83 ?_
                refine lv_iload hx hb dX2_valueOf_86 (lv_at hl 2 rfl) ?_
                refine lv_iconst (v := (1)) hx hb dX2_valueOf_88 (by decide) ?_
                refine lv_isub hx hb dX2_valueOf_89 ?_
                refine lv_topi (fun v46 ev46 => ?_)
                have tv46 := a_sub ev46 (by omega) (by omega)
                refine lv_lconst (v := 1) hx hb dX2_valueOf_90 (by decide) ?_
                refine lv_aload_n hx hb dX2_valueOf_91 rfl (lv_at hl 3 rfl) ?_
                refine m_getr (20) 2 (22) hx hb hts hown hE oc2 hM (hG.1 20 (by decide)) rfl (by decide) rfl (hG.2 (20, 2, 22) (by decide)) (by decide) tb_187 dX2_valueOf_92 ?_
                refine lv_iload hx hb dX2_valueOf_95 (lv_at hl 2 rfl) ?_
                refine lv_iconst (v := (1)) hx hb dX2_valueOf_97 (by decide) ?_
                refine lv_isub hx hb dX2_valueOf_98 ?_
                refine lv_topi (fun v47 ev47 => ?_)
                have tv47 := a_sub ev47 (by omega) (by omega)
                refine m_lald (22) hx hb hE hM (hG.1 22 (by decide)) rfl (vp_in_iff.mpr (by omega)) dX2_valueOf_99 ?_
                refine lv_lsub hx hb dX2_valueOf_100 ?_
                refine lv_topl (fun v48 ev48 => ?_)
                refine m_last (22) hx hb hE hM hS (hG.1 22 (by decide)) rfl (vp_in_iff.mpr (by omega)) dX2_valueOf_101 (fun H locs L49 eL49 hM hS => ?_)
                refine lv_goto (tgt := 144) hx hb dX2_valueOf_102 (by decide) ?_
                obtain ⟨v50, ev50⟩ : ∃ z : Int32, z = x7_6 + Int32.ofInt (1) := ⟨_, rfl⟩
                have tv50 := a_inc ev50 (by decide) (by omega) (by omega)
                refine lv_iinc (v := v50) (lv' := [(7, .int (v50)), (8, .int (Ia6 (w + 1) (x7_6).toNatClampNeg)), (6, .int (x6_6)), (0, .ref (ad (20))), (1, .ref (ad (110))), (2, .ref (ad (w))), (3, .int (a0)), (4, .int (a1)), (5, .int (a2))]) hx hb dX2_valueOf_144 hl (k := 1) rfl ev50.symm (by decide) rfl (fun ls hl => ?_)
                refine lv_goto (tgt := 6) hx hb dX2_valueOf_147 (by decide) ?_
                exact ih6 (v50) (x6_6) Ia6 L49 _ _ ls hI hK (by first | omega | decide) (by first | omega | decide) (by omega) (by rw [show (v50).toNatClampNeg = (x7_6).toNatClampNeg + 1 from (by have z := tn (i := v50) (by omega); omega), show (a1.toInt - (v50).toInt).toNat = (a1.toInt - (x7_6).toInt - 1).toNat from (by omega)]; have hh := hV1; rw [← hsg] at hh; rw [show (x6_6).toNatClampNeg = (v46).toNatClampNeg + 1 from (by have z := tn (i := v46) (by omega); omega)] at hh ⊢; rw [eL49, ev_not (e := (eC 110 I (a2).toNatClampNeg)) (by rw [ev48, show (v47).toNatClampNeg = (v46).toNatClampNeg from (by have z := tn (i := v47) (by omega); have z2 := tn (i := v46) (by omega); omega)])]; rw [show (Ia6 (w + 1) (x7_6).toNatClampNeg).toInt = -14 from (by omega)] at hh; exact hh) (by omega) hM hS (lv_sub hl [0, 2, 3, 4, 5, 6, 7, 8] rfl)
          · have hc27 := c27
            have q27 := q_nle hc27
            refine lv_aload_n hx hb dX2_valueOf_36 rfl (lv_at hl 3 rfl) ?_
            refine m_getr (20) 2 (22) hx hb hts hown hE oc2 hM (hG.1 20 (by decide)) rfl (by decide) rfl (hG.2 (20, 2, 22) (by decide)) (by decide) tb_187 dX2_valueOf_37 ?_
            refine lv_iload hx hb dX2_valueOf_40 (lv_at hl 2 rfl) ?_
            refine lv_iload hx hb dX2_valueOf_42 (lv_at hl 0 rfl) ?_
            refine lv_if_lt (tgt := 53) hx hb dX2_valueOf_44 (by decide) (fun c51 => ?_) (fun c51 => ?_)
            · have hc51 := c51
              have q51 := q_lt hc51
              refine lv_aload_n hx hb dX2_valueOf_53 rfl (lv_at hl 3 rfl) ?_
              refine lv_aload_n hx hb dX2_valueOf_54 rfl (lv_at hl 4 rfl) ?_
              refine lv_iload hx hb dX2_valueOf_55 (lv_at hl 0 rfl) ?_
              refine lv_iload hx hb dX2_valueOf_57 (lv_at hl 8 rfl) ?_
              refine m_calll (m_runV (20) (As := [.ref (ad (110)), .int (Ia6 (w + 1) (x7_6).toNatClampNeg), .int (a2)]) (rest := [.int (x6_6), .ref (ad (22))]) hx hb hml hown hts hE hM hS hA ce_X2_wordValue tb_762 (V_X2_wordValue_110_v l D A ad ns Ia6 La6 G (Ia6 (w + 1) (x7_6).toNatClampNeg) (a2) hG hI (by first | omega | decide) (by first | omega | decide)) rfl rfl ⟨Nat.le_of_ble_eq_true rfl, Nat.le_of_ble_eq_true rfl⟩ (hG.1 20 (by decide)) rfl rfl (by decide) rfl hl.1 rfl (Nat.le_of_ble_eq_true rfl) dX2_valueOf_59 ⟨Nat.le_of_ble_eq_true rfl, Nat.le_of_ble_eq_true rfl⟩) hS (fun r52 u H locs hw hM hS => ?_)
              obtain ⟨rfl, xr52⟩ := hw
              have hM : Mem D A ad ns Ia6 La6 G H := hM
              refine m_last (22) hx hb hE hM hS (hG.1 22 (by decide)) rfl (vp_in_iff.mpr (by omega)) dX2_valueOf_62 (fun H locs L53 eL53 hM hS => ?_)
              obtain ⟨v54, ev54⟩ : ∃ z : Int32, z = x6_6 + Int32.ofInt (1) := ⟨_, rfl⟩
              have tv54 := a_inc ev54 (by decide) (by omega) (by omega)
              refine lv_iinc (v := v54) (lv' := [(6, .int (v54)), (8, .int (Ia6 (w + 1) (x7_6).toNatClampNeg)), (7, .int (x7_6)), (0, .ref (ad (20))), (1, .ref (ad (110))), (2, .ref (ad (w))), (3, .int (a0)), (4, .int (a1)), (5, .int (a2))]) hx hb dX2_valueOf_63 hl (k := 2) rfl ev54.symm (by decide) rfl (fun ls hl => ?_)
              refine lv_goto (tgt := 144) hx hb dX2_valueOf_66 (by decide) ?_
              obtain ⟨v55, ev55⟩ : ∃ z : Int32, z = x7_6 + Int32.ofInt (1) := ⟨_, rfl⟩
              have tv55 := a_inc ev55 (by decide) (by omega) (by omega)
              refine lv_iinc (v := v55) (lv' := [(7, .int (v55)), (6, .int (v54)), (8, .int (Ia6 (w + 1) (x7_6).toNatClampNeg)), (0, .ref (ad (20))), (1, .ref (ad (110))), (2, .ref (ad (w))), (3, .int (a0)), (4, .int (a1)), (5, .int (a2))]) hx hb dX2_valueOf_144 hl (k := 2) rfl ev55.symm (by decide) rfl (fun ls hl => ?_)
              refine lv_goto (tgt := 6) hx hb dX2_valueOf_147 (by decide) ?_
              exact ih6 (v55) (v54) Ia6 L53 _ _ ls hI hK (by first | omega | decide) (by first | omega | decide) (by omega) (by rw [show (v55).toNatClampNeg = (x7_6).toNatClampNeg + 1 from (by have z := tn (i := v55) (by omega); omega), show (a1.toInt - (v55).toInt).toNat = (a1.toInt - (x7_6).toInt - 1).toNat from (by omega)]; have hh := hV1; rw [← hsg] at hh; rw [show (v54).toNatClampNeg = (x6_6).toNatClampNeg + 1 from (by have z := tn (i := v54) (by omega); omega), eL53, ev_push (e := (eC 110 I (a2).toNatClampNeg)) (c := (Ia6 (w + 1) (x7_6).toNatClampNeg).toInt) (by omega) (by unfold vl; rw [if_neg (by omega), ← hII]; exact xr52)]; exact hh) (by omega) hM hS (lv_sub hl [0, 1, 3, 4, 5, 6, 7, 8] rfl)
            · have hc51 := c51
              have q51 := q_nlt hc51
              refine lv_iload hx hb dX2_valueOf_47 (lv_at hl 0 rfl) ?_
              refine lv_i2l hx hb dX2_valueOf_49 rfl ?_
              refine lv_topl (fun v56 ev56 => ?_)
              have tv56 := q_i2l ev56
              refine lv_goto (tgt := 62) hx hb dX2_valueOf_50 (by decide) ?_
              refine m_last (22) hx hb hE hM hS (hG.1 22 (by decide)) rfl (vp_in_iff.mpr (by omega)) dX2_valueOf_62 (fun H locs L57 eL57 hM hS => ?_)
              obtain ⟨v58, ev58⟩ : ∃ z : Int32, z = x6_6 + Int32.ofInt (1) := ⟨_, rfl⟩
              have tv58 := a_inc ev58 (by decide) (by omega) (by omega)
              refine lv_iinc (v := v58) (lv' := [(6, .int (v58)), (8, .int (Ia6 (w + 1) (x7_6).toNatClampNeg)), (7, .int (x7_6)), (0, .ref (ad (20))), (1, .ref (ad (110))), (2, .ref (ad (w))), (3, .int (a0)), (4, .int (a1)), (5, .int (a2))]) hx hb dX2_valueOf_63 hl (k := 2) rfl ev58.symm (by decide) rfl (fun ls hl => ?_)
              refine lv_goto (tgt := 144) hx hb dX2_valueOf_66 (by decide) ?_
              obtain ⟨v59, ev59⟩ : ∃ z : Int32, z = x7_6 + Int32.ofInt (1) := ⟨_, rfl⟩
              have tv59 := a_inc ev59 (by decide) (by omega) (by omega)
              refine lv_iinc (v := v59) (lv' := [(7, .int (v59)), (6, .int (v58)), (8, .int (Ia6 (w + 1) (x7_6).toNatClampNeg)), (0, .ref (ad (20))), (1, .ref (ad (110))), (2, .ref (ad (w))), (3, .int (a0)), (4, .int (a1)), (5, .int (a2))]) hx hb dX2_valueOf_144 hl (k := 2) rfl ev59.symm (by decide) rfl (fun ls hl => ?_)
              refine lv_goto (tgt := 6) hx hb dX2_valueOf_147 (by decide) ?_
              exact ih6 (v59) (v58) Ia6 L57 _ _ ls hI hK (by first | omega | decide) (by first | omega | decide) (by omega) (by rw [show (v59).toNatClampNeg = (x7_6).toNatClampNeg + 1 from (by have z := tn (i := v59) (by omega); omega), show (a1.toInt - (v59).toInt).toNat = (a1.toInt - (x7_6).toInt - 1).toNat from (by omega)]; have hh := hV1; rw [← hsg] at hh; rw [show (v58).toNatClampNeg = (x6_6).toNatClampNeg + 1 from (by have z := tn (i := v58) (by omega); omega), eL57, ev_push (e := (eC 110 I (a2).toNatClampNeg)) (c := (Ia6 (w + 1) (x7_6).toNatClampNeg).toInt) (by omega) (by unfold vl; rw [if_pos (by omega)]; exact (ev56).trans (i64_of _))]; exact hh) (by omega) hM hS (lv_sub hl [0, 1, 3, 4, 5, 6, 7, 8] rfl)
  exact loop6 (_ + 1) (a0) (0) I L _ _ ls hI hK (by first | omega | decide) (by first | omega | decide) (by omega) (EVI.z hty hcv) (Nat.lt_succ_self _) hM hS (lv_sub hl [0, 1, 2, 3, 4, 5, 6, 7] rfl)
