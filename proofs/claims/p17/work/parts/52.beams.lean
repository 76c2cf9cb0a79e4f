theorem dX1_clear_0 : decode cX1_clear 0 = .ok (.aload_n 0, 1) := by decide +kernel
theorem dX1_clear_1 : decode cX1_clear 1 = .ok (.getfield 9, 3) := by decide +kernel
theorem dX1_clear_4 : decode cX1_clear 4 = .ok (.iconst 0, 1) := by decide +kernel
theorem dX1_clear_5 : decode cX1_clear 5 = .ok (.invokestatic 63, 3) := by decide +kernel
theorem dX1_clear_8 : decode cX1_clear 8 = .ok (.aload_n 0, 1) := by decide +kernel
theorem dX1_clear_9 : decode cX1_clear 9 = .ok (.iconst 0, 1) := by decide +kernel
theorem dX1_clear_10 : decode cX1_clear 10 = .ok (.putfield 83, 3) := by decide +kernel
theorem dX1_clear_13 : decode cX1_clear 13 = .ok (.aload_n 0, 1) := by decide +kernel
theorem dX1_clear_14 : decode cX1_clear 14 = .ok (.iconst 0, 1) := by decide +kernel
theorem dX1_clear_15 : decode cX1_clear 15 = .ok (.putfield 86, 3) := by decide +kernel
theorem dX1_clear_18 : decode cX1_clear 18 = .ok (.aload_n 0, 1) := by decide +kernel
theorem dX1_clear_19 : decode cX1_clear 19 = .ok (.iconst 0, 1) := by decide +kernel
theorem dX1_clear_20 : decode cX1_clear 20 = .ok (.putfield 89, 3) := by decide +kernel
theorem dX1_clear_23 : decode cX1_clear 23 = .ok (.aload_n 0, 1) := by decide +kernel
theorem dX1_clear_24 : decode cX1_clear 24 = .ok (.iconst 1, 1) := by decide +kernel
theorem dX1_clear_25 : decode cX1_clear 25 = .ok (.putfield 92, 3) := by decide +kernel
theorem dX1_clear_28 : decode cX1_clear 28 = .ok (.aload_n 0, 1) := by decide +kernel
theorem dX1_clear_29 : decode cX1_clear 29 = .ok (.iconst 0, 1) := by decide +kernel
theorem dX1_clear_30 : decode cX1_clear 30 = .ok (.putfield 95, 3) := by decide +kernel
theorem dX1_clear_33 : decode cX1_clear 33 = .ok (.aload_n 0, 1) := by decide +kernel
theorem dX1_clear_34 : decode cX1_clear 34 = .ok (.iconst 0, 1) := by decide +kernel
theorem dX1_clear_35 : decode cX1_clear 35 = .ok (.putfield 73, 3) := by decide +kernel
theorem dX1_clear_38 : decode cX1_clear 38 = .ok (.aload_n 0, 1) := by decide +kernel
theorem dX1_clear_39 : decode cX1_clear 39 = .ok (.iconst 0, 1) := by decide +kernel
theorem dX1_clear_40 : decode cX1_clear 40 = .ok (.putfield 50, 3) := by decide +kernel
theorem dX1_clear_43 : decode cX1_clear 43 = .ok (.aload_n 0, 1) := by decide +kernel
theorem dX1_clear_44 : decode cX1_clear 44 = .ok (.iconst 0, 1) := by decide +kernel
theorem dX1_clear_45 : decode cX1_clear 45 = .ok (.putfield 47, 3) := by decide +kernel
theorem dX1_clear_48 : decode cX1_clear 48 = .ok (.return_, 1) := by decide +kernel
theorem ce_X1_clear : CeV RX1 yX1_clear cX1_clear 1 none 0 := ⟨tb_807, tp_28, tb_3, tb_808, rfl, by decide, by decide, by decide +kernel⟩
set_option maxHeartbeats 4000000 in
set_option maxRecDepth 20000 in
theorem V_X1_clear (l : Launch) (D : va_G) (A : Nat → Prop) (ad : Nat → Nat) (ns : List Nat) (I : MI) (L : ML) (G : MG) (hG : SGC ns G) (hI : INV I) : Met l yX1_clear (wd yX1_clear cX1_clear 1 none) ({ frames := 1, cells := 0, slots := 0, locals := 23 }) (va_Pc [.ref (ad (10))] (PM D A ad ns I L G)) (va_Qv (fun u => ∃ I2 L2, u = (ad, ns, I2, L2, G) ∧ INV I2 ∧ Kp [(11, 12)] [(10, 2), (10, 3), (10, 4), (10, 5), (10, 6), (10, 7), (10, 11), (10, 12)] I I2) (BM D A) A) 0 0 A := by
  refine m_ofW (by decide) (Nat.le_of_ble_eq_true rfl) ?_
  intro p e s m below meth c ls args hC hE hM hA hS hl
  obtain ⟨hx, hb, hml, hown, hts, hr, hlocks, hin⟩ := hC
  have k0 : (0 : Int32).toInt = 0 := by decide
  have k1 : (1 : Int32).toInt = 1 := by decide
  have hK : Kp [(11, 12)] [(10, 2), (10, 3), (10, 4), (10, 5), (10, 6), (10, 7), (10, 11), (10, 12)] I I := Kp.rf
  have hl : lv_has ls 1 [(0, .ref (ad (10)))] := hl
  refine lv_aload_n hx hb dX1_clear_0 rfl (lv_at hl 0 rfl) ?_
  refine m_getr (10) 0 (11) hx hb hts hown hE oc1 hM (hG.1 10 (by decide)) rfl (by decide) rfl (hG.2 (10, 0, 11) (by decide)) (by decide) tb_129 dX1_clear_1 ?_
  refine lv_iconst (v := (0)) hx hb dX1_clear_4 (by decide) ?_
  refine m_callv (m_runS (As := [.ref (ad (11)), .int (0)]) (rest := []) hx hb hml hown hts hE hM hS hA ce_J7_fill_53178 tb_800 (C_J7_fill_53178 l D A ad ns I L G (11) 8 (0) (hG.1 11 (by decide)) rfl (by decide)) rfl rfl ⟨Nat.le_of_ble_eq_true rfl, Nat.le_of_ble_eq_true rfl⟩  rfl hl.1 rfl (Nat.le_of_ble_eq_true rfl) dX1_clear_5 ⟨Nat.le_of_ble_eq_true rfl, Nat.le_of_ble_eq_true rfl⟩) hS (fun u H locs hw hM hS => ?_)
  subst hw
  obtain ⟨I1, eI1⟩ : ∃ z : MI, z = fillI I 11 8 (0) := ⟨_, rfl⟩
  have hM : Mem D A ad ns I1 L G H := by rw [eI1]; exact hM
  have hkI1 : Kp [(11, 12)] [] I I1 := by rw [eI1]; exact Kp.rf.fill rfl
  have hI : INV I1 := by rw [eI1]; exact hI.fill (fun k _ => (by decide : (-2147483648 : Int) ≤ (0 : Int32).toInt ∧ (0 : Int32).toInt ≤ (2147483647 : Int)))
  have hK := hK.trans hkI1 rfl
  refine lv_aload_n hx hb dX1_clear_8 rfl (lv_at hl 0 rfl) ?_
  refine lv_iconst (v := (0)) hx hb dX1_clear_9 (by decide) ?_
  refine m_puti (10) 2 hx hb hts hown hE oc1 hM hS (hG.1 10 (by decide)) rfl (by decide) rfl rfl rfl rfl tb_136 dX1_clear_10 (fun H locs I2 eI2 hM hS => ?_)
  subst eI2
  have hI := hI.putF (n := 10) (k := 2) (v := 0) rfl
  have hK := hK.put (n := 10) (k := 2) (v := 0) (by first | rfl | simp [inR])
  refine lv_aload_n hx hb dX1_clear_13 rfl (lv_at hl 0 rfl) ?_
  refine lv_iconst (v := (0)) hx hb dX1_clear_14 (by decide) ?_
  refine m_puti (10) 3 hx hb hts hown hE oc1 hM hS (hG.1 10 (by decide)) rfl (by decide) rfl rfl rfl rfl tb_138 dX1_clear_15 (fun H locs I3 eI3 hM hS => ?_)
  subst eI3
  have hI := hI.putF (n := 10) (k := 3) (v := 0) rfl
  have hK := hK.put (n := 10) (k := 3) (v := 0) (by first | rfl | simp [inR])
  refine lv_aload_n hx hb dX1_clear_18 rfl (lv_at hl 0 rfl) ?_
  refine lv_iconst (v := (0)) hx hb dX1_clear_19 (by decide) ?_
  refine m_puti (10) 4 hx hb hts hown hE oc1 hM hS (hG.1 10 (by decide)) rfl (by decide) rfl rfl rfl rfl tb_140 dX1_clear_20 (fun H locs I4 eI4 hM hS => ?_)
  subst eI4
  have hI := hI.put (n := 10) (k := 4) (v := 0) (lo := 0) (hi := 2000) rfl (by first | omega | decide)
  have hK := hK.put (n := 10) (k := 4) (v := 0) (by first | rfl | simp [inR])
  refine lv_aload_n hx hb dX1_clear_23 rfl (lv_at hl 0 rfl) ?_
  refine lv_iconst (v := (1)) hx hb dX1_clear_24 (by decide) ?_
  refine m_puti (10) 5 hx hb hts hown hE oc1 hM hS (hG.1 10 (by decide)) rfl (by decide) rfl rfl rfl rfl tb_142 dX1_clear_25 (fun H locs I5 eI5 hM hS => ?_)
  subst eI5
  have hI := hI.putF (n := 10) (k := 5) (v := 1) rfl
  have hK := hK.put (n := 10) (k := 5) (v := 1) (by first | rfl | simp [inR])
  refine lv_aload_n hx hb dX1_clear_28 rfl (lv_at hl 0 rfl) ?_
  refine lv_iconst (v := (0)) hx hb dX1_clear_29 (by decide) ?_
  refine m_puti (10) 6 hx hb hts hown hE oc1 hM hS (hG.1 10 (by decide)) rfl (by decide) rfl rfl rfl rfl tb_144 dX1_clear_30 (fun H locs I6 eI6 hM hS => ?_)
  subst eI6
  have hI := hI.put (n := 10) (k := 6) (v := 0) (lo := 0) (hi := 1) rfl (by first | omega | decide)
  have hK := hK.put (n := 10) (k := 6) (v := 0) (by first | rfl | simp [inR])
  refine lv_aload_n hx hb dX1_clear_33 rfl (lv_at hl 0 rfl) ?_
  refine lv_iconst (v := (0)) hx hb dX1_clear_34 (by decide) ?_
  refine m_puti (10) 7 hx hb hts hown hE oc1 hM hS (hG.1 10 (by decide)) rfl (by decide) rfl rfl rfl rfl tb_146 dX1_clear_35 (fun H locs I7 eI7 hM hS => ?_)
  subst eI7
  have hI := hI.putF (n := 10) (k := 7) (v := 0) rfl
  have hK := hK.put (n := 10) (k := 7) (v := 0) (by first | rfl | simp [inR])
  refine lv_aload_n hx hb dX1_clear_38 rfl (lv_at hl 0 rfl) ?_
  refine lv_iconst (v := (0)) hx hb dX1_clear_39 (by decide) ?_
  refine m_puti (10) 11 hx hb hts hown hE oc1 hM hS (hG.1 10 (by decide)) rfl (by decide) rfl rfl rfl rfl tb_150 dX1_clear_40 (fun H locs I8 eI8 hM hS => ?_)
  subst eI8
  have hI := hI.put (n := 10) (k := 11) (v := 0) (lo := 0) (hi := 59) rfl (by first | omega | decide)
  have hK := hK.put (n := 10) (k := 11) (v := 0) (by first | rfl | simp [inR])
  refine lv_aload_n hx hb dX1_clear_43 rfl (lv_at hl 0 rfl) ?_
  refine lv_iconst (v := (0)) hx hb dX1_clear_44 (by decide) ?_
  refine m_puti (10) 12 hx hb hts hown hE oc1 hM hS (hG.1 10 (by decide)) rfl (by decide) rfl rfl rfl rfl tb_151 dX1_clear_45 (fun H locs I9 eI9 hM hS => ?_)
  subst eI9
  have hI := hI.put (n := 10) (k := 12) (v := 0) (lo := 0) (hi := 60) rfl (by first | omega | decide)
  have hK := hK.put (n := 10) (k := 12) (v := 0) (by first | rfl | simp [inR])
  exact m_vret hx hb hr hlocks hM hS (Nat.le_of_ble_eq_true rfl) (Nat.le_of_ble_eq_true rfl) ⟨_, _, rfl, hI, hK⟩ dX1_clear_48
theorem dX1_letWait_0 : decode cX1_letWait 0 = .ok (.aload_n 0, 1) := by decide +kernel
theorem dX1_letWait_1 : decode cX1_letWait 1 = .ok (.getfield 47, 3) := by decide +kernel
theorem dX1_letWait_4 : decode cX1_letWait 4 = .ok (.bipush 60, 2) := by decide +kernel
theorem dX1_letWait_6 : decode cX1_letWait 6 = .ok (.if_icmp .lt 19, 3) := by decide +kernel
theorem dX1_letWait_9 : decode cX1_letWait 9 = .ok (.aload_n 0, 1) := by decide +kernel
theorem dX1_letWait_10 : decode cX1_letWait 10 = .ok (.dup, 1) := by decide +kernel
theorem dX1_letWait_11 : decode cX1_letWait 11 = .ok (.getfield 86, 3) := by decide +kernel
theorem dX1_letWait_14 : decode cX1_letWait 14 = .ok (.iload_n 2, 1) := by decide +kernel
theorem dX1_letWait_15 : decode cX1_letWait 15 = .ok (.iadd, 1) := by decide +kernel
theorem dX1_letWait_16 : decode cX1_letWait 16 = .ok (.putfield 86, 3) := by decide +kernel
theorem dX1_letWait_19 : decode cX1_letWait 19 = .ok (.aload_n 0, 1) := by decide +kernel
theorem dX1_letWait_20 : decode cX1_letWait 20 = .ok (.iconst 1, 1) := by decide +kernel
theorem dX1_letWait_21 : decode cX1_letWait 21 = .ok (.putfield 95, 3) := by decide +kernel
theorem dX1_letWait_24 : decode cX1_letWait 24 = .ok (.return_, 1) := by decide +kernel
theorem dX1_letWait_25 : decode cX1_letWait 25 = .ok (.aload_n 0, 1) := by decide +kernel
theorem dX1_letWait_26 : decode cX1_letWait 26 = .ok (.getfield 50, 3) := by decide +kernel
theorem dX1_letWait_29 : decode cX1_letWait 29 = .ok (.aload_n 0, 1) := by decide +kernel
theorem dX1_letWait_30 : decode cX1_letWait 30 = .ok (.getfield 47, 3) := by decide +kernel
theorem dX1_letWait_33 : decode cX1_letWait 33 = .ok (.iadd, 1) := by decide +kernel
theorem dX1_letWait_34 : decode cX1_letWait 34 = .ok (.bipush 60, 2) := by decide +kernel
theorem dX1_letWait_36 : decode cX1_letWait 36 = .ok (.irem, 1) := by decide +kernel
theorem dX1_letWait_37 : decode cX1_letWait 37 = .ok (.istore_n 3, 1) := by decide +kernel
theorem dX1_letWait_38 : decode cX1_letWait 38 = .ok (.aload_n 0, 1) := by decide +kernel
theorem dX1_letWait_39 : decode cX1_letWait 39 = .ok (.getfield 18, 3) := by decide +kernel
theorem dX1_letWait_42 : decode cX1_letWait 42 = .ok (.iload_n 3, 1) := by decide +kernel
theorem dX1_letWait_43 : decode cX1_letWait 43 = .ok (.iload_n 1, 1) := by decide +kernel
theorem dX1_letWait_44 : decode cX1_letWait 44 = .ok (.iastore, 1) := by decide +kernel
theorem dX1_letWait_45 : decode cX1_letWait 45 = .ok (.aload_n 0, 1) := by decide +kernel
theorem dX1_letWait_46 : decode cX1_letWait 46 = .ok (.getfield 21, 3) := by decide +kernel
theorem dX1_letWait_49 : decode cX1_letWait 49 = .ok (.iload_n 3, 1) := by decide +kernel
theorem dX1_letWait_50 : decode cX1_letWait 50 = .ok (.iload_n 2, 1) := by decide +kernel
theorem dX1_letWait_51 : decode cX1_letWait 51 = .ok (.iastore, 1) := by decide +kernel
theorem dX1_letWait_52 : decode cX1_letWait 52 = .ok (.aload_n 0, 1) := by decide +kernel
theorem dX1_letWait_53 : decode cX1_letWait 53 = .ok (.dup, 1) := by decide +kernel
theorem dX1_letWait_54 : decode cX1_letWait 54 = .ok (.getfield 47, 3) := by decide +kernel
theorem dX1_letWait_57 : decode cX1_letWait 57 = .ok (.iconst 1, 1) := by decide +kernel
theorem dX1_letWait_58 : decode cX1_letWait 58 = .ok (.iadd, 1) := by decide +kernel
theorem dX1_letWait_59 : decode cX1_letWait 59 = .ok (.putfield 47, 3) := by decide +kernel
theorem dX1_letWait_62 : decode cX1_letWait 62 = .ok (.aload_n 0, 1) := by decide +kernel
theorem dX1_letWait_63 : decode cX1_letWait 63 = .ok (.dup, 1) := by decide +kernel
theorem dX1_letWait_64 : decode cX1_letWait 64 = .ok (.getfield 92, 3) := by decide +kernel
theorem dX1_letWait_67 : decode cX1_letWait 67 = .ok (.iconst 1, 1) := by decide +kernel
theorem dX1_letWait_68 : decode cX1_letWait 68 = .ok (.iadd, 1) := by decide +kernel
theorem dX1_letWait_69 : decode cX1_letWait 69 = .ok (.putfield 92, 3) := by decide +kernel
theorem dX1_letWait_72 : decode cX1_letWait 72 = .ok (.return_, 1) := by decide +kernel
theorem ce_X1_letWait : CeV RX1 yX1_letWait cX1_letWait 4 none 2 := ⟨tb_853, tp_33, tb_3, tb_854, rfl, by decide, by decide, by decide +kernel⟩
set_option maxHeartbeats 4000000 in
set_option maxRecDepth 20000 in
theorem V_X1_letWait (l : Launch) (D : va_G) (A : Nat → Prop) (ad : Nat → Nat) (ns : List Nat) (I : MI) (L : ML) (G : MG) (a0 : Int32) (a1 : Int32) (hG : SGC ns G) (hI : INV I) (ha0 : 0 ≤ a0.toInt ∧ a0.toInt ≤ 4607) : Met l yX1_letWait (wd yX1_letWait cX1_letWait 4 none) ({ frames := 0, cells := 0, slots := 0, locals := 0 }) (va_Pc [.ref (ad (10)), .int a0, .int a1] (PM D A ad ns I L G)) (va_Qv (fun u => ∃ I2 L2, u = (ad, ns, I2, L2, G) ∧ INV I2 ∧ Kp [(13, 15)] [(10, 3), (10, 5), (10, 6), (10, 12)] I I2) (BM D A) A) 0 0 A := by
  refine m_ofW (by decide) (Nat.le_of_ble_eq_true rfl) ?_
  intro p e s m below meth c ls args hC hE hM hA hS hl
  obtain ⟨hx, hb, hml, hown, hts, hr, hlocks, hin⟩ := hC
  have k0 : (0 : Int32).toInt = 0 := by decide
  have k1 : (1 : Int32).toInt = 1 := by decide
  have k60 : (60 : Int32).toInt = 60 := by decide
  have hK : Kp [(13, 15)] [(10, 3), (10, 5), (10, 6), (10, 12)] I I := Kp.rf
  have hl : lv_has ls 4 [(0, .ref (ad (10))), (1, .int (a0)), (2, .int (a1))] := hl
  refine lv_aload_n hx hb dX1_letWait_0 rfl (lv_at hl 0 rfl) ?_
  refine m_geti (10) 12 hx hb hts hown hE oc1 hM (hG.1 10 (by decide)) rfl (by decide) rfl tb_151 dX1_letWait_1 ?_
  have g1 := hI.get (10) 12 (lo := 0) (hi := 60) rfl
  refine lv_bipush (v := (60)) hx hb dX1_letWait_4 (by decide) ?_
  refine lv_icmp_lt (tgt := 25) hx hb dX1_letWait_6 (by decide) (fun c2 => ?_) (fun c2 => ?_)
  · have hc2 := c2
    have q2 := q_lt hc2
    refine lv_aload_n hx hb dX1_letWait_25 rfl (lv_at hl 0 rfl) ?_
    refine m_geti (10) 11 hx hb hts hown hE oc1 hM (hG.1 10 (by decide)) rfl (by decide) rfl tb_150 dX1_letWait_26 ?_
    have g3 := hI.get (10) 11 (lo := 0) (hi := 59) rfl
    refine lv_aload_n hx hb dX1_letWait_29 rfl (lv_at hl 0 rfl) ?_
    refine m_geti (10) 12 hx hb hts hown hE oc1 hM (hG.1 10 (by decide)) rfl (by decide) rfl tb_151 dX1_letWait_30 ?_
    refine lv_iadd hx hb dX1_letWait_33 ?_
    refine lv_topi (fun v4 ev4 => ?_)
    have tv4 := a_add ev4 (by omega) (by omega)
    refine lv_bipush (v := (60)) hx hb dX1_letWait_34 (by decide) ?_
    refine lv_irem hx hb dX1_letWait_36 (by decide) ?_
    refine lv_topi (fun v5 ev5 => ?_)
    have tv5 := a_rem (c := 60) ev5 (by decide) (by decide) (by omega)
    refine lv_istore_n (lv' := [(3, .int (v5)), (0, .ref (ad (10))), (1, .int (a0)), (2, .int (a1))]) hx hb dX1_letWait_37 rfl hl (by decide) rfl (fun ls hl => ?_)
    refine lv_aload_n hx hb dX1_letWait_38 rfl (lv_at hl 1 rfl) ?_
    refine m_getr (10) 9 (13) hx hb hts hown hE oc1 hM (hG.1 10 (by decide)) rfl (by decide) rfl (hG.2 (10, 9, 13) (by decide)) (by decide) tb_148 dX1_letWait_39 ?_
    refine lv_iload_n hx hb dX1_letWait_42 rfl (lv_at hl 0 rfl) ?_
    refine lv_iload_n hx hb dX1_letWait_43 rfl (lv_at hl 2 rfl) ?_
    refine m_iast (13) hx hb hE hM hS (hG.1 13 (by decide)) rfl (vp_in_iff.mpr (by omega)) dX1_letWait_44 (fun H locs I6 eI6 hM hS => ?_)
    subst eI6
    have hI := hI.put (n := 13) (k := ((v5).toNatClampNeg)) (v := a0) (lo := 0) (hi := 4607) rfl (by first | omega | decide)
    have hK := hK.put (n := 13) (k := ((v5).toNatClampNeg)) (v := a0) (by first | rfl | simp [inR])
    refine lv_aload_n hx hb dX1_letWait_45 rfl (lv_at hl 1 rfl) ?_
    refine m_getr (10) 10 (14) hx hb hts hown hE oc1 hM (hG.1 10 (by decide)) rfl (by decide) rfl (hG.2 (10, 10, 14) (by decide)) (by decide) tb_149 dX1_letWait_46 ?_
    refine lv_iload_n hx hb dX1_letWait_49 rfl (lv_at hl 0 rfl) ?_
    refine lv_iload_n hx hb dX1_letWait_50 rfl (lv_at hl 3 rfl) ?_
    refine m_iast (14) hx hb hE hM hS (hG.1 14 (by decide)) rfl (vp_in_iff.mpr (by omega)) dX1_letWait_51 (fun H locs I7 eI7 hM hS => ?_)
    subst eI7
    have hI := hI.putF (n := 14) (k := ((v5).toNatClampNeg)) (v := a1) rfl
    have hK := hK.put (n := 14) (k := ((v5).toNatClampNeg)) (v := a1) (by first | rfl | simp [inR])
    refine lv_aload_n hx hb dX1_letWait_52 rfl (lv_at hl 1 rfl) ?_
    refine lv_dup hx hb dX1_letWait_53 rfl ?_
    refine m_geti (10) 12 hx hb hts hown hE oc1 hM (hG.1 10 (by decide)) rfl (by decide) rfl tb_151 dX1_letWait_54 ?_
    have z8 : (u2 (u2 I (13) ((v5).toNatClampNeg) (a0)) (14) ((v5).toNatClampNeg) (a1)) (10) 12 = I (10) 12 := (show (u2 (u2 I (13) ((v5).toNatClampNeg) (a0)) (14) ((v5).toNatClampNeg) (a1)) (10) 12 = I (10) 12 from by simp [u2_v])
    rw [z8]
    refine lv_iconst (v := (1)) hx hb dX1_letWait_57 (by decide) ?_
    refine lv_iadd hx hb dX1_letWait_58 ?_
    refine lv_topi (fun v9 ev9 => ?_)
    have tv9 := a_add ev9 (by omega) (by omega)
    refine m_puti (10) 12 hx hb hts hown hE oc1 hM hS (hG.1 10 (by decide)) rfl (by decide) rfl rfl rfl rfl tb_151 dX1_letWait_59 (fun H locs I10 eI10 hM hS => ?_)
    subst eI10
    have hI := hI.put (n := 10) (k := 12) (v := v9) (lo := 0) (hi := 60) rfl (by first | omega | decide)
    have hK := hK.put (n := 10) (k := 12) (v := v9) (by first | rfl | simp [inR])
    refine lv_aload_n hx hb dX1_letWait_62 rfl (lv_at hl 1 rfl) ?_
    refine lv_dup hx hb dX1_letWait_63 rfl ?_
    refine m_geti (10) 5 hx hb hts hown hE oc1 hM (hG.1 10 (by decide)) rfl (by decide) rfl tb_142 dX1_letWait_64 ?_
    have z11 : (u2 (u2 (u2 I (13) ((v5).toNatClampNeg) (a0)) (14) ((v5).toNatClampNeg) (a1)) (10) 12 (v9)) (10) 5 = I (10) 5 := (show (u2 (u2 (u2 I (13) ((v5).toNatClampNeg) (a0)) (14) ((v5).toNatClampNeg) (a1)) (10) 12 (v9)) (10) 5 = I (10) 5 from by simp [u2_v])
    rw [z11]
    refine lv_iconst (v := (1)) hx hb dX1_letWait_67 (by decide) ?_
    refine lv_iadd hx hb dX1_letWait_68 ?_
    refine lv_topi (fun v12 ev12 => ?_)
    refine m_puti (10) 5 hx hb hts hown hE oc1 hM hS (hG.1 10 (by decide)) rfl (by decide) rfl rfl rfl rfl tb_142 dX1_letWait_69 (fun H locs I13 eI13 hM hS => ?_)
    subst eI13
    have hI := hI.putF (n := 10) (k := 5) (v := v12) rfl
    have hK := hK.put (n := 10) (k := 5) (v := v12) (by first | rfl | simp [inR])
    exact m_vret hx hb hr hlocks hM hS (Nat.le_of_ble_eq_true rfl) (Nat.le_of_ble_eq_true rfl) ⟨_, _, rfl, hI, hK⟩ dX1_letWait_72
  · have hc2 := c2
    have q2 := q_nlt hc2
    refine lv_aload_n hx hb dX1_letWait_9 rfl (lv_at hl 0 rfl) ?_
    refine lv_dup hx hb dX1_letWait_10 rfl ?_
    refine m_geti (10) 3 hx hb hts hown hE oc1 hM (hG.1 10 (by decide)) rfl (by decide) rfl tb_138 dX1_letWait_11 ?_
    refine lv_iload_n hx hb dX1_letWait_14 rfl (lv_at hl 2 rfl) ?_
    refine lv_iadd hx hb dX1_letWait_15 ?_
    refine lv_topi (fun v14 ev14 => ?_)
    refine m_puti (10) 3 hx hb hts hown hE oc1 hM hS (hG.1 10 (by decide)) rfl (by decide) rfl rfl rfl rfl tb_138 dX1_letWait_16 (fun H locs I15 eI15 hM hS => ?_)
    subst eI15
    have hI := hI.putF (n := 10) (k := 3) (v := v14) rfl
    have hK := hK.put (n := 10) (k := 3) (v := v14) (by first | rfl | simp [inR])
    refine lv_aload_n hx hb dX1_letWait_19 rfl (lv_at hl 0 rfl) ?_
    refine lv_iconst (v := (1)) hx hb dX1_letWait_20 (by decide) ?_
    refine m_puti (10) 6 hx hb hts hown hE oc1 hM hS (hG.1 10 (by decide)) rfl (by decide) rfl rfl rfl rfl tb_144 dX1_letWait_21 (fun H locs I16 eI16 hM hS => ?_)
    subst eI16
    have hI := hI.put (n := 10) (k := 6) (v := 1) (lo := 0) (hi := 1) rfl (by first | omega | decide)
    have hK := hK.put (n := 10) (k := 6) (v := 1) (by first | rfl | simp [inR])
    exact m_vret hx hb hr hlocks hM hS (Nat.le_of_ble_eq_true rfl) (Nat.le_of_ble_eq_true rfl) ⟨_, _, rfl, hI, hK⟩ dX1_letWait_24
theorem dX1_total_0 : decode cX1_total 0 = .ok (.iconst 0, 1) := by decide +kernel
theorem dX1_total_1 : decode cX1_total 1 = .ok (.istore_n 1, 1) := by decide +kernel
theorem dX1_total_2 : decode cX1_total 2 = .ok (.iconst 0, 1) := by decide +kernel
theorem dX1_total_3 : decode cX1_total 3 = .ok (.istore_n 2, 1) := by decide +kernel
theorem dX1_total_4 : decode cX1_total 4 = .ok (.iload_n 2, 1) := by decide +kernel
theorem dX1_total_5 : decode cX1_total 5 = .ok (.bipush 8, 2) := by decide +kernel
theorem dX1_total_7 : decode cX1_total 7 = .ok (.if_icmp .ge 18, 3) := by decide +kernel
theorem dX1_total_10 : decode cX1_total 10 = .ok (.iload_n 1, 1) := by decide +kernel
theorem dX1_total_11 : decode cX1_total 11 = .ok (.aload_n 0, 1) := by decide +kernel
theorem dX1_total_12 : decode cX1_total 12 = .ok (.getfield 9, 3) := by decide +kernel
theorem dX1_total_15 : decode cX1_total 15 = .ok (.iload_n 2, 1) := by decide +kernel
theorem dX1_total_16 : decode cX1_total 16 = .ok (.iaload, 1) := by decide +kernel
theorem dX1_total_17 : decode cX1_total 17 = .ok (.iadd, 1) := by decide +kernel
theorem dX1_total_18 : decode cX1_total 18 = .ok (.istore_n 1, 1) := by decide +kernel
theorem dX1_total_19 : decode cX1_total 19 = .ok (.iinc 2 1, 3) := by decide +kernel
theorem dX1_total_22 : decode cX1_total 22 = .ok (.goto (-18), 3) := by decide +kernel
theorem dX1_total_25 : decode cX1_total 25 = .ok (.iload_n 1, 1) := by decide +kernel
theorem dX1_total_26 : decode cX1_total 26 = .ok (.ireturn, 1) := by decide +kernel
theorem ce_X1_total : CeV RX1 yX1_total cX1_total 3 (some .int) 0 := ⟨tb_914, tb_915, tb_3, tb_916, rfl, by decide, by decide, by decide +kernel⟩
set_option maxHeartbeats 4000000 in
set_option maxRecDepth 20000 in
theorem V_X1_total (l : Launch) (D : va_G) (A : Nat → Prop) (ad : Nat → Nat) (ns : List Nat) (I : MI) (L : ML) (G : MG) (hG : SGC ns G) (hI : INV I) : Met l yX1_total (wd yX1_total cX1_total 3 (some .int)) ({ frames := 0, cells := 0, slots := 0, locals := 0 }) (va_Pc [.ref (ad (10))] (PM D A ad ns I L G)) (va_Qi (fun r u => u = (ad, ns, I, L, G) ∧ (True)) (BM D A) A) 0 0 A := by
  refine m_ofW (by decide) (Nat.le_of_ble_eq_true rfl) ?_
  intro p e s m below meth c ls args hC hE hM hA hS hl
  obtain ⟨hx, hb, hml, hown, hts, hr, hlocks, hin⟩ := hC
  have k0 : (0 : Int32).toInt = 0 := by decide
  have k8 : (8 : Int32).toInt = 8 := by decide
  have hl : lv_has ls 3 [(0, .ref (ad (10)))] := hl
  refine lv_iconst (v := (0)) hx hb dX1_total_0 (by decide) ?_
  refine lv_istore_n (lv' := [(1, .int (0)), (0, .ref (ad (10)))]) hx hb dX1_total_1 rfl hl (by decide) rfl (fun ls hl => ?_)
  refine lv_iconst (v := (0)) hx hb dX1_total_2 (by decide) ?_
  refine lv_istore_n (lv' := [(2, .int (0)), (1, .int (0)), (0, .ref (ad (10)))]) hx hb dX1_total_3 rfl hl (by decide) rfl (fun ls hl => ?_)
  have loop4 : ∀ (n : Nat) (x2_4 : Int32) (x1_4 : Int32) (H : Heap) (locs : List Loc) (ls : Array Slot), (0 ≤ x2_4.toInt ∧ x2_4.toInt ≤ 8) → (8 - x2_4.toInt).toNat < n → Mem D A ad ns I L G H → va_S A s.heap H locs → lv_has ls 3 [(2, .int (x2_4)), (1, .int (x1_4)), (0, .ref (ad (10)))] → W p l e ({ frames := 0, cells := 0, slots := 0, locals := 0 } : Room) s m args below meth c H locs 0 0 (MQ below (va_Qi (fun r u => u = (ad, ns, I, L, G) ∧ (True)) (BM D A) A) args s 0 0 A) (F0 m 4 ls []) := by
    intro n
    induction n with
    | zero =>
      intro x2_4 x1_4 H locs ls hr2_4 hmu
      exact absurd hmu (Nat.not_lt_zero _)
    | succ n ih4 =>
      intro x2_4 x1_4 H locs ls hr2_4 hmu4 hM hS hl
      refine lv_iload_n hx hb dX1_total_4 rfl (lv_at hl 0 rfl) ?_
      refine lv_bipush (v := (8)) hx hb dX1_total_5 (by decide) ?_
      refine lv_icmp_ge (tgt := 25) hx hb dX1_total_7 (by decide) (fun c1 => ?_) (fun c1 => ?_)
      · have hc1 := c1
        have q1 := q_le hc1
        refine lv_iload_n hx hb dX1_total_25 rfl (lv_at hl 1 rfl) ?_
        exact m_iret hx hb hr hlocks hM hS (Nat.le_of_ble_eq_true rfl) (Nat.le_of_ble_eq_true rfl) ⟨rfl, trivial⟩ dX1_total_26
      · have hc1 := c1
        have q1 := q_nle hc1
        refine lv_iload_n hx hb dX1_total_10 rfl (lv_at hl 1 rfl) ?_
        refine lv_aload_n hx hb dX1_total_11 rfl (lv_at hl 2 rfl) ?_
        refine m_getr (10) 0 (11) hx hb hts hown hE oc1 hM (hG.1 10 (by decide)) rfl (by decide) rfl (hG.2 (10, 0, 11) (by decide)) (by decide) tb_129 dX1_total_12 ?_
        refine lv_iload_n hx hb dX1_total_15 rfl (lv_at hl 0 rfl) ?_
        refine m_iald (11) hx hb hE hM (hG.1 11 (by decide)) rfl (vp_in_iff.mpr (by omega)) dX1_total_16 ?_
        refine lv_iadd hx hb dX1_total_17 ?_
        refine lv_topi (fun v2 ev2 => ?_)
        refine lv_istore_n (lv' := [(1, .int (v2)), (2, .int (x2_4)), (0, .ref (ad (10)))]) hx hb dX1_total_18 rfl hl (by decide) rfl (fun ls hl => ?_)
        obtain ⟨v3, ev3⟩ : ∃ z : Int32, z = x2_4 + Int32.ofInt (1) := ⟨_, rfl⟩
        have tv3 := a_inc ev3 (by decide) (by omega) (by omega)
        refine lv_iinc (v := v3) (lv' := [(2, .int (v3)), (1, .int (v2)), (0, .ref (ad (10)))]) hx hb dX1_total_19 hl (k := 1) rfl ev3.symm (by decide) rfl (fun ls hl => ?_)
        refine lv_goto (tgt := 4) hx hb dX1_total_22 (by decide) ?_
        exact ih4 (v3) (v2) _ _ ls (by first | omega | decide) (by omega) hM hS (lv_sub hl [0, 1, 2] rfl)
  exact loop4 (_ + 1) (0) (0) _ _ ls (by first | omega | decide) (Nat.lt_succ_self _) hM hS (lv_sub hl [0, 1, 2] rfl)
theorem dX1_touches_0 : decode cX1_touches 0 = .ok (.aload_n 0, 1) := by decide +kernel
theorem dX1_touches_1 : decode cX1_touches 1 = .ok (.getfield 73, 3) := by decide +kernel
theorem dX1_touches_4 : decode cX1_touches 4 = .ok (.iload_n 1, 1) := by decide +kernel
theorem dX1_touches_5 : decode cX1_touches 5 = .ok (.ishr, 1) := by decide +kernel
theorem dX1_touches_6 : decode cX1_touches 6 = .ok (.iconst 1, 1) := by decide +kernel
theorem dX1_touches_7 : decode cX1_touches 7 = .ok (.iand, 1) := by decide +kernel
theorem dX1_touches_8 : decode cX1_touches 8 = .ok (.iconst 1, 1) := by decide +kernel
theorem dX1_touches_9 : decode cX1_touches 9 = .ok (.if_icmp .ne 7, 3) := by decide +kernel
theorem dX1_touches_12 : decode cX1_touches 12 = .ok (.iconst 1, 1) := by decide +kernel
theorem dX1_touches_13 : decode cX1_touches 13 = .ok (.goto 4, 3) := by decide +kernel
theorem dX1_touches_16 : decode cX1_touches 16 = .ok (.iconst 0, 1) := by decide +kernel
theorem dX1_touches_17 : decode cX1_touches 17 = .ok (.ireturn, 1) := by decide +kernel
theorem ce_X1_touches : CeV RX1 yX1_touches cX1_touches 2 (some .boolean) 1 := ⟨tb_992, tb_993, tb_3, tb_994, rfl, by decide, by decide, by decide +kernel⟩
set_option maxHeartbeats 4000000 in
set_option maxRecDepth 20000 in
theorem V_X1_touches (l : Launch) (D : va_G) (A : Nat → Prop) (ad : Nat → Nat) (ns : List Nat) (I : MI) (L : ML) (G : MG) (a0 : Int32) (hG : SGC ns G) (hI : INV I) : Met l yX1_touches (wd yX1_touches cX1_touches 2 (some .boolean)) ({ frames := 0, cells := 0, slots := 0, locals := 0 }) (va_Pc [.ref (ad (10)), .int a0] (PM D A ad ns I L G)) (va_Qi (fun r u => u = (ad, ns, I, L, G) ∧ (0 ≤ r.toInt ∧ r.toInt ≤ 1)) (BM D A) A) 0 0 A := by
  refine m_ofW (by decide) (Nat.le_of_ble_eq_true rfl) ?_
  intro p e s m below meth c ls args hC hE hM hA hS hl
  obtain ⟨hx, hb, hml, hown, hts, hr, hlocks, hin⟩ := hC
  have k0 : (0 : Int32).toInt = 0 := by decide
  have k1 : (1 : Int32).toInt = 1 := by decide
  have hl : lv_has ls 2 [(0, .ref (ad (10))), (1, .int (a0))] := hl
  refine lv_aload_n hx hb dX1_touches_0 rfl (lv_at hl 0 rfl) ?_
  refine m_geti (10) 7 hx hb hts hown hE oc1 hM (hG.1 10 (by decide)) rfl (by decide) rfl tb_146 dX1_touches_1 ?_
  refine lv_iload_n hx hb dX1_touches_4 rfl (lv_at hl 1 rfl) ?_
  refine lv_ishr hx hb dX1_touches_5 ?_
  refine lv_topi (fun v1 ev1 => ?_)
  refine lv_iconst (v := (1)) hx hb dX1_touches_6 (by decide) ?_
  refine lv_iand hx hb dX1_touches_7 ?_
  refine lv_topi (fun v2 ev2 => ?_)
  have tv2 := a_and (c := 1) ev2 (by decide) (by decide)
  refine lv_iconst (v := (1)) hx hb dX1_touches_8 (by decide) ?_
  refine lv_icmp_ne (tgt := 16) hx hb dX1_touches_9 (by decide) (fun c3 => ?_) (fun c3 => ?_)
  · have hc3 := c3
    have q3 := q_ne hc3
    refine lv_iconst (v := (0)) hx hb dX1_touches_16 (by decide) ?_
    exact m_zret hx hb hr rfl hlocks hM hS (Nat.le_of_ble_eq_true rfl) (Nat.le_of_ble_eq_true rfl) ⟨rfl, (by first | omega | decide)⟩ dX1_touches_17
  · have hc3 := c3
    have q3 := q_eq hc3
    refine lv_iconst (v := (1)) hx hb dX1_touches_12 (by decide) ?_
    refine lv_goto (tgt := 17) hx hb dX1_touches_13 (by decide) ?_
    exact m_zret hx hb hr rfl hlocks hM hS (Nat.le_of_ble_eq_true rfl) (Nat.le_of_ble_eq_true rfl) ⟨rfl, (by first | omega | decide)⟩ dX1_touches_17
theorem dX1_touchedSet_0 : decode cX1_touchedSet 0 = .ok (.aload_n 0, 1) := by decide +kernel
theorem dX1_touchedSet_1 : decode cX1_touchedSet 1 = .ok (.getfield 73, 3) := by decide +kernel
theorem dX1_touchedSet_4 : decode cX1_touchedSet 4 = .ok (.ireturn, 1) := by decide +kernel
theorem ce_X1_touchedSet : CeV RX1 yX1_touchedSet cX1_touchedSet 1 (some .int) 0 := ⟨tb_1029, tb_1030, tb_3, tb_1031, rfl, by decide, by decide, by decide +kernel⟩
set_option maxHeartbeats 4000000 in
set_option maxRecDepth 20000 in
theorem V_X1_touchedSet (l : Launch) (D : va_G) (A : Nat → Prop) (ad : Nat → Nat) (ns : List Nat) (I : MI) (L : ML) (G : MG) (hG : SGC ns G) (hI : INV I) : Met l yX1_touchedSet (wd yX1_touchedSet cX1_touchedSet 1 (some .int)) ({ frames := 0, cells := 0, slots := 0, locals := 0 }) (va_Pc [.ref (ad (10))] (PM D A ad ns I L G)) (va_Qi (fun r u => u = (ad, ns, I, L, G) ∧ (True)) (BM D A) A) 0 0 A := by
  refine m_ofW (by decide) (Nat.le_of_ble_eq_true rfl) ?_
  intro p e s m below meth c ls args hC hE hM hA hS hl
  obtain ⟨hx, hb, hml, hown, hts, hr, hlocks, hin⟩ := hC
  have k0 : (0 : Int32).toInt = 0 := by decide
  have hl : lv_has ls 1 [(0, .ref (ad (10)))] := hl
  refine lv_aload_n hx hb dX1_touchedSet_0 rfl (lv_at hl 0 rfl) ?_
  refine m_geti (10) 7 hx hb hts hown hE oc1 hM (hG.1 10 (by decide)) rfl (by decide) rfl tb_146 dX1_touchedSet_1 ?_
  exact m_iret hx hb hr hlocks hM hS (Nat.le_of_ble_eq_true rfl) (Nat.le_of_ble_eq_true rfl) ⟨rfl, trivial⟩ dX1_touchedSet_4
theorem dX1_passAir_0 : decode cX1_passAir 0 = .ok (.iload_n 3, 1) := by decide +kernel
theorem dX1_passAir_1 : decode cX1_passAir 1 = .ok (.aload_n 1, 1) := by decide +kernel
theorem dX1_passAir_2 : decode cX1_passAir 2 = .ok (.getfield 130, 3) := by decide +kernel
theorem dX1_passAir_5 : decode cX1_passAir 5 = .ok (.invokestatic 133, 3) := by decide +kernel
theorem dX1_passAir_8 : decode cX1_passAir 8 = .ok (.istore 4, 2) := by decide +kernel
theorem dX1_passAir_10 : decode cX1_passAir 10 = .ok (.iload_n 3, 1) := by decide +kernel
theorem dX1_passAir_11 : decode cX1_passAir 11 = .ok (.iload 4, 2) := by decide +kernel
theorem dX1_passAir_13 : decode cX1_passAir 13 = .ok (.isub, 1) := by decide +kernel
theorem dX1_passAir_14 : decode cX1_passAir 14 = .ok (.istore 5, 2) := by decide +kernel
theorem dX1_passAir_16 : decode cX1_passAir 16 = .ok (.aload_n 0, 1) := by decide +kernel
theorem dX1_passAir_17 : decode cX1_passAir 17 = .ok (.dup, 1) := by decide +kernel
theorem dX1_passAir_18 : decode cX1_passAir 18 = .ok (.getfield 83, 3) := by decide +kernel
theorem dX1_passAir_21 : decode cX1_passAir 21 = .ok (.iload 4, 2) := by decide +kernel
theorem dX1_passAir_23 : decode cX1_passAir 23 = .ok (.iadd, 1) := by decide +kernel
theorem dX1_passAir_24 : decode cX1_passAir 24 = .ok (.putfield 83, 3) := by decide +kernel
theorem dX1_passAir_27 : decode cX1_passAir 27 = .ok (.aload_n 0, 1) := by decide +kernel
theorem dX1_passAir_28 : decode cX1_passAir 28 = .ok (.getfield 59, 3) := by decide +kernel
theorem dX1_passAir_31 : decode cX1_passAir 31 = .ok (.ifCond .eq 22, 3) := by decide +kernel
theorem dX1_passAir_34 : decode cX1_passAir 34 = .ok (.aload_n 0, 1) := by decide +kernel
theorem dX1_passAir_35 : decode cX1_passAir 35 = .ok (.getfield 15, 3) := by decide +kernel
theorem dX1_passAir_38 : decode cX1_passAir 38 = .ok (.iload_n 2, 1) := by decide +kernel
theorem dX1_passAir_39 : decode cX1_passAir 39 = .ok (.iaload, 1) := by decide +kernel
theorem dX1_passAir_40 : decode cX1_passAir 40 = .ok (.iload 5, 2) := by decide +kernel
theorem dX1_passAir_42 : decode cX1_passAir 42 = .ok (.if_icmp .ge 11, 3) := by decide +kernel
theorem dX1_passAir_45 : decode cX1_passAir 45 = .ok (.aload_n 0, 1) := by decide +kernel
theorem dX1_passAir_46 : decode cX1_passAir 46 = .ok (.getfield 15, 3) := by decide +kernel
theorem dX1_passAir_49 : decode cX1_passAir 49 = .ok (.iload_n 2, 1) := by decide +kernel
theorem dX1_passAir_50 : decode cX1_passAir 50 = .ok (.iload 5, 2) := by decide +kernel
theorem dX1_passAir_52 : decode cX1_passAir 52 = .ok (.iastore, 1) := by decide +kernel
theorem dX1_passAir_53 : decode cX1_passAir 53 = .ok (.iload 5, 2) := by decide +kernel
theorem dX1_passAir_55 : decode cX1_passAir 55 = .ok (.ireturn, 1) := by decide +kernel
theorem ce_X1_passAir : CeV RX1 yX1_passAir cX1_passAir 6 (some .int) 3 := ⟨tb_825, tp_30, tb_3, tb_826, rfl, by decide, by decide, by decide +kernel⟩
set_option maxHeartbeats 4000000 in
set_option maxRecDepth 20000 in
theorem V_X1_passAir_100 (l : Launch) (D : va_G) (A : Nat → Prop) (ad : Nat → Nat) (ns : List Nat) (I : MI) (L : ML) (G : MG) (a0 : Int32) (a1 : Int32) (hG : SGC ns G) (hI : INV I) (ha0 : 0 ≤ a0.toInt ∧ a0.toInt ≤ 575) : Met l yX1_passAir (wd yX1_passAir cX1_passAir 6 (some .int)) ({ frames := 1, cells := 0, slots := 0, locals := 21 }) (va_Pc [.ref (ad (10)), .ref (ad (100)), .int a0, .int a1] (PM D A ad ns I L G)) (va_Qi (fun r u => ∃ I2 L2, u = (ad, ns, I2, L2, G) ∧ INV I2 ∧ Kp [(12, 13)] [(10, 2)] I I2) (BM D A) A) 0 0 A := by
  refine m_ofW (by decide) (Nat.le_of_ble_eq_true rfl) ?_
  intro p e s m below meth c ls args hC hE hM hA hS hl
  obtain ⟨hx, hb, hml, hown, hts, hr, hlocks, hin⟩ := hC
  have k0 : (0 : Int32).toInt = 0 := by decide
  have hK : Kp [(12, 13)] [(10, 2)] I I := Kp.rf
  have hl : lv_has ls 6 [(0, .ref (ad (10))), (1, .ref (ad (100))), (2, .int (a0)), (3, .int (a1))] := hl
  refine lv_iload_n hx hb dX1_passAir_0 rfl (lv_at hl 3 rfl) ?_
  refine lv_aload_n hx hb dX1_passAir_1 rfl (lv_at hl 1 rfl) ?_
  refine m_geti (100) 4 hx hb hts hown hE oc8 hM (hG.1 100 (by decide)) rfl (by decide) rfl tb_50 dX1_passAir_2 ?_
  refine m_calli (m_runSN (As := [.int (a1), .int (I (100) 4)]) (rest := []) hx hb hml hown hts hE hM hS hA ce_X9_shareOf (List.mem_of_getElem? (i := 8) rfl) (V_X9_shareOf l D A ad ns I L G (a1) (I (100) 4) hI) rfl rfl ⟨Nat.le_of_ble_eq_true rfl, Nat.le_of_ble_eq_true rfl⟩  rfl hl.1 rfl (Nat.le_of_ble_eq_true rfl) dX1_passAir_5 ⟨Nat.le_of_ble_eq_true rfl, Nat.le_of_ble_eq_true rfl⟩) hS (fun r1 u H locs hw hM hS => ?_)
  obtain ⟨rfl, xr1⟩ := hw
  have hM : Mem D A ad ns I L G H := hM
  refine lv_istore (lv' := [(4, .int (r1)), (0, .ref (ad (10))), (1, .ref (ad (100))), (2, .int (a0)), (3, .int (a1))]) hx hb dX1_passAir_8 hl (by decide) rfl (fun ls hl => ?_)
  refine lv_iload_n hx hb dX1_passAir_10 rfl (lv_at hl 4 rfl) ?_
  refine lv_iload hx hb dX1_passAir_11 (lv_at hl 0 rfl) ?_
  refine lv_isub hx hb dX1_passAir_13 ?_
  refine lv_topi (fun v2 ev2 => ?_)
  refine lv_istore (lv' := [(5, .int (v2)), (4, .int (r1)), (0, .ref (ad (10))), (1, .ref (ad (100))), (2, .int (a0)), (3, .int (a1))]) hx hb dX1_passAir_14 hl (by decide) rfl (fun ls hl => ?_)
  refine lv_aload_n hx hb dX1_passAir_16 rfl (lv_at hl 2 rfl) ?_
  refine lv_dup hx hb dX1_passAir_17 rfl ?_
  refine m_geti (10) 2 hx hb hts hown hE oc1 hM (hG.1 10 (by decide)) rfl (by decide) rfl tb_136 dX1_passAir_18 ?_
  refine lv_iload hx hb dX1_passAir_21 (lv_at hl 1 rfl) ?_
  refine lv_iadd hx hb dX1_passAir_23 ?_
  refine lv_topi (fun v3 ev3 => ?_)
  refine m_puti (10) 2 hx hb hts hown hE oc1 hM hS (hG.1 10 (by decide)) rfl (by decide) rfl rfl rfl rfl tb_136 dX1_passAir_24 (fun H locs I4 eI4 hM hS => ?_)
  subst eI4
  have hI := hI.putF (n := 10) (k := 2) (v := v3) rfl
  have hK := hK.put (n := 10) (k := 2) (v := v3) (by first | rfl | simp [inR])
  refine lv_aload_n hx hb dX1_passAir_27 rfl (lv_at hl 2 rfl) ?_
  refine m_geti (10) 8 hx hb hts hown hE oc1 hM (hG.1 10 (by decide)) rfl (by decide) rfl tb_147 dX1_passAir_28 ?_
  have g5 := hI.get (10) 8 (lo := 0) (hi := 1) rfl
  have z6 : (u2 I (10) 2 (v3)) (10) 8 = I (10) 8 := (show (u2 I (10) 2 (v3)) (10) 8 = I (10) 8 from by simp [u2_v])
  rw [z6] at g5 ⊢
  refine lv_if_eq (tgt := 53) hx hb dX1_passAir_31 (by decide) (fun c7 => ?_) (fun c7 => ?_)
  · have hc7 := c7
    have q7 := q_eq hc7
    refine lv_iload hx hb dX1_passAir_53 (lv_at hl 0 rfl) ?_
    exact m_iret hx hb hr hlocks hM hS (Nat.le_of_ble_eq_true rfl) (Nat.le_of_ble_eq_true rfl) ⟨_, _, rfl, hI, hK⟩ dX1_passAir_55
  · have hc7 := c7
    have q7 := q_ne hc7
    refine lv_aload_n hx hb dX1_passAir_34 rfl (lv_at hl 2 rfl) ?_
    refine m_getr (10) 1 (12) hx hb hts hown hE oc1 hM (hG.1 10 (by decide)) rfl (by decide) rfl (hG.2 (10, 1, 12) (by decide)) (by decide) tb_134 dX1_passAir_35 ?_
    refine lv_iload_n hx hb dX1_passAir_38 rfl (lv_at hl 4 rfl) ?_
    refine m_iald (12) hx hb hE hM (hG.1 12 (by decide)) rfl (vp_in_iff.mpr (by omega)) dX1_passAir_39 ?_
    have z8 : (u2 I (10) 2 (v3)) (12) (a0).toNatClampNeg = I (12) ((a0).toNatClampNeg) := (show (u2 I (10) 2 (v3)) (12) ((a0).toNatClampNeg) = I (12) ((a0).toNatClampNeg) from by simp [u2_v])
    rw [z8]
    refine lv_iload hx hb dX1_passAir_40 (lv_at hl 0 rfl) ?_
    refine lv_icmp_ge (tgt := 53) hx hb dX1_passAir_42 (by decide) (fun c9 => ?_) (fun c9 => ?_)
    · have hc9 := c9
      have q9 := q_le hc9
      refine lv_iload hx hb dX1_passAir_53 (lv_at hl 0 rfl) ?_
      exact m_iret hx hb hr hlocks hM hS (Nat.le_of_ble_eq_true rfl) (Nat.le_of_ble_eq_true rfl) ⟨_, _, rfl, hI, hK⟩ dX1_passAir_55
    · have hc9 := c9
      have q9 := q_nle hc9
      refine lv_aload_n hx hb dX1_passAir_45 rfl (lv_at hl 2 rfl) ?_
      refine m_getr (10) 1 (12) hx hb hts hown hE oc1 hM (hG.1 10 (by decide)) rfl (by decide) rfl (hG.2 (10, 1, 12) (by decide)) (by decide) tb_134 dX1_passAir_46 ?_
      refine lv_iload_n hx hb dX1_passAir_49 rfl (lv_at hl 4 rfl) ?_
      refine lv_iload hx hb dX1_passAir_50 (lv_at hl 0 rfl) ?_
      refine m_iast (12) hx hb hE hM hS (hG.1 12 (by decide)) rfl (vp_in_iff.mpr (by omega)) dX1_passAir_52 (fun H locs I10 eI10 hM hS => ?_)
      subst eI10
      have hI := hI.putF (n := 12) (k := ((a0).toNatClampNeg)) (v := v2) rfl
      have hK := hK.put (n := 12) (k := ((a0).toNatClampNeg)) (v := v2) (by first | rfl | simp [inR])
      refine lv_iload hx hb dX1_passAir_53 (lv_at hl 0 rfl) ?_
      exact m_iret hx hb hr hlocks hM hS (Nat.le_of_ble_eq_true rfl) (Nat.le_of_ble_eq_true rfl) ⟨_, _, rfl, hI, hK⟩ dX1_passAir_55
theorem dX1_passYard_0 : decode cX1_passYard 0 = .ok (.iload_n 3, 1) := by decide +kernel
theorem dX1_passYard_1 : decode cX1_passYard 1 = .ok (.aload_n 1, 1) := by decide +kernel
theorem dX1_passYard_2 : decode cX1_passYard 2 = .ok (.iload_n 2, 1) := by decide +kernel
theorem dX1_passYard_3 : decode cX1_passYard 3 = .ok (.iconst 2, 1) := by decide +kernel
theorem dX1_passYard_4 : decode cX1_passYard 4 = .ok (.invokevirtual 136, 3) := by decide +kernel
theorem dX1_passYard_7 : decode cX1_passYard 7 = .ok (.invokestatic 133, 3) := by decide +kernel
theorem dX1_passYard_10 : decode cX1_passYard 10 = .ok (.istore 4, 2) := by decide +kernel
theorem dX1_passYard_12 : decode cX1_passYard 12 = .ok (.aload_n 0, 1) := by decide +kernel
theorem dX1_passYard_13 : decode cX1_passYard 13 = .ok (.getfield 9, 3) := by decide +kernel
theorem dX1_passYard_16 : decode cX1_passYard 16 = .ok (.iload_n 2, 1) := by decide +kernel
theorem dX1_passYard_17 : decode cX1_passYard 17 = .ok (.dup2, 1) := by decide +kernel
theorem dX1_passYard_18 : decode cX1_passYard 18 = .ok (.iaload, 1) := by decide +kernel
theorem dX1_passYard_19 : decode cX1_passYard 19 = .ok (.iload 4, 2) := by decide +kernel
theorem dX1_passYard_21 : decode cX1_passYard 21 = .ok (.iadd, 1) := by decide +kernel
theorem dX1_passYard_22 : decode cX1_passYard 22 = .ok (.iastore, 1) := by decide +kernel
theorem dX1_passYard_23 : decode cX1_passYard 23 = .ok (.iload_n 3, 1) := by decide +kernel
theorem dX1_passYard_24 : decode cX1_passYard 24 = .ok (.iload 4, 2) := by decide +kernel
theorem dX1_passYard_26 : decode cX1_passYard 26 = .ok (.isub, 1) := by decide +kernel
theorem dX1_passYard_27 : decode cX1_passYard 27 = .ok (.ireturn, 1) := by decide +kernel
theorem ce_X1_passYard : CeV RX1 yX1_passYard cX1_passYard 5 (some .int) 3 := ⟨tb_832, tp_31, tb_3, tb_833, rfl, by decide, by decide, by decide +kernel⟩
set_option maxHeartbeats 4000000 in
set_option maxRecDepth 20000 in
theorem V_X1_passYard_100 (l : Launch) (D : va_G) (A : Nat → Prop) (ad : Nat → Nat) (ns : List Nat) (I : MI) (L : ML) (G : MG) (a0 : Int32) (a1 : Int32) (hG : SGC ns G) (hI : INV I) (ha0 : 0 ≤ a0.toInt ∧ a0.toInt ≤ 7) : Met l yX1_passYard (wd yX1_passYard cX1_passYard 5 (some .int)) ({ frames := 1, cells := 0, slots := 0, locals := 22 }) (va_Pc [.ref (ad (10)), .ref (ad (100)), .int a0, .int a1] (PM D A ad ns I L G)) (va_Qi (fun r u => ∃ I2 L2, u = (ad, ns, I2, L2, G) ∧ INV I2 ∧ Kp [(11, 12)] [] I I2) (BM D A) A) 0 0 A := by
  refine m_ofW (by decide) (Nat.le_of_ble_eq_true rfl) ?_
  intro p e s m below meth c ls args hC hE hM hA hS hl
  obtain ⟨hx, hb, hml, hown, hts, hr, hlocks, hin⟩ := hC
  have k0 : (0 : Int32).toInt = 0 := by decide
  have k2 : (2 : Int32).toInt = 2 := by decide
  have hK : Kp [(11, 12)] [] I I := Kp.rf
  have hl : lv_has ls 5 [(0, .ref (ad (10))), (1, .ref (ad (100))), (2, .int (a0)), (3, .int (a1))] := hl
  refine lv_iload_n hx hb dX1_passYard_0 rfl (lv_at hl 3 rfl) ?_
  refine lv_aload_n hx hb dX1_passYard_1 rfl (lv_at hl 1 rfl) ?_
  refine lv_iload_n hx hb dX1_passYard_2 rfl (lv_at hl 2 rfl) ?_
  refine lv_iconst (v := (2)) hx hb dX1_passYard_3 (by decide) ?_
  refine m_calli (m_runV (100) (As := [.int (a0), .int (2)]) (rest := [.int (a1)]) hx hb hml hown hts hE hM hS hA ce_X8_ofYard tb_834 (V_X8_ofYard_100 l D A ad ns I L G (a0) (2) hG hI (by first | omega | decide) (by first | omega | decide)) rfl rfl ⟨Nat.le_of_ble_eq_true rfl, Nat.le_of_ble_eq_true rfl⟩ (hG.1 100 (by decide)) rfl rfl (by decide) rfl hl.1 rfl (Nat.le_of_ble_eq_true rfl) dX1_passYard_4 ⟨Nat.le_of_ble_eq_true rfl, Nat.le_of_ble_eq_true rfl⟩) hS (fun r1 u H locs hw hM hS => ?_)
  obtain ⟨rfl, xr1⟩ := hw
  have hM : Mem D A ad ns I L G H := hM
  refine m_calli (m_runSN (As := [.int (a1), .int (r1)]) (rest := []) hx hb hml hown hts hE hM hS hA ce_X9_shareOf (List.mem_of_getElem? (i := 8) rfl) (V_X9_shareOf l D A ad ns I L G (a1) (r1) hI) rfl rfl ⟨Nat.le_of_ble_eq_true rfl, Nat.le_of_ble_eq_true rfl⟩  rfl hl.1 rfl (Nat.le_of_ble_eq_true rfl) dX1_passYard_7 ⟨Nat.le_of_ble_eq_true rfl, Nat.le_of_ble_eq_true rfl⟩) hS (fun r2 u H locs hw hM hS => ?_)
  obtain ⟨rfl, xr2⟩ := hw
  have hM : Mem D A ad ns I L G H := hM
  refine lv_istore (lv' := [(4, .int (r2)), (0, .ref (ad (10))), (1, .ref (ad (100))), (2, .int (a0)), (3, .int (a1))]) hx hb dX1_passYard_10 hl (by decide) rfl (fun ls hl => ?_)
  refine lv_aload_n hx hb dX1_passYard_12 rfl (lv_at hl 1 rfl) ?_
  refine m_getr (10) 0 (11) hx hb hts hown hE oc1 hM (hG.1 10 (by decide)) rfl (by decide) rfl (hG.2 (10, 0, 11) (by decide)) (by decide) tb_129 dX1_passYard_13 ?_
  refine lv_iload_n hx hb dX1_passYard_16 rfl (lv_at hl 3 rfl) ?_
  refine lv_dup2_11 hx hb dX1_passYard_17 rfl rfl ?_
  refine m_iald (11) hx hb hE hM (hG.1 11 (by decide)) rfl (vp_in_iff.mpr (by omega)) dX1_passYard_18 ?_
  refine lv_iload hx hb dX1_passYard_19 (lv_at hl 0 rfl) ?_
  refine lv_iadd hx hb dX1_passYard_21 ?_
  refine lv_topi (fun v3 ev3 => ?_)
  refine m_iast (11) hx hb hE hM hS (hG.1 11 (by decide)) rfl (vp_in_iff.mpr (by omega)) dX1_passYard_22 (fun H locs I4 eI4 hM hS => ?_)
  subst eI4
  have hI := hI.putF (n := 11) (k := ((a0).toNatClampNeg)) (v := v3) rfl
  have hK := hK.put (n := 11) (k := ((a0).toNatClampNeg)) (v := v3) (by first | rfl | simp [inR])
  refine lv_iload_n hx hb dX1_passYard_23 rfl (lv_at hl 4 rfl) ?_
  refine lv_iload hx hb dX1_passYard_24 (lv_at hl 0 rfl) ?_
  refine lv_isub hx hb dX1_passYard_26 ?_
  refine lv_topi (fun v5 ev5 => ?_)
  exact m_iret hx hb hr hlocks hM hS (Nat.le_of_ble_eq_true rfl) (Nat.le_of_ble_eq_true rfl) ⟨_, _, rfl, hI, hK⟩ dX1_passYard_27
theorem dX1_passMirror_0 : decode cX1_passMirror 0 = .ok (.aload_n 0, 1) := by decide +kernel
theorem dX1_passMirror_1 : decode cX1_passMirror 1 = .ok (.dup, 1) := by decide +kernel
theorem dX1_passMirror_2 : decode cX1_passMirror 2 = .ok (.getfield 73, 3) := by decide +kernel
theorem dX1_passMirror_5 : decode cX1_passMirror 5 = .ok (.iconst 1, 1) := by decide +kernel
theorem dX1_passMirror_6 : decode cX1_passMirror 6 = .ok (.iload_n 2, 1) := by decide +kernel
theorem dX1_passMirror_7 : decode cX1_passMirror 7 = .ok (.ishl, 1) := by decide +kernel
theorem dX1_passMirror_8 : decode cX1_passMirror 8 = .ok (.ior, 1) := by decide +kernel
theorem dX1_passMirror_9 : decode cX1_passMirror 9 = .ok (.putfield 73, 3) := by decide +kernel
theorem dX1_passMirror_12 : decode cX1_passMirror 12 = .ok (.iload 4, 2) := by decide +kernel
theorem dX1_passMirror_14 : decode cX1_passMirror 14 = .ok (.aload_n 1, 1) := by decide +kernel
theorem dX1_passMirror_15 : decode cX1_passMirror 15 = .ok (.iload_n 2, 1) := by decide +kernel
theorem dX1_passMirror_16 : decode cX1_passMirror 16 = .ok (.invokevirtual 139, 3) := by decide +kernel
theorem dX1_passMirror_19 : decode cX1_passMirror 19 = .ok (.invokestatic 133, 3) := by decide +kernel
theorem dX1_passMirror_22 : decode cX1_passMirror 22 = .ok (.istore 5, 2) := by decide +kernel
theorem dX1_passMirror_24 : decode cX1_passMirror 24 = .ok (.aload_n 0, 1) := by decide +kernel
theorem dX1_passMirror_25 : decode cX1_passMirror 25 = .ok (.dup, 1) := by decide +kernel
theorem dX1_passMirror_26 : decode cX1_passMirror 26 = .ok (.getfield 83, 3) := by decide +kernel
theorem dX1_passMirror_29 : decode cX1_passMirror 29 = .ok (.iload 5, 2) := by decide +kernel
theorem dX1_passMirror_31 : decode cX1_passMirror 31 = .ok (.iadd, 1) := by decide +kernel
theorem dX1_passMirror_32 : decode cX1_passMirror 32 = .ok (.putfield 83, 3) := by decide +kernel
theorem dX1_passMirror_35 : decode cX1_passMirror 35 = .ok (.iload 4, 2) := by decide +kernel
theorem dX1_passMirror_37 : decode cX1_passMirror 37 = .ok (.iload 5, 2) := by decide +kernel
theorem dX1_passMirror_39 : decode cX1_passMirror 39 = .ok (.isub, 1) := by decide +kernel
theorem dX1_passMirror_40 : decode cX1_passMirror 40 = .ok (.aload_n 1, 1) := by decide +kernel
theorem dX1_passMirror_41 : decode cX1_passMirror 41 = .ok (.iload_n 2, 1) := by decide +kernel
theorem dX1_passMirror_42 : decode cX1_passMirror 42 = .ok (.iconst 4, 1) := by decide +kernel
theorem dX1_passMirror_43 : decode cX1_passMirror 43 = .ok (.invokevirtual 142, 3) := by decide +kernel
theorem dX1_passMirror_46 : decode cX1_passMirror 46 = .ok (.invokestatic 133, 3) := by decide +kernel
theorem dX1_passMirror_49 : decode cX1_passMirror 49 = .ok (.istore 6, 2) := by decide +kernel
theorem dX1_passMirror_51 : decode cX1_passMirror 51 = .ok (.iload 6, 2) := by decide +kernel
theorem dX1_passMirror_53 : decode cX1_passMirror 53 = .ok (.ifCond .le 10, 3) := by decide +kernel
theorem dX1_passMirror_56 : decode cX1_passMirror 56 = .ok (.aload_n 0, 1) := by decide +kernel
theorem dX1_passMirror_57 : decode cX1_passMirror 57 = .ok (.iload_n 3, 1) := by decide +kernel
theorem dX1_passMirror_58 : decode cX1_passMirror 58 = .ok (.iload 6, 2) := by decide +kernel
theorem dX1_passMirror_60 : decode cX1_passMirror 60 = .ok (.invokevirtual 145, 3) := by decide +kernel
theorem dX1_passMirror_63 : decode cX1_passMirror 63 = .ok (.iload 4, 2) := by decide +kernel
theorem dX1_passMirror_65 : decode cX1_passMirror 65 = .ok (.iload 5, 2) := by decide +kernel
theorem dX1_passMirror_67 : decode cX1_passMirror 67 = .ok (.isub, 1) := by decide +kernel
theorem dX1_passMirror_68 : decode cX1_passMirror 68 = .ok (.iload 6, 2) := by decide +kernel
theorem dX1_passMirror_70 : decode cX1_passMirror 70 = .ok (.isub, 1) := by decide +kernel
theorem dX1_passMirror_71 : decode cX1_passMirror 71 = .ok (.ireturn, 1) := by decide +kernel
theorem ce_X1_passMirror : CeV RX1 yX1_passMirror cX1_passMirror 7 (some .int) 4 := ⟨tb_844, tp_32, tb_3, tb_845, rfl, by decide, by decide, by decide +kernel⟩
set_option maxHeartbeats 4000000 in
set_option maxRecDepth 20000 in
theorem V_X1_passMirror_100 (l : Launch) (D : va_G) (A : Nat → Prop) (ad : Nat → Nat) (ns : List Nat) (I : MI) (L : ML) (G : MG) (a0 : Int32) (a1 : Int32) (a2 : Int32) (hG : SGC ns G) (hI : INV I) (ha0 : 0 ≤ a0.toInt ∧ a0.toInt ≤ 23) (ha1 : 0 ≤ a1.toInt ∧ a1.toInt ≤ 4607) : Met l yX1_passMirror (wd yX1_passMirror cX1_passMirror 7 (some .int)) ({ frames := 1, cells := 0, slots := 0, locals := 23 }) (va_Pc [.ref (ad (10)), .ref (ad (100)), .int a0, .int a1, .int a2] (PM D A ad ns I L G)) (va_Qi (fun r u => ∃ I2 L2, u = (ad, ns, I2, L2, G) ∧ INV I2 ∧ Kp [(13, 15)] [(10, 2), (10, 3), (10, 5), (10, 6), (10, 7), (10, 12)] I I2) (BM D A) A) 0 0 A := by
  refine m_ofW (by decide) (Nat.le_of_ble_eq_true rfl) ?_
  intro p e s m below meth c ls args hC hE hM hA hS hl
  obtain ⟨hx, hb, hml, hown, hts, hr, hlocks, hin⟩ := hC
  have k0 : (0 : Int32).toInt = 0 := by decide
  have k1 : (1 : Int32).toInt = 1 := by decide
  have k4 : (4 : Int32).toInt = 4 := by decide
  have hK : Kp [(13, 15)] [(10, 2), (10, 3), (10, 5), (10, 6), (10, 7), (10, 12)] I I := Kp.rf
  have hl : lv_has ls 7 [(0, .ref (ad (10))), (1, .ref (ad (100))), (2, .int (a0)), (3, .int (a1)), (4, .int (a2))] := hl
  refine lv_aload_n hx hb dX1_passMirror_0 rfl (lv_at hl 0 rfl) ?_
  refine lv_dup hx hb dX1_passMirror_1 rfl ?_
  refine m_geti (10) 7 hx hb hts hown hE oc1 hM (hG.1 10 (by decide)) rfl (by decide) rfl tb_146 dX1_passMirror_2 ?_
  refine lv_iconst (v := (1)) hx hb dX1_passMirror_5 (by decide) ?_
  refine lv_iload_n hx hb dX1_passMirror_6 rfl (lv_at hl 2 rfl) ?_
  refine lv_ishl hx hb dX1_passMirror_7 ?_
  refine lv_topi (fun v1 ev1 => ?_)
  refine lv_ior hx hb dX1_passMirror_8 ?_
  refine lv_topi (fun v2 ev2 => ?_)
  refine m_puti (10) 7 hx hb hts hown hE oc1 hM hS (hG.1 10 (by decide)) rfl (by decide) rfl rfl rfl rfl tb_146 dX1_passMirror_9 (fun H locs I3 eI3 hM hS => ?_)
  subst eI3
  have hI := hI.putF (n := 10) (k := 7) (v := v2) rfl
  have hK := hK.put (n := 10) (k := 7) (v := v2) (by first | rfl | simp [inR])
  refine lv_iload hx hb dX1_passMirror_12 (lv_at hl 4 rfl) ?_
  refine lv_aload_n hx hb dX1_passMirror_14 rfl (lv_at hl 1 rfl) ?_
  refine lv_iload_n hx hb dX1_passMirror_15 rfl (lv_at hl 2 rfl) ?_
  refine m_calli (m_runV (100) (As := [.int (a0)]) (rest := [.int (a2)]) hx hb hml hown hts hE hM hS hA ce_X8_lossOf tb_846 (V_X8_lossOf_100 l D A ad ns (u2 I (10) 7 (v2)) L G (a0) hG hI (by first | omega | decide)) rfl rfl ⟨Nat.le_of_ble_eq_true rfl, Nat.le_of_ble_eq_true rfl⟩ (hG.1 100 (by decide)) rfl rfl (by decide) rfl hl.1 rfl (Nat.le_of_ble_eq_true rfl) dX1_passMirror_16 ⟨Nat.le_of_ble_eq_true rfl, Nat.le_of_ble_eq_true rfl⟩) hS (fun r4 u H locs hw hM hS => ?_)
  obtain ⟨rfl, xr4⟩ := hw
  have hM : Mem D A ad ns (u2 I (10) 7 (v2)) L G H := hM
  refine m_calli (m_runSN (As := [.int (a2), .int (r4)]) (rest := []) hx hb hml hown hts hE hM hS hA ce_X9_shareOf (List.mem_of_getElem? (i := 8) rfl) (V_X9_shareOf l D A ad ns (u2 I (10) 7 (v2)) L G (a2) (r4) hI) rfl rfl ⟨Nat.le_of_ble_eq_true rfl, Nat.le_of_ble_eq_true rfl⟩  rfl hl.1 rfl (Nat.le_of_ble_eq_true rfl) dX1_passMirror_19 ⟨Nat.le_of_ble_eq_true rfl, Nat.le_of_ble_eq_true rfl⟩) hS (fun r5 u H locs hw hM hS => ?_)
  obtain ⟨rfl, xr5⟩ := hw
  have hM : Mem D A ad ns (u2 I (10) 7 (v2)) L G H := hM
  refine lv_istore (lv' := [(5, .int (r5)), (0, .ref (ad (10))), (1, .ref (ad (100))), (2, .int (a0)), (3, .int (a1)), (4, .int (a2))]) hx hb dX1_passMirror_22 hl (by decide) rfl (fun ls hl => ?_)
  refine lv_aload_n hx hb dX1_passMirror_24 rfl (lv_at hl 1 rfl) ?_
  refine lv_dup hx hb dX1_passMirror_25 rfl ?_
  refine m_geti (10) 2 hx hb hts hown hE oc1 hM (hG.1 10 (by decide)) rfl (by decide) rfl tb_136 dX1_passMirror_26 ?_
  have z6 : (u2 I (10) 7 (v2)) (10) 2 = I (10) 2 := (show (u2 I (10) 7 (v2)) (10) 2 = I (10) 2 from by simp [u2_v])
  rw [z6]
  refine lv_iload hx hb dX1_passMirror_29 (lv_at hl 0 rfl) ?_
  refine lv_iadd hx hb dX1_passMirror_31 ?_
  refine lv_topi (fun v7 ev7 => ?_)
  refine m_puti (10) 2 hx hb hts hown hE oc1 hM hS (hG.1 10 (by decide)) rfl (by decide) rfl rfl rfl rfl tb_136 dX1_passMirror_32 (fun H locs I8 eI8 hM hS => ?_)
  subst eI8
  have hI := hI.putF (n := 10) (k := 2) (v := v7) rfl
  have hK := hK.put (n := 10) (k := 2) (v := v7) (by first | rfl | simp [inR])
  refine lv_iload hx hb dX1_passMirror_35 (lv_at hl 5 rfl) ?_
  refine lv_iload hx hb dX1_passMirror_37 (lv_at hl 0 rfl) ?_
  refine lv_isub hx hb dX1_passMirror_39 ?_
  refine lv_topi (fun v9 ev9 => ?_)
  refine lv_aload_n hx hb dX1_passMirror_40 rfl (lv_at hl 2 rfl) ?_
  refine lv_iload_n hx hb dX1_passMirror_41 rfl (lv_at hl 3 rfl) ?_
  refine lv_iconst (v := (4)) hx hb dX1_passMirror_42 (by decide) ?_
  refine m_calli (m_runV (100) (As := [.int (a0), .int (4)]) (rest := [.int (v9)]) hx hb hml hown hts hE hM hS hA ce_X8_ofMirror tb_850 (V_X8_ofMirror_100 l D A ad ns (u2 (u2 I (10) 7 (v2)) (10) 2 (v7)) L G (a0) (4) hG hI (by first | omega | decide) (by first | omega | decide)) rfl rfl ⟨Nat.le_of_ble_eq_true rfl, Nat.le_of_ble_eq_true rfl⟩ (hG.1 100 (by decide)) rfl rfl (by decide) rfl hl.1 rfl (Nat.le_of_ble_eq_true rfl) dX1_passMirror_43 ⟨Nat.le_of_ble_eq_true rfl, Nat.le_of_ble_eq_true rfl⟩) hS (fun r10 u H locs hw hM hS => ?_)
  obtain ⟨rfl, xr10⟩ := hw
  have hM : Mem D A ad ns (u2 (u2 I (10) 7 (v2)) (10) 2 (v7)) L G H := hM
  refine m_calli (m_runSN (As := [.int (v9), .int (r10)]) (rest := []) hx hb hml hown hts hE hM hS hA ce_X9_shareOf (List.mem_of_getElem? (i := 8) rfl) (V_X9_shareOf l D A ad ns (u2 (u2 I (10) 7 (v2)) (10) 2 (v7)) L G (v9) (r10) hI) rfl rfl ⟨Nat.le_of_ble_eq_true rfl, Nat.le_of_ble_eq_true rfl⟩  rfl hl.1 rfl (Nat.le_of_ble_eq_true rfl) dX1_passMirror_46 ⟨Nat.le_of_ble_eq_true rfl, Nat.le_of_ble_eq_true rfl⟩) hS (fun r11 u H locs hw hM hS => ?_)
  obtain ⟨rfl, xr11⟩ := hw
  have hM : Mem D A ad ns (u2 (u2 I (10) 7 (v2)) (10) 2 (v7)) L G H := hM
  refine lv_istore (lv' := [(6, .int (r11)), (5, .int (r5)), (0, .ref (ad (10))), (1, .ref (ad (100))), (2, .int (a0)), (3, .int (a1)), (4, .int (a2))]) hx hb dX1_passMirror_49 hl (by decide) rfl (fun ls hl => ?_)
  refine lv_iload hx hb dX1_passMirror_51 (lv_at hl 0 rfl) ?_
  refine lv_if_le (tgt := 63) hx hb dX1_passMirror_53 (by decide) (fun c12 => ?_) (fun c12 => ?_)
  · have hc12 := c12
    have q12 := q_le hc12
    refine lv_iload hx hb dX1_passMirror_63 (lv_at hl 6 rfl) ?_
    refine lv_iload hx hb dX1_passMirror_65 (lv_at hl 1 rfl) ?_
    refine lv_isub hx hb dX1_passMirror_67 ?_
    refine lv_topi (fun v13 ev13 => ?_)
    refine lv_iload hx hb dX1_passMirror_68 (lv_at hl 0 rfl) ?_
    refine lv_isub hx hb dX1_passMirror_70 ?_
    refine lv_topi (fun v14 ev14 => ?_)
    exact m_iret hx hb hr hlocks hM hS (Nat.le_of_ble_eq_true rfl) (Nat.le_of_ble_eq_true rfl) ⟨_, _, rfl, hI, hK⟩ dX1_passMirror_71
  · have hc12 := c12
    have q12 := q_nle hc12
    refine lv_aload_n hx hb dX1_passMirror_56 rfl (lv_at hl 2 rfl) ?_
    refine lv_iload_n hx hb dX1_passMirror_57 rfl (lv_at hl 5 rfl) ?_
    refine lv_iload hx hb dX1_passMirror_58 (lv_at hl 0 rfl) ?_
    refine m_callv (m_runV (10) (As := [.int (a1), .int (r11)]) (rest := []) hx hb hml hown hts hE hM hS hA ce_X1_letWait tb_851 (V_X1_letWait l D A ad ns (u2 (u2 I (10) 7 (v2)) (10) 2 (v7)) L G (a1) (r11) hG hI (by first | omega | decide)) rfl rfl ⟨Nat.le_of_ble_eq_true rfl, Nat.le_of_ble_eq_true rfl⟩ (hG.1 10 (by decide)) rfl rfl (by decide) rfl hl.1 rfl (Nat.le_of_ble_eq_true rfl) dX1_passMirror_60 ⟨Nat.le_of_ble_eq_true rfl, Nat.le_of_ble_eq_true rfl⟩) hS (fun u H locs hw hM hS => ?_)
    obtain ⟨I15, L16, rfl, hI, hkI15⟩ := hw
    have hM : Mem D A ad ns I15 L16 G H := hM
    have hK := hK.trans hkI15 rfl
    refine lv_iload hx hb dX1_passMirror_63 (lv_at hl 6 rfl) ?_
    refine lv_iload hx hb dX1_passMirror_65 (lv_at hl 1 rfl) ?_
    refine lv_isub hx hb dX1_passMirror_67 ?_
    refine lv_topi (fun v17 ev17 => ?_)
    refine lv_iload hx hb dX1_passMirror_68 (lv_at hl 0 rfl) ?_
    refine lv_isub hx hb dX1_passMirror_70 ?_
    refine lv_topi (fun v18 ev18 => ?_)
    exact m_iret hx hb hr hlocks hM hS (Nat.le_of_ble_eq_true rfl) (Nat.le_of_ble_eq_true rfl) ⟨_, _, rfl, hI, hK⟩ dX1_passMirror_71
theorem dX1_isBlind_0 : decode cX1_isBlind 0 = .ok (.aload_n 1, 1) := by decide +kernel
theorem dX1_isBlind_1 : decode cX1_isBlind 1 = .ok (.getfield 80, 3) := by decide +kernel
theorem dX1_isBlind_4 : decode cX1_isBlind 4 = .ok (.iload_n 2, 1) := by decide +kernel
theorem dX1_isBlind_5 : decode cX1_isBlind 5 = .ok (.iaload, 1) := by decide +kernel
theorem dX1_isBlind_6 : decode cX1_isBlind 6 = .ok (.iconst (-1), 1) := by decide +kernel
theorem dX1_isBlind_7 : decode cX1_isBlind 7 = .ok (.if_icmp .eq 22, 3) := by decide +kernel
theorem dX1_isBlind_10 : decode cX1_isBlind 10 = .ok (.aload_n 0, 1) := by decide +kernel
theorem dX1_isBlind_11 : decode cX1_isBlind 11 = .ok (.getfield 15, 3) := by decide +kernel
theorem dX1_isBlind_14 : decode cX1_isBlind 14 = .ok (.iload_n 2, 1) := by decide +kernel
theorem dX1_isBlind_15 : decode cX1_isBlind 15 = .ok (.iaload, 1) := by decide +kernel
theorem dX1_isBlind_16 : decode cX1_isBlind 16 = .ok (.aload_n 1, 1) := by decide +kernel
theorem dX1_isBlind_17 : decode cX1_isBlind 17 = .ok (.getfield 80, 3) := by decide +kernel
theorem dX1_isBlind_20 : decode cX1_isBlind 20 = .ok (.iload_n 2, 1) := by decide +kernel
theorem dX1_isBlind_21 : decode cX1_isBlind 21 = .ok (.iaload, 1) := by decide +kernel
theorem dX1_isBlind_22 : decode cX1_isBlind 22 = .ok (.if_icmp .le 7, 3) := by decide +kernel
theorem dX1_isBlind_25 : decode cX1_isBlind 25 = .ok (.iconst 1, 1) := by decide +kernel
theorem dX1_isBlind_26 : decode cX1_isBlind 26 = .ok (.goto 4, 3) := by decide +kernel
theorem dX1_isBlind_29 : decode cX1_isBlind 29 = .ok (.iconst 0, 1) := by decide +kernel
theorem dX1_isBlind_30 : decode cX1_isBlind 30 = .ok (.ireturn, 1) := by decide +kernel
theorem ce_X1_isBlind : CeV RX1 yX1_isBlind cX1_isBlind 3 (some .boolean) 2 := ⟨tb_869, tp_34, tb_3, tb_870, rfl, by decide, by decide, by decide +kernel⟩
set_option maxHeartbeats 4000000 in
set_option maxRecDepth 20000 in
theorem V_X1_isBlind_100 (l : Launch) (D : va_G) (A : Nat → Prop) (ad : Nat → Nat) (ns : List Nat) (I : MI) (L : ML) (G : MG) (a0 : Int32) (hG : SGC ns G) (hI : INV I) (ha0 : 0 ≤ a0.toInt ∧ a0.toInt ≤ 575) : Met l yX1_isBlind (wd yX1_isBlind cX1_isBlind 3 (some .boolean)) ({ frames := 0, cells := 0, slots := 0, locals := 0 }) (va_Pc [.ref (ad (10)), .ref (ad (100)), .int a0] (PM D A ad ns I L G)) (va_Qi (fun r u => u = (ad, ns, I, L, G) ∧ (0 ≤ r.toInt ∧ r.toInt ≤ 1)) (BM D A) A) 0 0 A := by
  refine m_ofW (by decide) (Nat.le_of_ble_eq_true rfl) ?_
  intro p e s m below meth c ls args hC hE hM hA hS hl
  obtain ⟨hx, hb, hml, hown, hts, hr, hlocks, hin⟩ := hC
  have km1 : (-1 : Int32).toInt = -1 := by decide
  have k0 : (0 : Int32).toInt = 0 := by decide
  have k1 : (1 : Int32).toInt = 1 := by decide
  have hl : lv_has ls 3 [(0, .ref (ad (10))), (1, .ref (ad (100))), (2, .int (a0))] := hl
  refine lv_aload_n hx hb dX1_isBlind_0 rfl (lv_at hl 1 rfl) ?_
  refine m_getr (100) 11 (102) hx hb hts hown hE oc8 hM (hG.1 100 (by decide)) rfl (by decide) rfl (hG.2 (100, 11, 102) (by decide)) (by decide) tb_70 dX1_isBlind_1 ?_
  refine lv_iload_n hx hb dX1_isBlind_4 rfl (lv_at hl 2 rfl) ?_
  refine m_iald (102) hx hb hE hM (hG.1 102 (by decide)) rfl (vp_in_iff.mpr (by omega)) dX1_isBlind_5 ?_
  refine lv_iconst (v := (-1)) hx hb dX1_isBlind_6 (by decide) ?_
  refine lv_icmp_eq (tgt := 29) hx hb dX1_isBlind_7 (by decide) (fun c1 => ?_) (fun c1 => ?_)
  · have hc1 := c1
    have q1 := q_eq hc1
    refine lv_iconst (v := (0)) hx hb dX1_isBlind_29 (by decide) ?_
    exact m_zret hx hb hr rfl hlocks hM hS (Nat.le_of_ble_eq_true rfl) (Nat.le_of_ble_eq_true rfl) ⟨rfl, (by first | omega | decide)⟩ dX1_isBlind_30
  · have hc1 := c1
    have q1 := q_ne hc1
    refine lv_aload_n hx hb dX1_isBlind_10 rfl (lv_at hl 0 rfl) ?_
    refine m_getr (10) 1 (12) hx hb hts hown hE oc1 hM (hG.1 10 (by decide)) rfl (by decide) rfl (hG.2 (10, 1, 12) (by decide)) (by decide) tb_134 dX1_isBlind_11 ?_
    refine lv_iload_n hx hb dX1_isBlind_14 rfl (lv_at hl 2 rfl) ?_
    refine m_iald (12) hx hb hE hM (hG.1 12 (by decide)) rfl (vp_in_iff.mpr (by omega)) dX1_isBlind_15 ?_
    refine lv_aload_n hx hb dX1_isBlind_16 rfl (lv_at hl 1 rfl) ?_
    refine m_getr (100) 11 (102) hx hb hts hown hE oc8 hM (hG.1 100 (by decide)) rfl (by decide) rfl (hG.2 (100, 11, 102) (by decide)) (by decide) tb_70 dX1_isBlind_17 ?_
    refine lv_iload_n hx hb dX1_isBlind_20 rfl (lv_at hl 2 rfl) ?_
    refine m_iald (102) hx hb hE hM (hG.1 102 (by decide)) rfl (vp_in_iff.mpr (by omega)) dX1_isBlind_21 ?_
    refine lv_icmp_le (tgt := 29) hx hb dX1_isBlind_22 (by decide) (fun c2 => ?_) (fun c2 => ?_)
    · have hc2 := c2
      have q2 := q_le hc2
      refine lv_iconst (v := (0)) hx hb dX1_isBlind_29 (by decide) ?_
      exact m_zret hx hb hr rfl hlocks hM hS (Nat.le_of_ble_eq_true rfl) (Nat.le_of_ble_eq_true rfl) ⟨rfl, (by first | omega | decide)⟩ dX1_isBlind_30
    · have hc2 := c2
      have q2 := q_nle hc2
      refine lv_iconst (v := (1)) hx hb dX1_isBlind_25 (by decide) ?_
      refine lv_goto (tgt := 30) hx hb dX1_isBlind_26 (by decide) ?_
      exact m_zret hx hb hr rfl hlocks hM hS (Nat.le_of_ble_eq_true rfl) (Nat.le_of_ble_eq_true rfl) ⟨rfl, (by first | omega | decide)⟩ dX1_isBlind_30
theorem dX1_blindCount_0 : decode cX1_blindCount 0 = .ok (.iconst 0, 1) := by decide +kernel
theorem dX1_blindCount_1 : decode cX1_blindCount 1 = .ok (.istore_n 2, 1) := by decide +kernel
theorem dX1_blindCount_2 : decode cX1_blindCount 2 = .ok (.iconst 0, 1) := by decide +kernel
theorem dX1_blindCount_3 : decode cX1_blindCount 3 = .ok (.istore_n 3, 1) := by decide +kernel
theorem dX1_blindCount_4 : decode cX1_blindCount 4 = .ok (.iload_n 3, 1) := by decide +kernel
theorem dX1_blindCount_5 : decode cX1_blindCount 5 = .ok (.sipush 576, 3) := by decide +kernel
theorem dX1_blindCount_8 : decode cX1_blindCount 8 = .ok (.if_icmp .ge 21, 3) := by decide +kernel
theorem dX1_blindCount_11 : decode cX1_blindCount 11 = .ok (.aload_n 0, 1) := by decide +kernel
theorem dX1_blindCount_12 : decode cX1_blindCount 12 = .ok (.aload_n 1, 1) := by decide +kernel
theorem dX1_blindCount_13 : decode cX1_blindCount 13 = .ok (.iload_n 3, 1) := by decide +kernel
theorem dX1_blindCount_14 : decode cX1_blindCount 14 = .ok (.invokevirtual 76, 3) := by decide +kernel
theorem dX1_blindCount_17 : decode cX1_blindCount 17 = .ok (.ifCond .eq 6, 3) := by decide +kernel
theorem dX1_blindCount_20 : decode cX1_blindCount 20 = .ok (.iinc 2 1, 3) := by decide +kernel
theorem dX1_blindCount_23 : decode cX1_blindCount 23 = .ok (.iinc 3 1, 3) := by decide +kernel
theorem dX1_blindCount_26 : decode cX1_blindCount 26 = .ok (.goto (-22), 3) := by decide +kernel
theorem dX1_blindCount_29 : decode cX1_blindCount 29 = .ok (.iload_n 2, 1) := by decide +kernel
theorem dX1_blindCount_30 : decode cX1_blindCount 30 = .ok (.ireturn, 1) := by decide +kernel
theorem ce_X1_blindCount : CeV RX1 yX1_blindCount cX1_blindCount 4 (some .int) 1 := ⟨tb_918, tb_919, tb_3, tb_920, rfl, by decide, by decide, by decide +kernel⟩
set_option maxHeartbeats 4000000 in
set_option maxRecDepth 20000 in
theorem V_X1_blindCount_100 (l : Launch) (D : va_G) (A : Nat → Prop) (ad : Nat → Nat) (ns : List Nat) (I : MI) (L : ML) (G : MG) (hG : SGC ns G) (hI : INV I) : Met l yX1_blindCount (wd yX1_blindCount cX1_blindCount 4 (some .int)) ({ frames := 1, cells := 0, slots := 0, locals := 22 }) (va_Pc [.ref (ad (10)), .ref (ad (100))] (PM D A ad ns I L G)) (va_Qi (fun r u => u = (ad, ns, I, L, G) ∧ (True)) (BM D A) A) 0 0 A := by
  refine m_ofW (by decide) (Nat.le_of_ble_eq_true rfl) ?_
  intro p e s m below meth c ls args hC hE hM hA hS hl
  obtain ⟨hx, hb, hml, hown, hts, hr, hlocks, hin⟩ := hC
  have k0 : (0 : Int32).toInt = 0 := by decide
  have k576 : (576 : Int32).toInt = 576 := by decide
  have hl : lv_has ls 4 [(0, .ref (ad (10))), (1, .ref (ad (100)))] := hl
  refine lv_iconst (v := (0)) hx hb dX1_blindCount_0 (by decide) ?_
  refine lv_istore_n (lv' := [(2, .int (0)), (0, .ref (ad (10))), (1, .ref (ad (100)))]) hx hb dX1_blindCount_1 rfl hl (by decide) rfl (fun ls hl => ?_)
  refine lv_iconst (v := (0)) hx hb dX1_blindCount_2 (by decide) ?_
  refine lv_istore_n (lv' := [(3, .int (0)), (2, .int (0)), (0, .ref (ad (10))), (1, .ref (ad (100)))]) hx hb dX1_blindCount_3 rfl hl (by decide) rfl (fun ls hl => ?_)
  have loop4 : ∀ (n : Nat) (x3_4 : Int32) (x2_4 : Int32) (H : Heap) (locs : List Loc) (ls : Array Slot), (0 ≤ x3_4.toInt ∧ x3_4.toInt ≤ 576) → (576 - x3_4.toInt).toNat < n → Mem D A ad ns I L G H → va_S A s.heap H locs → lv_has ls 4 [(3, .int (x3_4)), (2, .int (x2_4)), (0, .ref (ad (10))), (1, .ref (ad (100)))] → W p l e ({ frames := 1, cells := 0, slots := 0, locals := 22 } : Room) s m args below meth c H locs 0 0 (MQ below (va_Qi (fun r u => u = (ad, ns, I, L, G) ∧ (True)) (BM D A) A) args s 0 0 A) (F0 m 4 ls []) := by
    intro n
    induction n with
    | zero =>
      intro x3_4 x2_4 H locs ls hr3_4 hmu
      exact absurd hmu (Nat.not_lt_zero _)
    | succ n ih4 =>
      intro x3_4 x2_4 H locs ls hr3_4 hmu4 hM hS hl
      refine lv_iload_n hx hb dX1_blindCount_4 rfl (lv_at hl 0 rfl) ?_
      refine lv_sipush (v := (576)) hx hb dX1_blindCount_5 (by decide) ?_
      refine lv_icmp_ge (tgt := 29) hx hb dX1_blindCount_8 (by decide) (fun c1 => ?_) (fun c1 => ?_)
      · have hc1 := c1
        have q1 := q_le hc1
        refine lv_iload_n hx hb dX1_blindCount_29 rfl (lv_at hl 1 rfl) ?_
        exact m_iret hx hb hr hlocks hM hS (Nat.le_of_ble_eq_true rfl) (Nat.le_of_ble_eq_true rfl) ⟨rfl, trivial⟩ dX1_blindCount_30
      · have hc1 := c1
        have q1 := q_nle hc1
        refine lv_aload_n hx hb dX1_blindCount_11 rfl (lv_at hl 2 rfl) ?_
        refine lv_aload_n hx hb dX1_blindCount_12 rfl (lv_at hl 3 rfl) ?_
        refine lv_iload_n hx hb dX1_blindCount_13 rfl (lv_at hl 0 rfl) ?_
        refine m_calli (m_runV (10) (As := [.ref (ad (100)), .int (x3_4)]) (rest := []) hx hb hml hown hts hE hM hS hA ce_X1_isBlind tb_867 (V_X1_isBlind_100 l D A ad ns I L G (x3_4) hG hI (by first | omega | decide)) rfl rfl ⟨Nat.le_of_ble_eq_true rfl, Nat.le_of_ble_eq_true rfl⟩ (hG.1 10 (by decide)) rfl rfl (by decide) rfl hl.1 rfl (Nat.le_of_ble_eq_true rfl) dX1_blindCount_14 ⟨Nat.le_of_ble_eq_true rfl, Nat.le_of_ble_eq_true rfl⟩) hS (fun r2 u H locs hw hM hS => ?_)
        obtain ⟨rfl, xr2⟩ := hw
        have hM : Mem D A ad ns I L G H := hM
        refine lv_if_eq (tgt := 23) hx hb dX1_blindCount_17 (by decide) (fun c3 => ?_) (fun c3 => ?_)
        · have hc3 := c3
          have q3 := q_eq hc3
          obtain ⟨v4, ev4⟩ : ∃ z : Int32, z = x3_4 + Int32.ofInt (1) := ⟨_, rfl⟩
          have tv4 := a_inc ev4 (by decide) (by omega) (by omega)
          refine lv_iinc (v := v4) (lv' := [(3, .int (v4)), (2, .int (x2_4)), (0, .ref (ad (10))), (1, .ref (ad (100)))]) hx hb dX1_blindCount_23 hl (k := 0) rfl ev4.symm (by decide) rfl (fun ls hl => ?_)
          refine lv_goto (tgt := 4) hx hb dX1_blindCount_26 (by decide) ?_
          exact ih4 (v4) (x2_4) _ _ ls (by first | omega | decide) (by omega) hM hS (lv_sub hl [0, 1, 2, 3] rfl)
        · have hc3 := c3
          have q3 := q_ne hc3
          obtain ⟨v5, ev5⟩ : ∃ z : Int32, z = x2_4 + Int32.ofInt (1) := ⟨_, rfl⟩
          refine lv_iinc (v := v5) (lv' := [(2, .int (v5)), (3, .int (x3_4)), (0, .ref (ad (10))), (1, .ref (ad (100)))]) hx hb dX1_blindCount_20 hl (k := 1) rfl ev5.symm (by decide) rfl (fun ls hl => ?_)
          obtain ⟨v6, ev6⟩ : ∃ z : Int32, z = x3_4 + Int32.ofInt (1) := ⟨_, rfl⟩
          have tv6 := a_inc ev6 (by decide) (by omega) (by omega)
          refine lv_iinc (v := v6) (lv' := [(3, .int (v6)), (2, .int (v5)), (0, .ref (ad (10))), (1, .ref (ad (100)))]) hx hb dX1_blindCount_23 hl (k := 1) rfl ev6.symm (by decide) rfl (fun ls hl => ?_)
          refine lv_goto (tgt := 4) hx hb dX1_blindCount_26 (by decide) ?_
          exact ih4 (v6) (v5) _ _ ls (by first | omega | decide) (by omega) hM hS (lv_sub hl [0, 1, 2, 3] rfl)
  exact loop4 (_ + 1) (0) (0) _ _ ls (by first | omega | decide) (Nat.lt_succ_self _) hM hS (lv_sub hl [0, 1, 2, 3] rfl)
theorem dX1_firstBlind_0 : decode cX1_firstBlind 0 = .ok (.iconst 0, 1) := by decide +kernel
theorem dX1_firstBlind_1 : decode cX1_firstBlind 1 = .ok (.istore_n 2, 1) := by decide +kernel
theorem dX1_firstBlind_2 : decode cX1_firstBlind 2 = .ok (.iload_n 2, 1) := by decide +kernel
theorem dX1_firstBlind_3 : decode cX1_firstBlind 3 = .ok (.sipush 576, 3) := by decide +kernel
theorem dX1_firstBlind_6 : decode cX1_firstBlind 6 = .ok (.if_icmp .ge 20, 3) := by decide +kernel
theorem dX1_firstBlind_9 : decode cX1_firstBlind 9 = .ok (.aload_n 0, 1) := by decide +kernel
theorem dX1_firstBlind_10 : decode cX1_firstBlind 10 = .ok (.aload_n 1, 1) := by decide +kernel
theorem dX1_firstBlind_11 : decode cX1_firstBlind 11 = .ok (.iload_n 2, 1) := by decide +kernel
theorem dX1_firstBlind_12 : decode cX1_firstBlind 12 = .ok (.invokevirtual 76, 3) := by decide +kernel
theorem dX1_firstBlind_15 : decode cX1_firstBlind 15 = .ok (.ifCond .eq 5, 3) := by decide +kernel
theorem dX1_firstBlind_18 : decode cX1_firstBlind 18 = .ok (.iload_n 2, 1) := by decide +kernel
theorem dX1_firstBlind_19 : decode cX1_firstBlind 19 = .ok (.ireturn, 1) := by decide +kernel
theorem dX1_firstBlind_20 : decode cX1_firstBlind 20 = .ok (.iinc 2 1, 3) := by decide +kernel
theorem dX1_firstBlind_23 : decode cX1_firstBlind 23 = .ok (.goto (-21), 3) := by decide +kernel
theorem dX1_firstBlind_26 : decode cX1_firstBlind 26 = .ok (.bipush (-2), 2) := by decide +kernel
theorem dX1_firstBlind_28 : decode cX1_firstBlind 28 = .ok (.ireturn, 1) := by decide +kernel
theorem ce_X1_firstBlind : CeV RX1 yX1_firstBlind cX1_firstBlind 3 (some .int) 1 := ⟨tb_864, tb_865, tb_3, tb_866, rfl, by decide, by decide, by decide +kernel⟩
set_option maxHeartbeats 4000000 in
set_option maxRecDepth 20000 in
theorem V_X1_firstBlind_100 (l : Launch) (D : va_G) (A : Nat → Prop) (ad : Nat → Nat) (ns : List Nat) (I : MI) (L : ML) (G : MG) (hG : SGC ns G) (hI : INV I) : Met l yX1_firstBlind (wd yX1_firstBlind cX1_firstBlind 3 (some .int)) ({ frames := 1, cells := 0, slots := 0, locals := 22 }) (va_Pc [.ref (ad (10)), .ref (ad (100))] (PM D A ad ns I L G)) (va_Qi (fun r u => u = (ad, ns, I, L, G) ∧ (True)) (BM D A) A) 0 0 A := by
  refine m_ofW (by decide) (Nat.le_of_ble_eq_true rfl) ?_
  intro p e s m below meth c ls args hC hE hM hA hS hl
  obtain ⟨hx, hb, hml, hown, hts, hr, hlocks, hin⟩ := hC
  have km2 : (-2 : Int32).toInt = -2 := by decide
  have k0 : (0 : Int32).toInt = 0 := by decide
  have k576 : (576 : Int32).toInt = 576 := by decide
  have hl : lv_has ls 3 [(0, .ref (ad (10))), (1, .ref (ad (100)))] := hl
  refine lv_iconst (v := (0)) hx hb dX1_firstBlind_0 (by decide) ?_
  refine lv_istore_n (lv' := [(2, .int (0)), (0, .ref (ad (10))), (1, .ref (ad (100)))]) hx hb dX1_firstBlind_1 rfl hl (by decide) rfl (fun ls hl => ?_)
  have loop2 : ∀ (n : Nat) (x2_2 : Int32) (H : Heap) (locs : List Loc) (ls : Array Slot), (0 ≤ x2_2.toInt ∧ x2_2.toInt ≤ 576) → (576 - x2_2.toInt).toNat < n → Mem D A ad ns I L G H → va_S A s.heap H locs → lv_has ls 3 [(2, .int (x2_2)), (0, .ref (ad (10))), (1, .ref (ad (100)))] → W p l e ({ frames := 1, cells := 0, slots := 0, locals := 22 } : Room) s m args below meth c H locs 0 0 (MQ below (va_Qi (fun r u => u = (ad, ns, I, L, G) ∧ (True)) (BM D A) A) args s 0 0 A) (F0 m 2 ls []) := by
    intro n
    induction n with
    | zero =>
      intro x2_2 H locs ls hr2_2 hmu
      exact absurd hmu (Nat.not_lt_zero _)
    | succ n ih2 =>
      intro x2_2 H locs ls hr2_2 hmu2 hM hS hl
      refine lv_iload_n hx hb dX1_firstBlind_2 rfl (lv_at hl 0 rfl) ?_
      refine lv_sipush (v := (576)) hx hb dX1_firstBlind_3 (by decide) ?_
      refine lv_icmp_ge (tgt := 26) hx hb dX1_firstBlind_6 (by decide) (fun c1 => ?_) (fun c1 => ?_)
      · have hc1 := c1
        have q1 := q_le hc1
        refine lv_bipush (v := (-2)) hx hb dX1_firstBlind_26 (by decide) ?_
        exact m_iret hx hb hr hlocks hM hS (Nat.le_of_ble_eq_true rfl) (Nat.le_of_ble_eq_true rfl) ⟨rfl, trivial⟩ dX1_firstBlind_28
      · have hc1 := c1
        have q1 := q_nle hc1
        refine lv_aload_n hx hb dX1_firstBlind_9 rfl (lv_at hl 1 rfl) ?_
        refine lv_aload_n hx hb dX1_firstBlind_10 rfl (lv_at hl 2 rfl) ?_
        refine lv_iload_n hx hb dX1_firstBlind_11 rfl (lv_at hl 0 rfl) ?_
        refine m_calli (m_runV (10) (As := [.ref (ad (100)), .int (x2_2)]) (rest := []) hx hb hml hown hts hE hM hS hA ce_X1_isBlind tb_867 (V_X1_isBlind_100 l D A ad ns I L G (x2_2) hG hI (by first | omega | decide)) rfl rfl ⟨Nat.le_of_ble_eq_true rfl, Nat.le_of_ble_eq_true rfl⟩ (hG.1 10 (by decide)) rfl rfl (by decide) rfl hl.1 rfl (Nat.le_of_ble_eq_true rfl) dX1_firstBlind_12 ⟨Nat.le_of_ble_eq_true rfl, Nat.le_of_ble_eq_true rfl⟩) hS (fun r2 u H locs hw hM hS => ?_)
        obtain ⟨rfl, xr2⟩ := hw
        have hM : Mem D A ad ns I L G H := hM
        refine lv_if_eq (tgt := 20) hx hb dX1_firstBlind_15 (by decide) (fun c3 => ?_) (fun c3 => ?_)
        · have hc3 := c3
          have q3 := q_eq hc3
          obtain ⟨v4, ev4⟩ : ∃ z : Int32, z = x2_2 + Int32.ofInt (1) := ⟨_, rfl⟩
          have tv4 := a_inc ev4 (by decide) (by omega) (by omega)
          refine lv_iinc (v := v4) (lv' := [(2, .int (v4)), (0, .ref (ad (10))), (1, .ref (ad (100)))]) hx hb dX1_firstBlind_20 hl (k := 0) rfl ev4.symm (by decide) rfl (fun ls hl => ?_)
          refine lv_goto (tgt := 2) hx hb dX1_firstBlind_23 (by decide) ?_
          exact ih2 (v4) _ _ ls (by first | omega | decide) (by omega) hM hS (lv_sub hl [0, 1, 2] rfl)
        · have hc3 := c3
          have q3 := q_ne hc3
          refine lv_iload_n hx hb dX1_firstBlind_18 rfl (lv_at hl 0 rfl) ?_
          exact m_iret hx hb hr hlocks hM hS (Nat.le_of_ble_eq_true rfl) (Nat.le_of_ble_eq_true rfl) ⟨rfl, trivial⟩ dX1_firstBlind_19
  exact loop2 (_ + 1) (0) _ _ ls (by first | omega | decide) (Nat.lt_succ_self _) hM hS (lv_sub hl [0, 1, 2] rfl)
theorem dX1_follow_0 : decode cX1_follow 0 = .ok (.iload_n 2, 1) := by decide +kernel
theorem dX1_follow_1 : decode cX1_follow 1 = .ok (.istore 6, 2) := by decide +kernel
theorem dX1_follow_3 : decode cX1_follow 3 = .ok (.iload_n 3, 1) := by decide +kernel
theorem dX1_follow_4 : decode cX1_follow 4 = .ok (.istore 7, 2) := by decide +kernel
theorem dX1_follow_6 : decode cX1_follow 6 = .ok (.iload 4, 2) := by decide +kernel
theorem dX1_follow_8 : decode cX1_follow 8 = .ok (.istore 8, 2) := by decide +kernel
theorem dX1_follow_10 : decode cX1_follow 10 = .ok (.iload 5, 2) := by decide +kernel
theorem dX1_follow_12 : decode cX1_follow 12 = .ok (.istore 9, 2) := by decide +kernel
theorem dX1_follow_14 : decode cX1_follow 14 = .ok (.iload 9, 2) := by decide +kernel
theorem dX1_follow_16 : decode cX1_follow 16 = .ok (.ifCond .le 171, 3) := by decide +kernel
theorem dX1_follow_19 : decode cX1_follow 19 = .ok (.aload_n 0, 1) := by decide +kernel
theorem dX1_follow_20 : decode cX1_follow 20 = .ok (.getfield 89, 3) := by decide +kernel
theorem dX1_follow_23 : decode cX1_follow 23 = .ok (.sipush 2000, 3) := by decide +kernel
theorem dX1_follow_26 : decode cX1_follow 26 = .ok (.if_icmp .ge 161, 3) := by decide +kernel
theorem dX1_follow_29 : decode cX1_follow 29 = .ok (.aload_n 0, 1) := by decide +kernel
theorem dX1_follow_30 : decode cX1_follow 30 = .ok (.dup, 1) := by decide +kernel
theorem dX1_follow_31 : decode cX1_follow 31 = .ok (.getfield 89, 3) := by decide +kernel
theorem dX1_follow_34 : decode cX1_follow 34 = .ok (.iconst 1, 1) := by decide +kernel
theorem dX1_follow_35 : decode cX1_follow 35 = .ok (.iadd, 1) := by decide +kernel
theorem dX1_follow_36 : decode cX1_follow 36 = .ok (.putfield 89, 3) := by decide +kernel
theorem dX1_follow_39 : decode cX1_follow 39 = .ok (.aload_n 1, 1) := by decide +kernel
theorem dX1_follow_40 : decode cX1_follow 40 = .ok (.iload 6, 2) := by decide +kernel
theorem dX1_follow_42 : decode cX1_follow 42 = .ok (.iload 7, 2) := by decide +kernel
theorem dX1_follow_44 : decode cX1_follow 44 = .ok (.invokevirtual 98, 3) := by decide +kernel
theorem dX1_follow_47 : decode cX1_follow 47 = .ok (.ifCond .ne 15, 3) := by decide +kernel
theorem dX1_follow_50 : decode cX1_follow 50 = .ok (.aload_n 0, 1) := by decide +kernel
theorem dX1_follow_51 : decode cX1_follow 51 = .ok (.dup, 1) := by decide +kernel
theorem dX1_follow_52 : decode cX1_follow 52 = .ok (.getfield 86, 3) := by decide +kernel
theorem dX1_follow_55 : decode cX1_follow 55 = .ok (.iload 9, 2) := by decide +kernel
theorem dX1_follow_57 : decode cX1_follow 57 = .ok (.iadd, 1) := by decide +kernel
theorem dX1_follow_58 : decode cX1_follow 58 = .ok (.putfield 86, 3) := by decide +kernel
theorem dX1_follow_61 : decode cX1_follow 61 = .ok (.return_, 1) := by decide +kernel
theorem dX1_follow_62 : decode cX1_follow 62 = .ok (.iload 6, 2) := by decide +kernel
theorem dX1_follow_64 : decode cX1_follow 64 = .ok (.iload 7, 2) := by decide +kernel
theorem dX1_follow_66 : decode cX1_follow 66 = .ok (.invokestatic 102, 3) := by decide +kernel
theorem dX1_follow_69 : decode cX1_follow 69 = .ok (.istore 10, 2) := by decide +kernel
theorem dX1_follow_71 : decode cX1_follow 71 = .ok (.aload_n 0, 1) := by decide +kernel
theorem dX1_follow_72 : decode cX1_follow 72 = .ok (.aload_n 1, 1) := by decide +kernel
theorem dX1_follow_73 : decode cX1_follow 73 = .ok (.iload 10, 2) := by decide +kernel
theorem dX1_follow_75 : decode cX1_follow 75 = .ok (.iload 9, 2) := by decide +kernel
theorem dX1_follow_77 : decode cX1_follow 77 = .ok (.invokevirtual 106, 3) := by decide +kernel
theorem dX1_follow_80 : decode cX1_follow 80 = .ok (.istore 9, 2) := by decide +kernel
theorem dX1_follow_82 : decode cX1_follow 82 = .ok (.aload_n 1, 1) := by decide +kernel
theorem dX1_follow_83 : decode cX1_follow 83 = .ok (.getfield 110, 3) := by decide +kernel
theorem dX1_follow_86 : decode cX1_follow 86 = .ok (.iload 10, 2) := by decide +kernel
theorem dX1_follow_88 : decode cX1_follow 88 = .ok (.iaload, 1) := by decide +kernel
theorem dX1_follow_89 : decode cX1_follow 89 = .ok (.iconst (-1), 1) := by decide +kernel
theorem dX1_follow_90 : decode cX1_follow 90 = .ok (.if_icmp .eq 19, 3) := by decide +kernel
theorem dX1_follow_93 : decode cX1_follow 93 = .ok (.aload_n 0, 1) := by decide +kernel
theorem dX1_follow_94 : decode cX1_follow 94 = .ok (.aload_n 1, 1) := by decide +kernel
theorem dX1_follow_95 : decode cX1_follow 95 = .ok (.aload_n 1, 1) := by decide +kernel
theorem dX1_follow_96 : decode cX1_follow 96 = .ok (.getfield 110, 3) := by decide +kernel
theorem dX1_follow_99 : decode cX1_follow 99 = .ok (.iload 10, 2) := by decide +kernel
theorem dX1_follow_101 : decode cX1_follow 101 = .ok (.iaload, 1) := by decide +kernel
theorem dX1_follow_102 : decode cX1_follow 102 = .ok (.iload 9, 2) := by decide +kernel
theorem dX1_follow_104 : decode cX1_follow 104 = .ok (.invokevirtual 113, 3) := by decide +kernel
theorem dX1_follow_107 : decode cX1_follow 107 = .ok (.istore 9, 2) := by decide +kernel
theorem dX1_follow_109 : decode cX1_follow 109 = .ok (.aload_n 1, 1) := by decide +kernel
theorem dX1_follow_110 : decode cX1_follow 110 = .ok (.getfield 116, 3) := by decide +kernel
theorem dX1_follow_113 : decode cX1_follow 113 = .ok (.iload 10, 2) := by decide +kernel
theorem dX1_follow_115 : decode cX1_follow 115 = .ok (.iaload, 1) := by decide +kernel
theorem dX1_follow_116 : decode cX1_follow 116 = .ok (.istore 11, 2) := by decide +kernel
theorem dX1_follow_118 : decode cX1_follow 118 = .ok (.iload 11, 2) := by decide +kernel
theorem dX1_follow_120 : decode cX1_follow 120 = .ok (.iconst (-1), 1) := by decide +kernel
theorem dX1_follow_121 : decode cX1_follow 121 = .ok (.if_icmp .eq 41, 3) := by decide +kernel
theorem dX1_follow_124 : decode cX1_follow 124 = .ok (.aload_n 1, 1) := by decide +kernel
theorem dX1_follow_125 : decode cX1_follow 125 = .ok (.iload 11, 2) := by decide +kernel
theorem dX1_follow_127 : decode cX1_follow 127 = .ok (.invokevirtual 119, 3) := by decide +kernel
theorem dX1_follow_130 : decode cX1_follow 130 = .ok (.ifCond .eq 32, 3) := by decide +kernel
theorem dX1_follow_133 : decode cX1_follow 133 = .ok (.aload_n 0, 1) := by decide +kernel
theorem dX1_follow_134 : decode cX1_follow 134 = .ok (.aload_n 1, 1) := by decide +kernel
theorem dX1_follow_135 : decode cX1_follow 135 = .ok (.iload 11, 2) := by decide +kernel
theorem dX1_follow_137 : decode cX1_follow 137 = .ok (.iload 10, 2) := by decide +kernel
theorem dX1_follow_139 : decode cX1_follow 139 = .ok (.bipush 8, 2) := by decide +kernel
theorem dX1_follow_141 : decode cX1_follow 141 = .ok (.imul, 1) := by decide +kernel
theorem dX1_follow_142 : decode cX1_follow 142 = .ok (.iload 8, 2) := by decide +kernel
theorem dX1_follow_144 : decode cX1_follow 144 = .ok (.iadd, 1) := by decide +kernel
theorem dX1_follow_145 : decode cX1_follow 145 = .ok (.iload 9, 2) := by decide +kernel
theorem dX1_follow_147 : decode cX1_follow 147 = .ok (.invokevirtual 123, 3) := by decide +kernel
theorem dX1_follow_150 : decode cX1_follow 150 = .ok (.istore 9, 2) := by decide +kernel
theorem dX1_follow_152 : decode cX1_follow 152 = .ok (.aload_n 1, 1) := by decide +kernel
theorem dX1_follow_153 : decode cX1_follow 153 = .ok (.iload 11, 2) := by decide +kernel
theorem dX1_follow_155 : decode cX1_follow 155 = .ok (.iload 8, 2) := by decide +kernel
theorem dX1_follow_157 : decode cX1_follow 157 = .ok (.invokevirtual 127, 3) := by decide +kernel
theorem dX1_follow_160 : decode cX1_follow 160 = .ok (.istore 8, 2) := by decide +kernel
theorem dX1_follow_162 : decode cX1_follow 162 = .ok (.iload 6, 2) := by decide +kernel
theorem dX1_follow_164 : decode cX1_follow 164 = .ok (.getstatic 53, 3) := by decide +kernel
theorem dX1_follow_167 : decode cX1_follow 167 = .ok (.iload 8, 2) := by decide +kernel
theorem dX1_follow_169 : decode cX1_follow 169 = .ok (.iaload, 1) := by decide +kernel
theorem dX1_follow_170 : decode cX1_follow 170 = .ok (.iadd, 1) := by decide +kernel
theorem dX1_follow_171 : decode cX1_follow 171 = .ok (.istore 6, 2) := by decide +kernel
theorem dX1_follow_173 : decode cX1_follow 173 = .ok (.iload 7, 2) := by decide +kernel
theorem dX1_follow_175 : decode cX1_follow 175 = .ok (.getstatic 56, 3) := by decide +kernel
theorem dX1_follow_178 : decode cX1_follow 178 = .ok (.iload 8, 2) := by decide +kernel
theorem dX1_follow_180 : decode cX1_follow 180 = .ok (.iaload, 1) := by decide +kernel
theorem dX1_follow_181 : decode cX1_follow 181 = .ok (.iadd, 1) := by decide +kernel
theorem dX1_follow_182 : decode cX1_follow 182 = .ok (.istore 7, 2) := by decide +kernel
theorem dX1_follow_184 : decode cX1_follow 184 = .ok (.goto (-170), 3) := by decide +kernel
theorem dX1_follow_187 : decode cX1_follow 187 = .ok (.iload 9, 2) := by decide +kernel
theorem dX1_follow_189 : decode cX1_follow 189 = .ok (.ifCond .le 19, 3) := by decide +kernel
theorem dX1_follow_192 : decode cX1_follow 192 = .ok (.aload_n 0, 1) := by decide +kernel
theorem dX1_follow_193 : decode cX1_follow 193 = .ok (.dup, 1) := by decide +kernel
theorem dX1_follow_194 : decode cX1_follow 194 = .ok (.getfield 86, 3) := by decide +kernel
theorem dX1_follow_197 : decode cX1_follow 197 = .ok (.iload 9, 2) := by decide +kernel
theorem dX1_follow_199 : decode cX1_follow 199 = .ok (.iadd, 1) := by decide +kernel
theorem dX1_follow_200 : decode cX1_follow 200 = .ok (.putfield 86, 3) := by decide +kernel
theorem dX1_follow_203 : decode cX1_follow 203 = .ok (.aload_n 0, 1) := by decide +kernel
theorem dX1_follow_204 : decode cX1_follow 204 = .ok (.iconst 1, 1) := by decide +kernel
theorem dX1_follow_205 : decode cX1_follow 205 = .ok (.putfield 95, 3) := by decide +kernel
theorem dX1_follow_208 : decode cX1_follow 208 = .ok (.return_, 1) := by decide +kernel
theorem ce_X1_follow : CeV RX1 yX1_follow cX1_follow 12 none 5 := ⟨tb_816, tp_29, tb_3, tb_817, rfl, by decide, by decide, by decide +kernel⟩
set_option maxHeartbeats 4000000 in
set_option maxRecDepth 20000 in
theorem V_X1_follow_100 (l : Launch) (D : va_G) (A : Nat → Prop) (ad : Nat → Nat) (ns : List Nat) (I : MI) (L : ML) (G : MG) (a0 : Int32) (a1 : Int32) (a2 : Int32) (a3 : Int32) (hG : SGC ns G) (hI : INV I) (ha2 : 0 ≤ a2.toInt ∧ a2.toInt ≤ 7) : Met l yX1_follow (wd yX1_follow cX1_follow 12 none) ({ frames := 2, cells := 0, slots := 0, locals := 49 }) (va_Pc [.ref (ad (10)), .ref (ad (100)), .int a0, .int a1, .int a2, .int a3] (PM D A ad ns I L G)) (va_Qv (fun u => ∃ I2 L2, u = (ad, ns, I2, L2, G) ∧ INV I2 ∧ Kp [(11, 15)] [(10, 2), (10, 3), (10, 4), (10, 5), (10, 6), (10, 7), (10, 12)] I I2) (BM D A) A) 0 0 A := by
  refine m_ofW (by decide) (Nat.le_of_ble_eq_true rfl) ?_
  intro p e s m below meth c ls args hC hE hM hA hS hl
  obtain ⟨hx, hb, hml, hown, hts, hr, hlocks, hin⟩ := hC
  have km1 : (-1 : Int32).toInt = -1 := by decide
  have k0 : (0 : Int32).toInt = 0 := by decide
  have k1 : (1 : Int32).toInt = 1 := by decide
  have k8 : (8 : Int32).toInt = 8 := by decide
  have k2000 : (2000 : Int32).toInt = 2000 := by decide
  have hK : Kp [(11, 15)] [(10, 2), (10, 3), (10, 4), (10, 5), (10, 6), (10, 7), (10, 12)] I I := Kp.rf
  have hl : lv_has ls 12 [(0, .ref (ad (10))), (1, .ref (ad (100))), (2, .int (a0)), (3, .int (a1)), (4, .int (a2)), (5, .int (a3))] := hl
  refine lv_iload_n hx hb dX1_follow_0 rfl (lv_at hl 2 rfl) ?_
  refine lv_istore (lv' := [(6, .int (a0)), (0, .ref (ad (10))), (1, .ref (ad (100))), (2, .int (a0)), (3, .int (a1)), (4, .int (a2)), (5, .int (a3))]) hx hb dX1_follow_1 hl (by decide) rfl (fun ls hl => ?_)
  refine lv_iload_n hx hb dX1_follow_3 rfl (lv_at hl 4 rfl) ?_
  refine lv_istore (lv' := [(7, .int (a1)), (6, .int (a0)), (0, .ref (ad (10))), (1, .ref (ad (100))), (2, .int (a0)), (3, .int (a1)), (4, .int (a2)), (5, .int (a3))]) hx hb dX1_follow_4 hl (by decide) rfl (fun ls hl => ?_)
  refine lv_iload hx hb dX1_follow_6 (lv_at hl 6 rfl) ?_
  refine lv_istore (lv' := [(8, .int (a2)), (7, .int (a1)), (6, .int (a0)), (0, .ref (ad (10))), (1, .ref (ad (100))), (2, .int (a0)), (3, .int (a1)), (4, .int (a2)), (5, .int (a3))]) hx hb dX1_follow_8 hl (by decide) rfl (fun ls hl => ?_)
  refine lv_iload hx hb dX1_follow_10 (lv_at hl 8 rfl) ?_
  refine lv_istore (lv' := [(9, .int (a3)), (8, .int (a2)), (7, .int (a1)), (6, .int (a0)), (0, .ref (ad (10))), (1, .ref (ad (100))), (2, .int (a0)), (3, .int (a1)), (4, .int (a2)), (5, .int (a3))]) hx hb dX1_follow_12 hl (by decide) rfl (fun ls hl => ?_)
  have loop14 : ∀ (n : Nat) (x9_14 : Int32) (x8_14 : Int32) (x7_14 : Int32) (x6_14 : Int32) (Ia14 : MI) (La14 : ML) (H : Heap) (locs : List Loc) (ls : Array Slot), INV Ia14 → Kp [(11, 15)] [(10, 2), (10, 3), (10, 4), (10, 5), (10, 6), (10, 7), (10, 12)] I Ia14 → (0 ≤ x8_14.toInt ∧ x8_14.toInt ≤ 7) → (2000 - (Ia14 10 4).toInt).toNat < n → Mem D A ad ns Ia14 La14 G H → va_S A s.heap H locs → lv_has ls 12 [(9, .int (x9_14)), (8, .int (x8_14)), (7, .int (x7_14)), (6, .int (x6_14)), (0, .ref (ad (10))), (1, .ref (ad (100))), (2, .int (a0)), (3, .int (a1)), (4, .int (a2)), (5, .int (a3))] → W p l e ({ frames := 2, cells := 0, slots := 0, locals := 49 } : Room) s m args below meth c H locs 0 0 (MQ below (va_Qv (fun u => ∃ I2 L2, u = (ad, ns, I2, L2, G) ∧ INV I2 ∧ Kp [(11, 15)] [(10, 2), (10, 3), (10, 4), (10, 5), (10, 6), (10, 7), (10, 12)] I I2) (BM D A) A) args s 0 0 A) (F0 m 14 ls []) := by
    intro n
    induction n with
    | zero =>
      intro x9_14 x8_14 x7_14 x6_14 Ia14 La14 H locs ls hI hK hr8_14 hmu
      exact absurd hmu (Nat.not_lt_zero _)
    | succ n ih14 =>
      intro x9_14 x8_14 x7_14 x6_14 Ia14 La14 H locs ls hI hK hr8_14 hmu14 hM hS hl
      refine lv_iload hx hb dX1_follow_14 (lv_at hl 0 rfl) ?_
      refine lv_if_le (tgt := 187) hx hb dX1_follow_16 (by decide) (fun c1 => ?_) (fun c1 => ?_)
      · have hc1 := c1
        have q1 := q_le hc1
        refine lv_iload hx hb dX1_follow_187 (lv_at hl 0 rfl) ?_
        refine lv_if_le (tgt := 208) hx hb dX1_follow_189 (by decide) (fun c2 => ?_) (fun c2 => ?_)
        · have hc2 := c2
          have q2 := q_le hc2
          exact m_vret hx hb hr hlocks hM hS (Nat.le_of_ble_eq_true rfl) (Nat.le_of_ble_eq_true rfl) ⟨_, _, rfl, hI, hK⟩ dX1_follow_208
        · have hc2 := c2
          have q2 := q_nle hc2
          refine lv_aload_n hx hb dX1_follow_192 rfl (lv_at hl 4 rfl) ?_
          refine lv_dup hx hb dX1_follow_193 rfl ?_
          refine m_geti (10) 3 hx hb hts hown hE oc1 hM (hG.1 10 (by decide)) rfl (by decide) rfl tb_138 dX1_follow_194 ?_
          refine lv_iload hx hb dX1_follow_197 (lv_at hl 0 rfl) ?_
          refine lv_iadd hx hb dX1_follow_199 ?_
          refine lv_topi (fun v3 ev3 => ?_)
          refine m_puti (10) 3 hx hb hts hown hE oc1 hM hS (hG.1 10 (by decide)) rfl (by decide) rfl rfl rfl rfl tb_138 dX1_follow_200 (fun H locs I4 eI4 hM hS => ?_)
          subst eI4
          have hI := hI.putF (n := 10) (k := 3) (v := v3) rfl
          have hK := hK.put (n := 10) (k := 3) (v := v3) (by first | rfl | simp [inR])
          refine lv_aload_n hx hb dX1_follow_203 rfl (lv_at hl 4 rfl) ?_
          refine lv_iconst (v := (1)) hx hb dX1_follow_204 (by decide) ?_
          refine m_puti (10) 6 hx hb hts hown hE oc1 hM hS (hG.1 10 (by decide)) rfl (by decide) rfl rfl rfl rfl tb_144 dX1_follow_205 (fun H locs I5 eI5 hM hS => ?_)
          subst eI5
          have hI := hI.put (n := 10) (k := 6) (v := 1) (lo := 0) (hi := 1) rfl (by first | omega | decide)
          have hK := hK.put (n := 10) (k := 6) (v := 1) (by first | rfl | simp [inR])
          exact m_vret hx hb hr hlocks hM hS (Nat.le_of_ble_eq_true rfl) (Nat.le_of_ble_eq_true rfl) ⟨_, _, rfl, hI, hK⟩ dX1_follow_208
      · have hc1 := c1
        have q1 := q_nle hc1
        refine lv_aload_n hx hb dX1_follow_19 rfl (lv_at hl 4 rfl) ?_
        refine m_geti (10) 4 hx hb hts hown hE oc1 hM (hG.1 10 (by decide)) rfl (by decide) rfl tb_140 dX1_follow_20 ?_
        have g6 := hI.get (10) 4 (lo := 0) (hi := 2000) rfl
        refine lv_sipush (v := (2000)) hx hb dX1_follow_23 (by decide) ?_
        refine lv_icmp_ge (tgt := 187) hx hb dX1_follow_26 (by decide) (fun c7 => ?_) (fun c7 => ?_)
        · have hc7 := c7
          have q7 := q_le hc7
          refine lv_iload hx hb dX1_follow_187 (lv_at hl 0 rfl) ?_
          refine lv_if_le (tgt := 208) hx hb dX1_follow_189 (by decide) (fun c8 => ?_) (fun c8 => ?_)
          · have hc8 := c8
            have q8 := q_le hc8
            exact m_vret hx hb hr hlocks hM hS (Nat.le_of_ble_eq_true rfl) (Nat.le_of_ble_eq_true rfl) ⟨_, _, rfl, hI, hK⟩ dX1_follow_208
          · have hc8 := c8
            have q8 := q_nle hc8
            refine lv_aload_n hx hb dX1_follow_192 rfl (lv_at hl 4 rfl) ?_
            refine lv_dup hx hb dX1_follow_193 rfl ?_
            refine m_geti (10) 3 hx hb hts hown hE oc1 hM (hG.1 10 (by decide)) rfl (by decide) rfl tb_138 dX1_follow_194 ?_
            refine lv_iload hx hb dX1_follow_197 (lv_at hl 0 rfl) ?_
            refine lv_iadd hx hb dX1_follow_199 ?_
            refine lv_topi (fun v9 ev9 => ?_)
            refine m_puti (10) 3 hx hb hts hown hE oc1 hM hS (hG.1 10 (by decide)) rfl (by decide) rfl rfl rfl rfl tb_138 dX1_follow_200 (fun H locs I10 eI10 hM hS => ?_)
            subst eI10
            have hI := hI.putF (n := 10) (k := 3) (v := v9) rfl
            have hK := hK.put (n := 10) (k := 3) (v := v9) (by first | rfl | simp [inR])
            refine lv_aload_n hx hb dX1_follow_203 rfl (lv_at hl 4 rfl) ?_
            refine lv_iconst (v := (1)) hx hb dX1_follow_204 (by decide) ?_
            refine m_puti (10) 6 hx hb hts hown hE oc1 hM hS (hG.1 10 (by decide)) rfl (by decide) rfl rfl rfl rfl tb_144 dX1_follow_205 (fun H locs I11 eI11 hM hS => ?_)
            subst eI11
            have hI := hI.put (n := 10) (k := 6) (v := 1) (lo := 0) (hi := 1) rfl (by first | omega | decide)
            have hK := hK.put (n := 10) (k := 6) (v := 1) (by first | rfl | simp [inR])
            exact m_vret hx hb hr hlocks hM hS (Nat.le_of_ble_eq_true rfl) (Nat.le_of_ble_eq_true rfl) ⟨_, _, rfl, hI, hK⟩ dX1_follow_208
        · have hc7 := c7
          have q7 := q_nle hc7
          refine lv_aload_n hx hb dX1_follow_29 rfl (lv_at hl 4 rfl) ?_
          refine lv_dup hx hb dX1_follow_30 rfl ?_
          refine m_geti (10) 4 hx hb hts hown hE oc1 hM (hG.1 10 (by decide)) rfl (by decide) rfl tb_140 dX1_follow_31 ?_
          refine lv_iconst (v := (1)) hx hb dX1_follow_34 (by decide) ?_
          refine lv_iadd hx hb dX1_follow_35 ?_
          refine lv_topi (fun v12 ev12 => ?_)
          have tv12 := a_add ev12 (by omega) (by omega)
          refine m_puti (10) 4 hx hb hts hown hE oc1 hM hS (hG.1 10 (by decide)) rfl (by decide) rfl rfl rfl rfl tb_140 dX1_follow_36 (fun H locs I13 eI13 hM hS => ?_)
          subst eI13
          have hI := hI.put (n := 10) (k := 4) (v := v12) (lo := 0) (hi := 2000) rfl (by first | omega | decide)
          have hK := hK.put (n := 10) (k := 4) (v := v12) (by first | rfl | simp [inR])
          refine lv_aload_n hx hb dX1_follow_39 rfl (lv_at hl 5 rfl) ?_
          refine lv_iload hx hb dX1_follow_40 (lv_at hl 3 rfl) ?_
          refine lv_iload hx hb dX1_follow_42 (lv_at hl 2 rfl) ?_
          refine m_calli (m_runV (100) (As := [.int (x6_14), .int (x7_14)]) (rest := []) hx hb hml hown hts hE hM hS hA ce_X8_isOpen tb_818 (V_X8_isOpen_100 l D A ad ns (u2 Ia14 (10) 4 (v12)) La14 G (x6_14) (x7_14) hG hI) rfl rfl ⟨Nat.le_of_ble_eq_true rfl, Nat.le_of_ble_eq_true rfl⟩ (hG.1 100 (by decide)) rfl rfl (by decide) rfl hl.1 rfl (Nat.le_of_ble_eq_true rfl) dX1_follow_44 ⟨Nat.le_of_ble_eq_true rfl, Nat.le_of_ble_eq_true rfl⟩) hS (fun r14 u H locs hw hM hS => ?_)
          obtain ⟨rfl, xr14⟩ := hw
          have hM : Mem D A ad ns (u2 Ia14 (10) 4 (v12)) La14 G H := hM
          have g15 := hI.get 100 0 (lo := 0) (hi := 24) rfl
          have g16 := hI.get 100 1 (lo := 0) (hi := 24) rfl
          refine lv_if_ne (tgt := 62) hx hb dX1_follow_47 (by decide) (fun c17 => ?_) (fun c17 => ?_)
          · have hc17 := c17
            have q17 := q_ne hc17
            refine lv_iload hx hb dX1_follow_62 (lv_at hl 3 rfl) ?_
            refine lv_iload hx hb dX1_follow_64 (lv_at hl 2 rfl) ?_
            refine m_calli (m_runSN (As := [.int (x6_14), .int (x7_14)]) (rest := []) hx hb hml hown hts hE hM hS hA ce_X9_cellOf (List.mem_of_getElem? (i := 7) rfl) (V_X9_cellOf l D A ad ns (u2 Ia14 (10) 4 (v12)) La14 G (x6_14) (x7_14) hI (by first | omega | decide) (by first | omega | decide)) rfl rfl ⟨Nat.le_of_ble_eq_true rfl, Nat.le_of_ble_eq_true rfl⟩  rfl hl.1 rfl (Nat.le_of_ble_eq_true rfl) dX1_follow_66 ⟨Nat.le_of_ble_eq_true rfl, Nat.le_of_ble_eq_true rfl⟩) hS (fun r18 u H locs hw hM hS => ?_)
            obtain ⟨rfl, xr18⟩ := hw
            have hM : Mem D A ad ns (u2 Ia14 (10) 4 (v12)) La14 G H := hM
            refine lv_istore (lv' := [(10, .int (r18)), (9, .int (x9_14)), (8, .int (x8_14)), (7, .int (x7_14)), (6, .int (x6_14)), (0, .ref (ad (10))), (1, .ref (ad (100))), (2, .int (a0)), (3, .int (a1)), (4, .int (a2)), (5, .int (a3))]) hx hb dX1_follow_69 hl (by decide) rfl (fun ls hl => ?_)
            refine lv_aload_n hx hb dX1_follow_71 rfl (lv_at hl 5 rfl) ?_
            refine lv_aload_n hx hb dX1_follow_72 rfl (lv_at hl 6 rfl) ?_
            refine lv_iload hx hb dX1_follow_73 (lv_at hl 0 rfl) ?_
            refine lv_iload hx hb dX1_follow_75 (lv_at hl 1 rfl) ?_
            refine m_calli (m_runV (10) (As := [.ref (ad (100)), .int (r18), .int (x9_14)]) (rest := []) hx hb hml hown hts hE hM hS hA ce_X1_passAir tb_823 (V_X1_passAir_100 l D A ad ns (u2 Ia14 (10) 4 (v12)) La14 G (r18) (x9_14) hG hI (by first | omega | decide)) rfl rfl ⟨Nat.le_of_ble_eq_true rfl, Nat.le_of_ble_eq_true rfl⟩ (hG.1 10 (by decide)) rfl rfl (by decide) rfl hl.1 rfl (Nat.le_of_ble_eq_true rfl) dX1_follow_77 ⟨Nat.le_of_ble_eq_true rfl, Nat.le_of_ble_eq_true rfl⟩) hS (fun r19 u H locs hw hM hS => ?_)
            obtain ⟨I20, L21, rfl, hI, hkI20⟩ := hw
            have hM : Mem D A ad ns I20 L21 G H := hM
            have hK := hK.trans hkI20 rfl
            refine lv_istore (lv' := [(9, .int (r19)), (10, .int (r18)), (8, .int (x8_14)), (7, .int (x7_14)), (6, .int (x6_14)), (0, .ref (ad (10))), (1, .ref (ad (100))), (2, .int (a0)), (3, .int (a1)), (4, .int (a2)), (5, .int (a3))]) hx hb dX1_follow_80 hl (by decide) rfl (fun ls hl => ?_)
            refine lv_aload_n hx hb dX1_follow_82 rfl (lv_at hl 6 rfl) ?_
            refine m_getr (100) 13 (104) hx hb hts hown hE oc8 hM (hG.1 100 (by decide)) rfl (by decide) rfl (hG.2 (100, 13, 104) (by decide)) (by decide) tb_76 dX1_follow_83 ?_
            refine lv_iload hx hb dX1_follow_86 (lv_at hl 1 rfl) ?_
            refine m_iald (104) hx hb hE hM (hG.1 104 (by decide)) rfl (vp_in_iff.mpr (by omega)) dX1_follow_88 ?_
            have g22 := hI.get (104) ((r18).toNatClampNeg) (lo := -1) (hi := 7) rfl
            have z23 : I20 (104) (r18).toNatClampNeg = Ia14 (104) ((r18).toNatClampNeg) := ((congrFun (hkI20.getA (104) rfl) ((r18).toNatClampNeg))).trans (show (u2 Ia14 (10) 4 (v12)) (104) ((r18).toNatClampNeg) = Ia14 (104) ((r18).toNatClampNeg) from by simp [u2_v])
            rw [z23] at g22 ⊢
            refine lv_iconst (v := (-1)) hx hb dX1_follow_89 (by decide) ?_
            refine lv_icmp_eq (tgt := 109) hx hb dX1_follow_90 (by decide) (fun c24 => ?_) (fun c24 => ?_)
            · have hc24 := c24
              have q24 := q_eq hc24
              refine lv_aload_n hx hb dX1_follow_109 rfl (lv_at hl 6 rfl) ?_
              refine m_getr (100) 12 (103) hx hb hts hown hE oc8 hM (hG.1 100 (by decide)) rfl (by decide) rfl (hG.2 (100, 12, 103) (by decide)) (by decide) tb_74 dX1_follow_110 ?_
              refine lv_iload hx hb dX1_follow_113 (lv_at hl 1 rfl) ?_
              refine m_iald (103) hx hb hE hM (hG.1 103 (by decide)) rfl (vp_in_iff.mpr (by omega)) dX1_follow_115 ?_
              have g25 := hI.get (103) ((r18).toNatClampNeg) (lo := -1) (hi := 23) rfl
              have z26 : I20 (103) (r18).toNatClampNeg = Ia14 (103) ((r18).toNatClampNeg) := ((congrFun (hkI20.getA (103) rfl) ((r18).toNatClampNeg))).trans (show (u2 Ia14 (10) 4 (v12)) (103) ((r18).toNatClampNeg) = Ia14 (103) ((r18).toNatClampNeg) from by simp [u2_v])
              rw [z26] at g25 ⊢
              refine lv_istore (lv' := [(11, .int (Ia14 (103) ((r18).toNatClampNeg))), (9, .int (r19)), (10, .int (r18)), (8, .int (x8_14)), (7, .int (x7_14)), (6, .int (x6_14)), (0, .ref (ad (10))), (1, .ref (ad (100))), (2, .int (a0)), (3, .int (a1)), (4, .int (a2)), (5, .int (a3))]) hx hb dX1_follow_116 hl (by decide) rfl (fun ls hl => ?_)
              refine lv_iload hx hb dX1_follow_118 (lv_at hl 0 rfl) ?_
              refine lv_iconst (v := (-1)) hx hb dX1_follow_120 (by decide) ?_
              refine lv_icmp_eq (tgt := 162) hx hb dX1_follow_121 (by decide) (fun c27 => ?_) (fun c27 => ?_)
              · have hc27 := c27
                have q27 := q_eq hc27
                refine lv_iload hx hb dX1_follow_162 (lv_at hl 5 rfl) ?_
                refine va_getsN hx hb hE.2.2.2.2.2.1.1 hS hown (va_Nw.use rfl (hE.2.1 _ (List.mem_of_getElem? (i := 9) rfl))) (fun _ h => h) dX1_follow_164 ?_
                refine lv_iload hx hb dX1_follow_167 (lv_at hl 3 rfl) ?_
                refine va_ti hx hb hE.2.2.2.2.2.1.2 hS (i := x8_14) (vp_in_iff.mpr (by omega)) rfl dX1_follow_169 ?_
                refine lv_topi (fun v28 ev28 => ?_)
                have tv28 := stX_r ev28
                refine lv_iadd hx hb dX1_follow_170 ?_
                refine lv_topi (fun v29 ev29 => ?_)
                refine lv_istore (lv' := [(6, .int (v29)), (11, .int (Ia14 (103) ((r18).toNatClampNeg))), (9, .int (r19)), (10, .int (r18)), (8, .int (x8_14)), (7, .int (x7_14)), (0, .ref (ad (10))), (1, .ref (ad (100))), (2, .int (a0)), (3, .int (a1)), (4, .int (a2)), (5, .int (a3))]) hx hb dX1_follow_171 hl (by decide) rfl (fun ls hl => ?_)
                refine lv_iload hx hb dX1_follow_173 (lv_at hl 5 rfl) ?_
                refine va_getsN hx hb hE.2.2.2.2.2.2.1.1 hS hown (va_Nw.use rfl (hE.2.1 _ (List.mem_of_getElem? (i := 10) rfl))) (fun _ h => h) dX1_follow_175 ?_
                refine lv_iload hx hb dX1_follow_178 (lv_at hl 4 rfl) ?_
                refine va_ti hx hb hE.2.2.2.2.2.2.1.2 hS (i := x8_14) (vp_in_iff.mpr (by omega)) rfl dX1_follow_180 ?_
                refine lv_topi (fun v30 ev30 => ?_)
                have tv30 := stY_r ev30
                refine lv_iadd hx hb dX1_follow_181 ?_
                refine lv_topi (fun v31 ev31 => ?_)
                refine lv_istore (lv' := [(7, .int (v31)), (6, .int (v29)), (11, .int (Ia14 (103) ((r18).toNatClampNeg))), (9, .int (r19)), (10, .int (r18)), (8, .int (x8_14)), (0, .ref (ad (10))), (1, .ref (ad (100))), (2, .int (a0)), (3, .int (a1)), (4, .int (a2)), (5, .int (a3))]) hx hb dX1_follow_182 hl (by decide) rfl (fun ls hl => ?_)
                refine lv_goto (tgt := 14) hx hb dX1_follow_184 (by decide) ?_
                have tr104 : (I20 (10) 4).toInt = (v12 : Int32).toInt := congrArg Int32.toInt (((hkI20.get (10) 4 rfl)).trans (show (u2 Ia14 (10) 4 (v12)) (10) 4 = v12 from by simp [u2_v]))
                exact ih14 (r19) (x8_14) (v31) (v29) I20 L21 _ _ ls hI hK (by first | omega | decide) (by omega) hM hS (lv_sub hl [3, 5, 0, 1, 6, 7, 8, 9, 10, 11] rfl)
              · have hc27 := c27
                have q27 := q_ne hc27
                refine lv_aload_n hx hb dX1_follow_124 rfl (lv_at hl 7 rfl) ?_
                refine lv_iload hx hb dX1_follow_125 (lv_at hl 0 rfl) ?_
                refine m_calli (m_runV (100) (As := [.int (Ia14 (103) ((r18).toNatClampNeg))]) (rest := []) hx hb hml hown hts hE hM hS hA ce_X8_isWhole tb_838 (V_X8_isWhole_100 l D A ad ns I20 L21 G (Ia14 (103) ((r18).toNatClampNeg)) hG hI (by first | omega | decide)) rfl rfl ⟨Nat.le_of_ble_eq_true rfl, Nat.le_of_ble_eq_true rfl⟩ (hG.1 100 (by decide)) rfl rfl (by decide) rfl hl.1 rfl (Nat.le_of_ble_eq_true rfl) dX1_follow_127 ⟨Nat.le_of_ble_eq_true rfl, Nat.le_of_ble_eq_true rfl⟩) hS (fun r32 u H locs hw hM hS => ?_)
                obtain ⟨rfl, xr32⟩ := hw
                have hM : Mem D A ad ns I20 L21 G H := hM
                refine lv_if_eq (tgt := 162) hx hb dX1_follow_130 (by decide) (fun c33 => ?_) (fun c33 => ?_)
                · have hc33 := c33
                  have q33 := q_eq hc33
                  refine lv_iload hx hb dX1_follow_162 (lv_at hl 5 rfl) ?_
                  refine va_getsN hx hb hE.2.2.2.2.2.1.1 hS hown (va_Nw.use rfl (hE.2.1 _ (List.mem_of_getElem? (i := 9) rfl))) (fun _ h => h) dX1_follow_164 ?_
                  refine lv_iload hx hb dX1_follow_167 (lv_at hl 3 rfl) ?_
                  refine va_ti hx hb hE.2.2.2.2.2.1.2 hS (i := x8_14) (vp_in_iff.mpr (by omega)) rfl dX1_follow_169 ?_
                  refine lv_topi (fun v34 ev34 => ?_)
                  have tv34 := stX_r ev34
                  refine lv_iadd hx hb dX1_follow_170 ?_
                  refine lv_topi (fun v35 ev35 => ?_)
                  refine lv_istore (lv' := [(6, .int (v35)), (11, .int (Ia14 (103) ((r18).toNatClampNeg))), (9, .int (r19)), (10, .int (r18)), (8, .int (x8_14)), (7, .int (x7_14)), (0, .ref (ad (10))), (1, .ref (ad (100))), (2, .int (a0)), (3, .int (a1)), (4, .int (a2)), (5, .int (a3))]) hx hb dX1_follow_171 hl (by decide) rfl (fun ls hl => ?_)
                  refine lv_iload hx hb dX1_follow_173 (lv_at hl 5 rfl) ?_
                  refine va_getsN hx hb hE.2.2.2.2.2.2.1.1 hS hown (va_Nw.use rfl (hE.2.1 _ (List.mem_of_getElem? (i := 10) rfl))) (fun _ h => h) dX1_follow_175 ?_
                  refine lv_iload hx hb dX1_follow_178 (lv_at hl 4 rfl) ?_
                  refine va_ti hx hb hE.2.2.2.2.2.2.1.2 hS (i := x8_14) (vp_in_iff.mpr (by omega)) rfl dX1_follow_180 ?_
                  refine lv_topi (fun v36 ev36 => ?_)
                  have tv36 := stY_r ev36
                  refine lv_iadd hx hb dX1_follow_181 ?_
                  refine lv_topi (fun v37 ev37 => ?_)
                  refine lv_istore (lv' := [(7, .int (v37)), (6, .int (v35)), (11, .int (Ia14 (103) ((r18).toNatClampNeg))), (9, .int (r19)), (10, .int (r18)), (8, .int (x8_14)), (0, .ref (ad (10))), (1, .ref (ad (100))), (2, .int (a0)), (3, .int (a1)), (4, .int (a2)), (5, .int (a3))]) hx hb dX1_follow_182 hl (by decide) rfl (fun ls hl => ?_)
                  refine lv_goto (tgt := 14) hx hb dX1_follow_184 (by decide) ?_
                  have tr104 : (I20 (10) 4).toInt = (v12 : Int32).toInt := congrArg Int32.toInt (((hkI20.get (10) 4 rfl)).trans (show (u2 Ia14 (10) 4 (v12)) (10) 4 = v12 from by simp [u2_v]))
                  exact ih14 (r19) (x8_14) (v37) (v35) I20 L21 _ _ ls hI hK (by first | omega | decide) (by omega) hM hS (lv_sub hl [3, 5, 0, 1, 6, 7, 8, 9, 10, 11] rfl)
                · have hc33 := c33
                  have q33 := q_ne hc33
                  refine lv_aload_n hx hb dX1_follow_133 rfl (lv_at hl 6 rfl) ?_
                  refine lv_aload_n hx hb dX1_follow_134 rfl (lv_at hl 7 rfl) ?_
                  refine lv_iload hx hb dX1_follow_135 (lv_at hl 0 rfl) ?_
                  refine lv_iload hx hb dX1_follow_137 (lv_at hl 2 rfl) ?_
                  refine lv_bipush (v := (8)) hx hb dX1_follow_139 (by decide) ?_
                  refine lv_imul hx hb dX1_follow_141 ?_
                  refine lv_topi (fun v38 ev38 => ?_)
                  have tv38 := a_mulR (c := 8) ev38 (by decide) (by omega) (by omega)
                  refine lv_iload hx hb dX1_follow_142 (lv_at hl 3 rfl) ?_
                  refine lv_iadd hx hb dX1_follow_144 ?_
                  refine lv_topi (fun v39 ev39 => ?_)
                  have tv39 := a_add ev39 (by omega) (by omega)
                  refine lv_iload hx hb dX1_follow_145 (lv_at hl 1 rfl) ?_
                  refine m_calli (m_runV (10) (As := [.ref (ad (100)), .int (Ia14 (103) ((r18).toNatClampNeg)), .int (v39), .int (r19)]) (rest := []) hx hb hml hown hts hE hM hS hA ce_X1_passMirror tb_842 (V_X1_passMirror_100 l D A ad ns I20 L21 G (Ia14 (103) ((r18).toNatClampNeg)) (v39) (r19) hG hI (by first | omega | decide) (by first | omega | decide)) rfl rfl ⟨Nat.le_of_ble_eq_true rfl, Nat.le_of_ble_eq_true rfl⟩ (hG.1 10 (by decide)) rfl rfl (by decide) rfl hl.1 rfl (Nat.le_of_ble_eq_true rfl) dX1_follow_147 ⟨Nat.le_of_ble_eq_true rfl, Nat.le_of_ble_eq_true rfl⟩) hS (fun r40 u H locs hw hM hS => ?_)
                  obtain ⟨I41, L42, rfl, hI, hkI41⟩ := hw
                  have hM : Mem D A ad ns I41 L42 G H := hM
                  have hK := hK.trans hkI41 rfl
                  refine lv_istore (lv' := [(9, .int (r40)), (11, .int (Ia14 (103) ((r18).toNatClampNeg))), (10, .int (r18)), (8, .int (x8_14)), (7, .int (x7_14)), (6, .int (x6_14)), (0, .ref (ad (10))), (1, .ref (ad (100))), (2, .int (a0)), (3, .int (a1)), (4, .int (a2)), (5, .int (a3))]) hx hb dX1_follow_150 hl (by decide) rfl (fun ls hl => ?_)
                  refine lv_aload_n hx hb dX1_follow_152 rfl (lv_at hl 7 rfl) ?_
                  refine lv_iload hx hb dX1_follow_153 (lv_at hl 1 rfl) ?_
                  refine lv_iload hx hb dX1_follow_155 (lv_at hl 3 rfl) ?_
                  refine m_calli (m_runV (100) (As := [.int (Ia14 (103) ((r18).toNatClampNeg)), .int (x8_14)]) (rest := []) hx hb hml hown hts hE hM hS hA ce_X8_wayFrom tb_855 (V_X8_wayFrom_100 l D A ad ns I41 L42 G (Ia14 (103) ((r18).toNatClampNeg)) (x8_14) hG hI (by first | omega | decide)) rfl rfl ⟨Nat.le_of_ble_eq_true rfl, Nat.le_of_ble_eq_true rfl⟩ (hG.1 100 (by decide)) rfl rfl (by decide) rfl hl.1 rfl (Nat.le_of_ble_eq_true rfl) dX1_follow_157 ⟨Nat.le_of_ble_eq_true rfl, Nat.le_of_ble_eq_true rfl⟩) hS (fun r43 u H locs hw hM hS => ?_)
                  obtain ⟨rfl, xr43⟩ := hw
                  have hM : Mem D A ad ns I41 L42 G H := hM
                  refine lv_istore (lv' := [(8, .int (r43)), (9, .int (r40)), (11, .int (Ia14 (103) ((r18).toNatClampNeg))), (10, .int (r18)), (7, .int (x7_14)), (6, .int (x6_14)), (0, .ref (ad (10))), (1, .ref (ad (100))), (2, .int (a0)), (3, .int (a1)), (4, .int (a2)), (5, .int (a3))]) hx hb dX1_follow_160 hl (by decide) rfl (fun ls hl => ?_)
                  refine lv_iload hx hb dX1_follow_162 (lv_at hl 5 rfl) ?_
                  refine va_getsN hx hb hE.2.2.2.2.2.1.1 hS hown (va_Nw.use rfl (hE.2.1 _ (List.mem_of_getElem? (i := 9) rfl))) (fun _ h => h) dX1_follow_164 ?_
                  refine lv_iload hx hb dX1_follow_167 (lv_at hl 0 rfl) ?_
                  refine va_ti hx hb hE.2.2.2.2.2.1.2 hS (i := r43) (vp_in_iff.mpr (by omega)) rfl dX1_follow_169 ?_
                  refine lv_topi (fun v44 ev44 => ?_)
                  have tv44 := stX_r ev44
                  refine lv_iadd hx hb dX1_follow_170 ?_
                  refine lv_topi (fun v45 ev45 => ?_)
                  refine lv_istore (lv' := [(6, .int (v45)), (8, .int (r43)), (9, .int (r40)), (11, .int (Ia14 (103) ((r18).toNatClampNeg))), (10, .int (r18)), (7, .int (x7_14)), (0, .ref (ad (10))), (1, .ref (ad (100))), (2, .int (a0)), (3, .int (a1)), (4, .int (a2)), (5, .int (a3))]) hx hb dX1_follow_171 hl (by decide) rfl (fun ls hl => ?_)
                  refine lv_iload hx hb dX1_follow_173 (lv_at hl 5 rfl) ?_
                  refine va_getsN hx hb hE.2.2.2.2.2.2.1.1 hS hown (va_Nw.use rfl (hE.2.1 _ (List.mem_of_getElem? (i := 10) rfl))) (fun _ h => h) dX1_follow_175 ?_
                  refine lv_iload hx hb dX1_follow_178 (lv_at hl 1 rfl) ?_
                  refine va_ti hx hb hE.2.2.2.2.2.2.1.2 hS (i := r43) (vp_in_iff.mpr (by omega)) rfl dX1_follow_180 ?_
                  refine lv_topi (fun v46 ev46 => ?_)
                  have tv46 := stY_r ev46
                  refine lv_iadd hx hb dX1_follow_181 ?_
                  refine lv_topi (fun v47 ev47 => ?_)
                  refine lv_istore (lv' := [(7, .int (v47)), (6, .int (v45)), (8, .int (r43)), (9, .int (r40)), (11, .int (Ia14 (103) ((r18).toNatClampNeg))), (10, .int (r18)), (0, .ref (ad (10))), (1, .ref (ad (100))), (2, .int (a0)), (3, .int (a1)), (4, .int (a2)), (5, .int (a3))]) hx hb dX1_follow_182 hl (by decide) rfl (fun ls hl => ?_)
                  refine lv_goto (tgt := 14) hx hb dX1_follow_184 (by decide) ?_
                  have tr104 : (I41 (10) 4).toInt = (v12 : Int32).toInt := congrArg Int32.toInt ((((hkI41.get (10) 4 rfl)).trans (hkI20.get (10) 4 rfl)).trans (show (u2 Ia14 (10) 4 (v12)) (10) 4 = v12 from by simp [u2_v]))
                  exact ih14 (r40) (r43) (v47) (v45) I41 L42 _ _ ls hI hK (by first | omega | decide) (by omega) hM hS (lv_sub hl [3, 2, 0, 1, 6, 7, 8, 9, 10, 11] rfl)
            · have hc24 := c24
              have q24 := q_ne hc24
              refine lv_aload_n hx hb dX1_follow_93 rfl (lv_at hl 5 rfl) ?_
              refine lv_aload_n hx hb dX1_follow_94 rfl (lv_at hl 6 rfl) ?_
              refine lv_aload_n hx hb dX1_follow_95 rfl (lv_at hl 6 rfl) ?_
              refine m_getr (100) 13 (104) hx hb hts hown hE oc8 hM (hG.1 100 (by decide)) rfl (by decide) rfl (hG.2 (100, 13, 104) (by decide)) (by decide) tb_76 dX1_follow_96 ?_
              refine lv_iload hx hb dX1_follow_99 (lv_at hl 1 rfl) ?_
              refine m_iald (104) hx hb hE hM (hG.1 104 (by decide)) rfl (vp_in_iff.mpr (by omega)) dX1_follow_101 ?_
              have z48 : I20 (104) (r18).toNatClampNeg = Ia14 (104) ((r18).toNatClampNeg) := ((congrFun (hkI20.getA (104) rfl) ((r18).toNatClampNeg))).trans (show (u2 Ia14 (10) 4 (v12)) (104) ((r18).toNatClampNeg) = Ia14 (104) ((r18).toNatClampNeg) from by simp [u2_v])
              rw [z48]
              refine lv_iload hx hb dX1_follow_102 (lv_at hl 0 rfl) ?_
              refine m_calli (m_runV (10) (As := [.ref (ad (100)), .int (Ia14 (104) ((r18).toNatClampNeg)), .int (r19)]) (rest := []) hx hb hml hown hts hE hM hS hA ce_X1_passYard tb_830 (V_X1_passYard_100 l D A ad ns I20 L21 G (Ia14 (104) ((r18).toNatClampNeg)) (r19) hG hI (by first | omega | decide)) rfl rfl ⟨Nat.le_of_ble_eq_true rfl, Nat.le_of_ble_eq_true rfl⟩ (hG.1 10 (by decide)) rfl rfl (by decide) rfl hl.1 rfl (Nat.le_of_ble_eq_true rfl) dX1_follow_104 ⟨Nat.le_of_ble_eq_true rfl, Nat.le_of_ble_eq_true rfl⟩) hS (fun r49 u H locs hw hM hS => ?_)
              obtain ⟨I50, L51, rfl, hI, hkI50⟩ := hw
              have hM : Mem D A ad ns I50 L51 G H := hM
              have hK := hK.trans hkI50 rfl
              refine lv_istore (lv' := [(9, .int (r49)), (10, .int (r18)), (8, .int (x8_14)), (7, .int (x7_14)), (6, .int (x6_14)), (0, .ref (ad (10))), (1, .ref (ad (100))), (2, .int (a0)), (3, .int (a1)), (4, .int (a2)), (5, .int (a3))]) hx hb dX1_follow_107 hl (by decide) rfl (fun ls hl => ?_)
              refine lv_aload_n hx hb dX1_follow_109 rfl (lv_at hl 6 rfl) ?_
              refine m_getr (100) 12 (103) hx hb hts hown hE oc8 hM (hG.1 100 (by decide)) rfl (by decide) rfl (hG.2 (100, 12, 103) (by decide)) (by decide) tb_74 dX1_follow_110 ?_
              refine lv_iload hx hb dX1_follow_113 (lv_at hl 1 rfl) ?_
              refine m_iald (103) hx hb hE hM (hG.1 103 (by decide)) rfl (vp_in_iff.mpr (by omega)) dX1_follow_115 ?_
              have g52 := hI.get (103) ((r18).toNatClampNeg) (lo := -1) (hi := 23) rfl
              have z53 : I50 (103) (r18).toNatClampNeg = Ia14 (103) ((r18).toNatClampNeg) := (((congrFun (hkI50.getA (103) rfl) ((r18).toNatClampNeg))).trans (congrFun (hkI20.getA (103) rfl) ((r18).toNatClampNeg))).trans (show (u2 Ia14 (10) 4 (v12)) (103) ((r18).toNatClampNeg) = Ia14 (103) ((r18).toNatClampNeg) from by simp [u2_v])
              rw [z53] at g52 ⊢
              refine lv_istore (lv' := [(11, .int (Ia14 (103) ((r18).toNatClampNeg))), (9, .int (r49)), (10, .int (r18)), (8, .int (x8_14)), (7, .int (x7_14)), (6, .int (x6_14)), (0, .ref (ad (10))), (1, .ref (ad (100))), (2, .int (a0)), (3, .int (a1)), (4, .int (a2)), (5, .int (a3))]) hx hb dX1_follow_116 hl (by decide) rfl (fun ls hl => ?_)
              refine lv_iload hx hb dX1_follow_118 (lv_at hl 0 rfl) ?_
              refine lv_iconst (v := (-1)) hx hb dX1_follow_120 (by decide) ?_
              refine lv_icmp_eq (tgt := 162) hx hb dX1_follow_121 (by decide) (fun c54 => ?_) (fun c54 => ?_)
              · have hc54 := c54
                have q54 := q_eq hc54
                refine lv_iload hx hb dX1_follow_162 (lv_at hl 5 rfl) ?_
                refine va_getsN hx hb hE.2.2.2.2.2.1.1 hS hown (va_Nw.use rfl (hE.2.1 _ (List.mem_of_getElem? (i := 9) rfl))) (fun _ h => h) dX1_follow_164 ?_
                refine lv_iload hx hb dX1_follow_167 (lv_at hl 3 rfl) ?_
                refine va_ti hx hb hE.2.2.2.2.2.1.2 hS (i := x8_14) (vp_in_iff.mpr (by omega)) rfl dX1_follow_169 ?_
                refine lv_topi (fun v55 ev55 => ?_)
                have tv55 := stX_r ev55
                refine lv_iadd hx hb dX1_follow_170 ?_
                refine lv_topi (fun v56 ev56 => ?_)
                refine lv_istore (lv' := [(6, .int (v56)), (11, .int (Ia14 (103) ((r18).toNatClampNeg))), (9, .int (r49)), (10, .int (r18)), (8, .int (x8_14)), (7, .int (x7_14)), (0, .ref (ad (10))), (1, .ref (ad (100))), (2, .int (a0)), (3, .int (a1)), (4, .int (a2)), (5, .int (a3))]) hx hb dX1_follow_171 hl (by decide) rfl (fun ls hl => ?_)
                refine lv_iload hx hb dX1_follow_173 (lv_at hl 5 rfl) ?_
                refine va_getsN hx hb hE.2.2.2.2.2.2.1.1 hS hown (va_Nw.use rfl (hE.2.1 _ (List.mem_of_getElem? (i := 10) rfl))) (fun _ h => h) dX1_follow_175 ?_
                refine lv_iload hx hb dX1_follow_178 (lv_at hl 4 rfl) ?_
                refine va_ti hx hb hE.2.2.2.2.2.2.1.2 hS (i := x8_14) (vp_in_iff.mpr (by omega)) rfl dX1_follow_180 ?_
                refine lv_topi (fun v57 ev57 => ?_)
                have tv57 := stY_r ev57
                refine lv_iadd hx hb dX1_follow_181 ?_
                refine lv_topi (fun v58 ev58 => ?_)
                refine lv_istore (lv' := [(7, .int (v58)), (6, .int (v56)), (11, .int (Ia14 (103) ((r18).toNatClampNeg))), (9, .int (r49)), (10, .int (r18)), (8, .int (x8_14)), (0, .ref (ad (10))), (1, .ref (ad (100))), (2, .int (a0)), (3, .int (a1)), (4, .int (a2)), (5, .int (a3))]) hx hb dX1_follow_182 hl (by decide) rfl (fun ls hl => ?_)
                refine lv_goto (tgt := 14) hx hb dX1_follow_184 (by decide) ?_
                have tr104 : (I50 (10) 4).toInt = (v12 : Int32).toInt := congrArg Int32.toInt ((((hkI50.get (10) 4 rfl)).trans (hkI20.get (10) 4 rfl)).trans (show (u2 Ia14 (10) 4 (v12)) (10) 4 = v12 from by simp [u2_v]))
                exact ih14 (r49) (x8_14) (v58) (v56) I50 L51 _ _ ls hI hK (by first | omega | decide) (by omega) hM hS (lv_sub hl [3, 5, 0, 1, 6, 7, 8, 9, 10, 11] rfl)
              · have hc54 := c54
                have q54 := q_ne hc54
                refine lv_aload_n hx hb dX1_follow_124 rfl (lv_at hl 7 rfl) ?_
                refine lv_iload hx hb dX1_follow_125 (lv_at hl 0 rfl) ?_
                refine m_calli (m_runV (100) (As := [.int (Ia14 (103) ((r18).toNatClampNeg))]) (rest := []) hx hb hml hown hts hE hM hS hA ce_X8_isWhole tb_838 (V_X8_isWhole_100 l D A ad ns I50 L51 G (Ia14 (103) ((r18).toNatClampNeg)) hG hI (by first | omega | decide)) rfl rfl ⟨Nat.le_of_ble_eq_true rfl, Nat.le_of_ble_eq_true rfl⟩ (hG.1 100 (by decide)) rfl rfl (by decide) rfl hl.1 rfl (Nat.le_of_ble_eq_true rfl) dX1_follow_127 ⟨Nat.le_of_ble_eq_true rfl, Nat.le_of_ble_eq_true rfl⟩) hS (fun r59 u H locs hw hM hS => ?_)
                obtain ⟨rfl, xr59⟩ := hw
                have hM : Mem D A ad ns I50 L51 G H := hM
                refine lv_if_eq (tgt := 162) hx hb dX1_follow_130 (by decide) (fun c60 => ?_) (fun c60 => ?_)
                · have hc60 := c60
                  have q60 := q_eq hc60
                  refine lv_iload hx hb dX1_follow_162 (lv_at hl 5 rfl) ?_
                  refine va_getsN hx hb hE.2.2.2.2.2.1.1 hS hown (va_Nw.use rfl (hE.2.1 _ (List.mem_of_getElem? (i := 9) rfl))) (fun _ h => h) dX1_follow_164 ?_
                  refine lv_iload hx hb dX1_follow_167 (lv_at hl 3 rfl) ?_
                  refine va_ti hx hb hE.2.2.2.2.2.1.2 hS (i := x8_14) (vp_in_iff.mpr (by omega)) rfl dX1_follow_169 ?_
                  refine lv_topi (fun v61 ev61 => ?_)
                  have tv61 := stX_r ev61
                  refine lv_iadd hx hb dX1_follow_170 ?_
                  refine lv_topi (fun v62 ev62 => ?_)
                  refine lv_istore (lv' := [(6, .int (v62)), (11, .int (Ia14 (103) ((r18).toNatClampNeg))), (9, .int (r49)), (10, .int (r18)), (8, .int (x8_14)), (7, .int (x7_14)), (0, .ref (ad (10))), (1, .ref (ad (100))), (2, .int (a0)), (3, .int (a1)), (4, .int (a2)), (5, .int (a3))]) hx hb dX1_follow_171 hl (by decide) rfl (fun ls hl => ?_)
                  refine lv_iload hx hb dX1_follow_173 (lv_at hl 5 rfl) ?_
                  refine va_getsN hx hb hE.2.2.2.2.2.2.1.1 hS hown (va_Nw.use rfl (hE.2.1 _ (List.mem_of_getElem? (i := 10) rfl))) (fun _ h => h) dX1_follow_175 ?_
                  refine lv_iload hx hb dX1_follow_178 (lv_at hl 4 rfl) ?_
                  refine va_ti hx hb hE.2.2.2.2.2.2.1.2 hS (i := x8_14) (vp_in_iff.mpr (by omega)) rfl dX1_follow_180 ?_
                  refine lv_topi (fun v63 ev63 => ?_)
                  have tv63 := stY_r ev63
                  refine lv_iadd hx hb dX1_follow_181 ?_
                  refine lv_topi (fun v64 ev64 => ?_)
                  refine lv_istore (lv' := [(7, .int (v64)), (6, .int (v62)), (11, .int (Ia14 (103) ((r18).toNatClampNeg))), (9, .int (r49)), (10, .int (r18)), (8, .int (x8_14)), (0, .ref (ad (10))), (1, .ref (ad (100))), (2, .int (a0)), (3, .int (a1)), (4, .int (a2)), (5, .int (a3))]) hx hb dX1_follow_182 hl (by decide) rfl (fun ls hl => ?_)
                  refine lv_goto (tgt := 14) hx hb dX1_follow_184 (by decide) ?_
                  have tr104 : (I50 (10) 4).toInt = (v12 : Int32).toInt := congrArg Int32.toInt ((((hkI50.get (10) 4 rfl)).trans (hkI20.get (10) 4 rfl)).trans (show (u2 Ia14 (10) 4 (v12)) (10) 4 = v12 from by simp [u2_v]))
                  exact ih14 (r49) (x8_14) (v64) (v62) I50 L51 _ _ ls hI hK (by first | omega | decide) (by omega) hM hS (lv_sub hl [3, 5, 0, 1, 6, 7, 8, 9, 10, 11] rfl)
                · have hc60 := c60
                  have q60 := q_ne hc60
                  refine lv_aload_n hx hb dX1_follow_133 rfl (lv_at hl 6 rfl) ?_
                  refine lv_aload_n hx hb dX1_follow_134 rfl (lv_at hl 7 rfl) ?_
                  refine lv_iload hx hb dX1_follow_135 (lv_at hl 0 rfl) ?_
                  refine lv_iload hx hb dX1_follow_137 (lv_at hl 2 rfl) ?_
                  refine lv_bipush (v := (8)) hx hb dX1_follow_139 (by decide) ?_
                  refine lv_imul hx hb dX1_follow_141 ?_
                  refine lv_topi (fun v65 ev65 => ?_)
                  have tv65 := a_mulR (c := 8) ev65 (by decide) (by omega) (by omega)
                  refine lv_iload hx hb dX1_follow_142 (lv_at hl 3 rfl) ?_
                  refine lv_iadd hx hb dX1_follow_144 ?_
                  refine lv_topi (fun v66 ev66 => ?_)
                  have tv66 := a_add ev66 (by omega) (by omega)
                  refine lv_iload hx hb dX1_follow_145 (lv_at hl 1 rfl) ?_
                  refine m_calli (m_runV (10) (As := [.ref (ad (100)), .int (Ia14 (103) ((r18).toNatClampNeg)), .int (v66), .int (r49)]) (rest := []) hx hb hml hown hts hE hM hS hA ce_X1_passMirror tb_842 (V_X1_passMirror_100 l D A ad ns I50 L51 G (Ia14 (103) ((r18).toNatClampNeg)) (v66) (r49) hG hI (by first | omega | decide) (by first | omega | decide)) rfl rfl ⟨Nat.le_of_ble_eq_true rfl, Nat.le_of_ble_eq_true rfl⟩ (hG.1 10 (by decide)) rfl rfl (by decide) rfl hl.1 rfl (Nat.le_of_ble_eq_true rfl) dX1_follow_147 ⟨Nat.le_of_ble_eq_true rfl, Nat.le_of_ble_eq_true rfl⟩) hS (fun r67 u H locs hw hM hS => ?_)
                  obtain ⟨I68, L69, rfl, hI, hkI68⟩ := hw
                  have hM : Mem D A ad ns I68 L69 G H := hM
                  have hK := hK.trans hkI68 rfl
                  refine lv_istore (lv' := [(9, .int (r67)), (11, .int (Ia14 (103) ((r18).toNatClampNeg))), (10, .int (r18)), (8, .int (x8_14)), (7, .int (x7_14)), (6, .int (x6_14)), (0, .ref (ad (10))), (1, .ref (ad (100))), (2, .int (a0)), (3, .int (a1)), (4, .int (a2)), (5, .int (a3))]) hx hb dX1_follow_150 hl (by decide) rfl (fun ls hl => ?_)
                  refine lv_aload_n hx hb dX1_follow_152 rfl (lv_at hl 7 rfl) ?_
                  refine lv_iload hx hb dX1_follow_153 (lv_at hl 1 rfl) ?_
                  refine lv_iload hx hb dX1_follow_155 (lv_at hl 3 rfl) ?_
                  refine m_calli (m_runV (100) (As := [.int (Ia14 (103) ((r18).toNatClampNeg)), .int (x8_14)]) (rest := []) hx hb hml hown hts hE hM hS hA ce_X8_wayFrom tb_855 (V_X8_wayFrom_100 l D A ad ns I68 L69 G (Ia14 (103) ((r18).toNatClampNeg)) (x8_14) hG hI (by first | omega | decide)) rfl rfl ⟨Nat.le_of_ble_eq_true rfl, Nat.le_of_ble_eq_true rfl⟩ (hG.1 100 (by decide)) rfl rfl (by decide) rfl hl.1 rfl (Nat.le_of_ble_eq_true rfl) dX1_follow_157 ⟨Nat.le_of_ble_eq_true rfl, Nat.le_of_ble_eq_true rfl⟩) hS (fun r70 u H locs hw hM hS => ?_)
                  obtain ⟨rfl, xr70⟩ := hw
                  have hM : Mem D A ad ns I68 L69 G H := hM
                  refine lv_istore (lv' := [(8, .int (r70)), (9, .int (r67)), (11, .int (Ia14 (103) ((r18).toNatClampNeg))), (10, .int (r18)), (7, .int (x7_14)), (6, .int (x6_14)), (0, .ref (ad (10))), (1, .ref (ad (100))), (2, .int (a0)), (3, .int (a1)), (4, .int (a2)), (5, .int (a3))]) hx hb dX1_follow_160 hl (by decide) rfl (fun ls hl => ?_)
                  refine lv_iload hx hb dX1_follow_162 (lv_at hl 5 rfl) ?_
                  refine va_getsN hx hb hE.2.2.2.2.2.1.1 hS hown (va_Nw.use rfl (hE.2.1 _ (List.mem_of_getElem? (i := 9) rfl))) (fun _ h => h) dX1_follow_164 ?_
                  refine lv_iload hx hb dX1_follow_167 (lv_at hl 0 rfl) ?_
                  refine va_ti hx hb hE.2.2.2.2.2.1.2 hS (i := r70) (vp_in_iff.mpr (by omega)) rfl dX1_follow_169 ?_
                  refine lv_topi (fun v71 ev71 => ?_)
                  have tv71 := stX_r ev71
                  refine lv_iadd hx hb dX1_follow_170 ?_
                  refine lv_topi (fun v72 ev72 => ?_)
                  refine lv_istore (lv' := [(6, .int (v72)), (8, .int (r70)), (9, .int (r67)), (11, .int (Ia14 (103) ((r18).toNatClampNeg))), (10, .int (r18)), (7, .int (x7_14)), (0, .ref (ad (10))), (1, .ref (ad (100))), (2, .int (a0)), (3, .int (a1)), (4, .int (a2)), (5, .int (a3))]) hx hb dX1_follow_171 hl (by decide) rfl (fun ls hl => ?_)
                  refine lv_iload hx hb dX1_follow_173 (lv_at hl 5 rfl) ?_
                  refine va_getsN hx hb hE.2.2.2.2.2.2.1.1 hS hown (va_Nw.use rfl (hE.2.1 _ (List.mem_of_getElem? (i := 10) rfl))) (fun _ h => h) dX1_follow_175 ?_
                  refine lv_iload hx hb dX1_follow_178 (lv_at hl 1 rfl) ?_
                  refine va_ti hx hb hE.2.2.2.2.2.2.1.2 hS (i := r70) (vp_in_iff.mpr (by omega)) rfl dX1_follow_180 ?_
                  refine lv_topi (fun v73 ev73 => ?_)
                  have tv73 := stY_r ev73
                  refine lv_iadd hx hb dX1_follow_181 ?_
                  refine lv_topi (fun v74 ev74 => ?_)
                  refine lv_istore (lv' := [(7, .int (v74)), (6, .int (v72)), (8, .int (r70)), (9, .int (r67)), (11, .int (Ia14 (103) ((r18).toNatClampNeg))), (10, .int (r18)), (0, .ref (ad (10))), (1, .ref (ad (100))), (2, .int (a0)), (3, .int (a1)), (4, .int (a2)), (5, .int (a3))]) hx hb dX1_follow_182 hl (by decide) rfl (fun ls hl => ?_)
                  refine lv_goto (tgt := 14) hx hb dX1_follow_184 (by decide) ?_
                  have tr104 : (I68 (10) 4).toInt = (v12 : Int32).toInt := congrArg Int32.toInt (((((hkI68.get (10) 4 rfl)).trans (hkI50.get (10) 4 rfl)).trans (hkI20.get (10) 4 rfl)).trans (show (u2 Ia14 (10) 4 (v12)) (10) 4 = v12 from by simp [u2_v]))
                  exact ih14 (r67) (r70) (v74) (v72) I68 L69 _ _ ls hI hK (by first | omega | decide) (by omega) hM hS (lv_sub hl [3, 2, 0, 1, 6, 7, 8, 9, 10, 11] rfl)
          · have hc17 := c17
            have q17 := q_eq hc17
            refine lv_aload_n hx hb dX1_follow_50 rfl (lv_at hl 4 rfl) ?_
            refine lv_dup hx hb dX1_follow_51 rfl ?_
            refine m_geti (10) 3 hx hb hts hown hE oc1 hM (hG.1 10 (by decide)) rfl (by decide) rfl tb_138 dX1_follow_52 ?_
            have z75 : (u2 Ia14 (10) 4 (v12)) (10) 3 = Ia14 (10) 3 := (show (u2 Ia14 (10) 4 (v12)) (10) 3 = Ia14 (10) 3 from by simp [u2_v])
            rw [z75]
            refine lv_iload hx hb dX1_follow_55 (lv_at hl 0 rfl) ?_
            refine lv_iadd hx hb dX1_follow_57 ?_
            refine lv_topi (fun v76 ev76 => ?_)
            refine m_puti (10) 3 hx hb hts hown hE oc1 hM hS (hG.1 10 (by decide)) rfl (by decide) rfl rfl rfl rfl tb_138 dX1_follow_58 (fun H locs I77 eI77 hM hS => ?_)
            subst eI77
            have hI := hI.putF (n := 10) (k := 3) (v := v76) rfl
            have hK := hK.put (n := 10) (k := 3) (v := v76) (by first | rfl | simp [inR])
            exact m_vret hx hb hr hlocks hM hS (Nat.le_of_ble_eq_true rfl) (Nat.le_of_ble_eq_true rfl) ⟨_, _, rfl, hI, hK⟩ dX1_follow_61
  exact loop14 (_ + 1) (a3) (a2) (a1) (a0) I L _ _ ls hI hK (by first | omega | decide) (Nat.lt_succ_self _) hM hS (lv_sub hl [0, 1, 2, 3, 4, 5, 6, 7, 8, 9] rfl)
theorem dX1_shine_0 : decode cX1_shine 0 = .ok (.aload_n 0, 1) := by decide +kernel
theorem dX1_shine_1 : decode cX1_shine 1 = .ok (.invokevirtual 24, 3) := by decide +kernel
theorem dX1_shine_4 : decode cX1_shine 4 = .ok (.aload_n 0, 1) := by decide +kernel
theorem dX1_shine_5 : decode cX1_shine 5 = .ok (.aload_n 1, 1) := by decide +kernel
theorem dX1_shine_6 : decode cX1_shine 6 = .ok (.aload_n 1, 1) := by decide +kernel
theorem dX1_shine_7 : decode cX1_shine 7 = .ok (.getfield 27, 3) := by decide +kernel
theorem dX1_shine_10 : decode cX1_shine 10 = .ok (.aload_n 1, 1) := by decide +kernel
theorem dX1_shine_11 : decode cX1_shine 11 = .ok (.getfield 33, 3) := by decide +kernel
theorem dX1_shine_14 : decode cX1_shine 14 = .ok (.aload_n 1, 1) := by decide +kernel
theorem dX1_shine_15 : decode cX1_shine 15 = .ok (.iload_n 2, 1) := by decide +kernel
theorem dX1_shine_16 : decode cX1_shine 16 = .ok (.invokevirtual 36, 3) := by decide +kernel
theorem dX1_shine_19 : decode cX1_shine 19 = .ok (.aload_n 1, 1) := by decide +kernel
theorem dX1_shine_20 : decode cX1_shine 20 = .ok (.iload_n 2, 1) := by decide +kernel
theorem dX1_shine_21 : decode cX1_shine 21 = .ok (.invokevirtual 40, 3) := by decide +kernel
theorem dX1_shine_24 : decode cX1_shine 24 = .ok (.invokevirtual 43, 3) := by decide +kernel
theorem dX1_shine_27 : decode cX1_shine 27 = .ok (.iconst 0, 1) := by decide +kernel
theorem dX1_shine_28 : decode cX1_shine 28 = .ok (.istore_n 3, 1) := by decide +kernel
theorem dX1_shine_29 : decode cX1_shine 29 = .ok (.aload_n 0, 1) := by decide +kernel
theorem dX1_shine_30 : decode cX1_shine 30 = .ok (.getfield 47, 3) := by decide +kernel
theorem dX1_shine_33 : decode cX1_shine 33 = .ok (.ifCond .le 108, 3) := by decide +kernel
theorem dX1_shine_36 : decode cX1_shine 36 = .ok (.iload_n 3, 1) := by decide +kernel
theorem dX1_shine_37 : decode cX1_shine 37 = .ok (.sipush 2000, 3) := by decide +kernel
theorem dX1_shine_40 : decode cX1_shine 40 = .ok (.if_icmp .ge 101, 3) := by decide +kernel
theorem dX1_shine_43 : decode cX1_shine 43 = .ok (.aload_n 0, 1) := by decide +kernel
theorem dX1_shine_44 : decode cX1_shine 44 = .ok (.getfield 18, 3) := by decide +kernel
theorem dX1_shine_47 : decode cX1_shine 47 = .ok (.aload_n 0, 1) := by decide +kernel
theorem dX1_shine_48 : decode cX1_shine 48 = .ok (.getfield 50, 3) := by decide +kernel
theorem dX1_shine_51 : decode cX1_shine 51 = .ok (.iaload, 1) := by decide +kernel
theorem dX1_shine_52 : decode cX1_shine 52 = .ok (.istore 4, 2) := by decide +kernel
theorem dX1_shine_54 : decode cX1_shine 54 = .ok (.aload_n 0, 1) := by decide +kernel
theorem dX1_shine_55 : decode cX1_shine 55 = .ok (.getfield 21, 3) := by decide +kernel
theorem dX1_shine_58 : decode cX1_shine 58 = .ok (.aload_n 0, 1) := by decide +kernel
theorem dX1_shine_59 : decode cX1_shine 59 = .ok (.getfield 50, 3) := by decide +kernel
theorem dX1_shine_62 : decode cX1_shine 62 = .ok (.iaload, 1) := by decide +kernel
theorem dX1_shine_63 : decode cX1_shine 63 = .ok (.istore 5, 2) := by decide +kernel
theorem dX1_shine_65 : decode cX1_shine 65 = .ok (.aload_n 0, 1) := by decide +kernel
theorem dX1_shine_66 : decode cX1_shine 66 = .ok (.aload_n 0, 1) := by decide +kernel
theorem dX1_shine_67 : decode cX1_shine 67 = .ok (.getfield 50, 3) := by decide +kernel
theorem dX1_shine_70 : decode cX1_shine 70 = .ok (.iconst 1, 1) := by decide +kernel
theorem dX1_shine_71 : decode cX1_shine 71 = .ok (.iadd, 1) := by decide +kernel
theorem dX1_shine_72 : decode cX1_shine 72 = .ok (.bipush 60, 2) := by decide +kernel
theorem dX1_shine_74 : decode cX1_shine 74 = .ok (.irem, 1) := by decide +kernel
theorem dX1_shine_75 : decode cX1_shine 75 = .ok (.putfield 50, 3) := by decide +kernel
theorem dX1_shine_78 : decode cX1_shine 78 = .ok (.aload_n 0, 1) := by decide +kernel
theorem dX1_shine_79 : decode cX1_shine 79 = .ok (.dup, 1) := by decide +kernel
theorem dX1_shine_80 : decode cX1_shine 80 = .ok (.getfield 47, 3) := by decide +kernel
theorem dX1_shine_83 : decode cX1_shine 83 = .ok (.iconst 1, 1) := by decide +kernel
theorem dX1_shine_84 : decode cX1_shine 84 = .ok (.isub, 1) := by decide +kernel
theorem dX1_shine_85 : decode cX1_shine 85 = .ok (.putfield 47, 3) := by decide +kernel
theorem dX1_shine_88 : decode cX1_shine 88 = .ok (.iload 4, 2) := by decide +kernel
theorem dX1_shine_90 : decode cX1_shine 90 = .ok (.bipush 8, 2) := by decide +kernel
theorem dX1_shine_92 : decode cX1_shine 92 = .ok (.irem, 1) := by decide +kernel
theorem dX1_shine_93 : decode cX1_shine 93 = .ok (.istore 6, 2) := by decide +kernel
theorem dX1_shine_95 : decode cX1_shine 95 = .ok (.iload 4, 2) := by decide +kernel
theorem dX1_shine_97 : decode cX1_shine 97 = .ok (.bipush 8, 2) := by decide +kernel
theorem dX1_shine_99 : decode cX1_shine 99 = .ok (.idiv, 1) := by decide +kernel
theorem dX1_shine_100 : decode cX1_shine 100 = .ok (.istore 7, 2) := by decide +kernel
theorem dX1_shine_102 : decode cX1_shine 102 = .ok (.aload_n 0, 1) := by decide +kernel
theorem dX1_shine_103 : decode cX1_shine 103 = .ok (.aload_n 1, 1) := by decide +kernel
theorem dX1_shine_104 : decode cX1_shine 104 = .ok (.iload 7, 2) := by decide +kernel
theorem dX1_shine_106 : decode cX1_shine 106 = .ok (.bipush 24, 2) := by decide +kernel
theorem dX1_shine_108 : decode cX1_shine 108 = .ok (.irem, 1) := by decide +kernel
theorem dX1_shine_109 : decode cX1_shine 109 = .ok (.getstatic 53, 3) := by decide +kernel
theorem dX1_shine_112 : decode cX1_shine 112 = .ok (.iload 6, 2) := by decide +kernel
theorem dX1_shine_114 : decode cX1_shine 114 = .ok (.iaload, 1) := by decide +kernel
theorem dX1_shine_115 : decode cX1_shine 115 = .ok (.iadd, 1) := by decide +kernel
theorem dX1_shine_116 : decode cX1_shine 116 = .ok (.iload 7, 2) := by decide +kernel
theorem dX1_shine_118 : decode cX1_shine 118 = .ok (.bipush 24, 2) := by decide +kernel
theorem dX1_shine_120 : decode cX1_shine 120 = .ok (.idiv, 1) := by decide +kernel
theorem dX1_shine_121 : decode cX1_shine 121 = .ok (.getstatic 56, 3) := by decide +kernel
theorem dX1_shine_124 : decode cX1_shine 124 = .ok (.iload 6, 2) := by decide +kernel
theorem dX1_shine_126 : decode cX1_shine 126 = .ok (.iaload, 1) := by decide +kernel
theorem dX1_shine_127 : decode cX1_shine 127 = .ok (.iadd, 1) := by decide +kernel
theorem dX1_shine_128 : decode cX1_shine 128 = .ok (.iload 6, 2) := by decide +kernel
theorem dX1_shine_130 : decode cX1_shine 130 = .ok (.iload 5, 2) := by decide +kernel
theorem dX1_shine_132 : decode cX1_shine 132 = .ok (.invokevirtual 43, 3) := by decide +kernel
theorem dX1_shine_135 : decode cX1_shine 135 = .ok (.iinc 3 1, 3) := by decide +kernel
theorem dX1_shine_138 : decode cX1_shine 138 = .ok (.goto (-109), 3) := by decide +kernel
theorem dX1_shine_141 : decode cX1_shine 141 = .ok (.return_, 1) := by decide +kernel
theorem ce_X1_shine : CeV RX1 yX1_shine cX1_shine 8 none 2 := ⟨tb_802, tb_803, tb_3, tb_804, rfl, by decide, by decide, by decide +kernel⟩
set_option maxHeartbeats 4000000 in
set_option maxRecDepth 20000 in
theorem V_X1_shine_100 (l : Launch) (D : va_G) (A : Nat → Prop) (ad : Nat → Nat) (ns : List Nat) (I : MI) (L : ML) (G : MG) (a0 : Int32) (hG : SGC ns G) (hI : INV I) (hlit : Lit 100 I a0) (ha0 : 0 ≤ a0.toInt ∧ a0.toInt ≤ 23) : Met l yX1_shine (wd yX1_shine cX1_shine 8 none) ({ frames := 3, cells := 0, slots := 0, locals := 80 }) (va_Pc [.ref (ad (10)), .ref (ad (100)), .int a0] (PM D A ad ns I L G)) (va_Qv (fun u => ∃ I2 L2, u = (ad, ns, I2, L2, G) ∧ INV I2 ∧ Kp [(11, 15)] [(10, 2), (10, 3), (10, 4), (10, 5), (10, 6), (10, 7), (10, 11), (10, 12)] I I2) (BM D A) A) 0 0 A := by
  refine m_ofW (by decide) (Nat.le_of_ble_eq_true rfl) ?_
  intro p e s m below meth c ls args hC hE hM hA hS hl
  obtain ⟨hx, hb, hml, hown, hts, hr, hlocks, hin⟩ := hC
  have k0 : (0 : Int32).toInt = 0 := by decide
  have k1 : (1 : Int32).toInt = 1 := by decide
  have k8 : (8 : Int32).toInt = 8 := by decide
  have k24 : (24 : Int32).toInt = 24 := by decide
  have k60 : (60 : Int32).toInt = 60 := by decide
  have k2000 : (2000 : Int32).toInt = 2000 := by decide
  have hK : Kp [(11, 15)] [(10, 2), (10, 3), (10, 4), (10, 5), (10, 6), (10, 7), (10, 11), (10, 12)] I I := Kp.rf
  have hl : lv_has ls 8 [(0, .ref (ad (10))), (1, .ref (ad (100))), (2, .int (a0))] := hl
  refine lv_aload_n hx hb dX1_shine_0 rfl (lv_at hl 0 rfl) ?_
  refine m_callv (m_runV (10) (As := []) (rest := []) hx hb hml hown hts hE hM hS hA ce_X1_clear tb_805 (V_X1_clear l D A ad ns I L G hG hI) rfl rfl ⟨Nat.le_of_ble_eq_true rfl, Nat.le_of_ble_eq_true rfl⟩ (hG.1 10 (by decide)) rfl rfl (by decide) rfl hl.1 rfl (Nat.le_of_ble_eq_true rfl) dX1_shine_1 ⟨Nat.le_of_ble_eq_true rfl, Nat.le_of_ble_eq_true rfl⟩) hS (fun u H locs hw hM hS => ?_)
  obtain ⟨I1, L2, rfl, hI, hkI1⟩ := hw
  have hM : Mem D A ad ns I1 L2 G H := hM
  have hK := hK.trans hkI1 rfl
  refine lv_aload_n hx hb dX1_shine_4 rfl (lv_at hl 0 rfl) ?_
  refine lv_aload_n hx hb dX1_shine_5 rfl (lv_at hl 1 rfl) ?_
  refine lv_aload_n hx hb dX1_shine_6 rfl (lv_at hl 1 rfl) ?_
  refine m_geti (100) 2 hx hb hts hown hE oc8 hM (hG.1 100 (by decide)) rfl (by decide) rfl tb_40 dX1_shine_7 ?_
  have g3 := hI.get (100) 2 (lo := 0) (hi := 23) rfl
  have z4 : I1 (100) 2 = I (100) 2 := (hkI1.get (100) 2 rfl)
  rw [z4] at g3 ⊢
  refine lv_aload_n hx hb dX1_shine_10 rfl (lv_at hl 1 rfl) ?_
  refine m_geti (100) 3 hx hb hts hown hE oc8 hM (hG.1 100 (by decide)) rfl (by decide) rfl tb_44 dX1_shine_11 ?_
  have g5 := hI.get (100) 3 (lo := 0) (hi := 23) rfl
  have z6 : I1 (100) 3 = I (100) 3 := (hkI1.get (100) 3 rfl)
  rw [z6] at g5 ⊢
  refine lv_aload_n hx hb dX1_shine_14 rfl (lv_at hl 1 rfl) ?_
  refine lv_iload_n hx hb dX1_shine_15 rfl (lv_at hl 2 rfl) ?_
  refine m_calli (m_runV (100) (As := [.int (a0)]) (rest := [.int (I (100) 3), .int (I (100) 2), .ref (ad (100)), .ref (ad (10))]) hx hb hml hown hts hE hM hS hA ce_X8_wayOf tb_809 (V_X8_wayOf_100 l D A ad ns I1 L2 G (a0) hG hI (by first | omega | decide)) rfl rfl ⟨Nat.le_of_ble_eq_true rfl, Nat.le_of_ble_eq_true rfl⟩ (hG.1 100 (by decide)) rfl rfl (by decide) rfl hl.1 rfl (Nat.le_of_ble_eq_true rfl) dX1_shine_16 ⟨Nat.le_of_ble_eq_true rfl, Nat.le_of_ble_eq_true rfl⟩) hS (fun r7 u H locs hw hM hS => ?_)
  obtain ⟨rfl, xr7⟩ := hw
  have hM : Mem D A ad ns I1 L2 G H := hM
  have lyr7 : (I1 105 (I1 100 5 * 24 + a0).toNatClampNeg).toInt ≠ -1 := (hlit.kp hK rfl).2
  have lzr7 := hI.get 105 ((I1 100 5 * 24 + a0).toNatClampNeg) (lo := -1) (hi := 7) rfl
  rw [← xr7] at lyr7 lzr7
  refine lv_aload_n hx hb dX1_shine_19 rfl (lv_at hl 1 rfl) ?_
  refine lv_iload_n hx hb dX1_shine_20 rfl (lv_at hl 2 rfl) ?_
  refine m_calli (m_runV (100) (As := [.int (a0)]) (rest := [.int (r7), .int (I (100) 3), .int (I (100) 2), .ref (ad (100)), .ref (ad (10))]) hx hb hml hown hts hE hM hS hA ce_X8_strengthOf tb_810 (V_X8_strengthOf_100 l D A ad ns I1 L2 G (a0) hG hI (by first | omega | decide)) rfl rfl ⟨Nat.le_of_ble_eq_true rfl, Nat.le_of_ble_eq_true rfl⟩ (hG.1 100 (by decide)) rfl rfl (by decide) rfl hl.1 rfl (Nat.le_of_ble_eq_true rfl) dX1_shine_21 ⟨Nat.le_of_ble_eq_true rfl, Nat.le_of_ble_eq_true rfl⟩) hS (fun r8 u H locs hw hM hS => ?_)
  obtain ⟨rfl, xr8⟩ := hw
  have hM : Mem D A ad ns I1 L2 G H := hM
  refine m_callv (m_runV (10) (As := [.ref (ad (100)), .int (I (100) 2), .int (I (100) 3), .int (r7), .int (r8)]) (rest := []) hx hb hml hown hts hE hM hS hA ce_X1_follow tb_814 (V_X1_follow_100 l D A ad ns I1 L2 G (I (100) 2) (I (100) 3) (r7) (r8) hG hI (by first | omega | decide)) rfl rfl ⟨Nat.le_of_ble_eq_true rfl, Nat.le_of_ble_eq_true rfl⟩ (hG.1 10 (by decide)) rfl rfl (by decide) rfl hl.1 rfl (Nat.le_of_ble_eq_true rfl) dX1_shine_24 ⟨Nat.le_of_ble_eq_true rfl, Nat.le_of_ble_eq_true rfl⟩) hS (fun u H locs hw hM hS => ?_)
  obtain ⟨I9, L10, rfl, hI, hkI9⟩ := hw
  have hM : Mem D A ad ns I9 L10 G H := hM
  have hK := hK.trans hkI9 rfl
  refine lv_iconst (v := (0)) hx hb dX1_shine_27 (by decide) ?_
  refine lv_istore_n (lv' := [(3, .int (0)), (0, .ref (ad (10))), (1, .ref (ad (100))), (2, .int (a0))]) hx hb dX1_shine_28 rfl hl (by decide) rfl (fun ls hl => ?_)
  have loop29 : ∀ (n : Nat) (x3_29 : Int32) (Ia29 : MI) (La29 : ML) (H : Heap) (locs : List Loc) (ls : Array Slot), INV Ia29 → Kp [(11, 15)] [(10, 2), (10, 3), (10, 4), (10, 5), (10, 6), (10, 7), (10, 11), (10, 12)] I Ia29 → (0 ≤ x3_29.toInt ∧ x3_29.toInt ≤ 2000) → (2000 - x3_29.toInt).toNat < n → Mem D A ad ns Ia29 La29 G H → va_S A s.heap H locs → lv_has ls 8 [(3, .int (x3_29)), (0, .ref (ad (10))), (1, .ref (ad (100))), (2, .int (a0))] → W p l e ({ frames := 3, cells := 0, slots := 0, locals := 80 } : Room) s m args below meth c H locs 0 0 (MQ below (va_Qv (fun u => ∃ I2 L2, u = (ad, ns, I2, L2, G) ∧ INV I2 ∧ Kp [(11, 15)] [(10, 2), (10, 3), (10, 4), (10, 5), (10, 6), (10, 7), (10, 11), (10, 12)] I I2) (BM D A) A) args s 0 0 A) (F0 m 29 ls []) := by
    intro n
    induction n with
    | zero =>
      intro x3_29 Ia29 La29 H locs ls hI hK hr3_29 hmu
      exact absurd hmu (Nat.not_lt_zero _)
    | succ n ih29 =>
      intro x3_29 Ia29 La29 H locs ls hI hK hr3_29 hmu29 hM hS hl
      refine lv_aload_n hx hb dX1_shine_29 rfl (lv_at hl 1 rfl) ?_
      refine m_geti (10) 12 hx hb hts hown hE oc1 hM (hG.1 10 (by decide)) rfl (by decide) rfl tb_151 dX1_shine_30 ?_
      have g11 := hI.get (10) 12 (lo := 0) (hi := 60) rfl
      refine lv_if_le (tgt := 141) hx hb dX1_shine_33 (by decide) (fun c12 => ?_) (fun c12 => ?_)
      · have hc12 := c12
        have q12 := q_le hc12
        exact m_vret hx hb hr hlocks hM hS (Nat.le_of_ble_eq_true rfl) (Nat.le_of_ble_eq_true rfl) ⟨_, _, rfl, hI, hK⟩ dX1_shine_141
      · have hc12 := c12
        have q12 := q_nle hc12
        refine lv_iload_n hx hb dX1_shine_36 rfl (lv_at hl 0 rfl) ?_
        refine lv_sipush (v := (2000)) hx hb dX1_shine_37 (by decide) ?_
        refine lv_icmp_ge (tgt := 141) hx hb dX1_shine_40 (by decide) (fun c13 => ?_) (fun c13 => ?_)
        · have hc13 := c13
          have q13 := q_le hc13
          exact m_vret hx hb hr hlocks hM hS (Nat.le_of_ble_eq_true rfl) (Nat.le_of_ble_eq_true rfl) ⟨_, _, rfl, hI, hK⟩ dX1_shine_141
        · have hc13 := c13
          have q13 := q_nle hc13
          refine lv_aload_n hx hb dX1_shine_43 rfl (lv_at hl 1 rfl) ?_
          refine m_getr (10) 9 (13) hx hb hts hown hE oc1 hM (hG.1 10 (by decide)) rfl (by decide) rfl (hG.2 (10, 9, 13) (by decide)) (by decide) tb_148 dX1_shine_44 ?_
          refine lv_aload_n hx hb dX1_shine_47 rfl (lv_at hl 1 rfl) ?_
          refine m_geti (10) 11 hx hb hts hown hE oc1 hM (hG.1 10 (by decide)) rfl (by decide) rfl tb_150 dX1_shine_48 ?_
          have g14 := hI.get (10) 11 (lo := 0) (hi := 59) rfl
          refine m_iald (13) hx hb hE hM (hG.1 13 (by decide)) rfl (vp_in_iff.mpr (by omega)) dX1_shine_51 ?_
          have g15 := hI.get (13) ((Ia29 (10) 11).toNatClampNeg) (lo := 0) (hi := 4607) rfl
          refine lv_istore (lv' := [(4, .int (Ia29 (13) (Ia29 (10) 11).toNatClampNeg)), (3, .int (x3_29)), (0, .ref (ad (10))), (1, .ref (ad (100))), (2, .int (a0))]) hx hb dX1_shine_52 hl (by decide) rfl (fun ls hl => ?_)
          refine lv_aload_n hx hb dX1_shine_54 rfl (lv_at hl 2 rfl) ?_
          refine m_getr (10) 10 (14) hx hb hts hown hE oc1 hM (hG.1 10 (by decide)) rfl (by decide) rfl (hG.2 (10, 10, 14) (by decide)) (by decide) tb_149 dX1_shine_55 ?_
          refine lv_aload_n hx hb dX1_shine_58 rfl (lv_at hl 2 rfl) ?_
          refine m_geti (10) 11 hx hb hts hown hE oc1 hM (hG.1 10 (by decide)) rfl (by decide) rfl tb_150 dX1_shine_59 ?_
          refine m_iald (14) hx hb hE hM (hG.1 14 (by decide)) rfl (vp_in_iff.mpr (by omega)) dX1_shine_62 ?_
          refine lv_istore (lv' := [(5, .int (Ia29 (14) (Ia29 (10) 11).toNatClampNeg)), (4, .int (Ia29 (13) (Ia29 (10) 11).toNatClampNeg)), (3, .int (x3_29)), (0, .ref (ad (10))), (1, .ref (ad (100))), (2, .int (a0))]) hx hb dX1_shine_63 hl (by decide) rfl (fun ls hl => ?_)
          refine lv_aload_n hx hb dX1_shine_65 rfl (lv_at hl 3 rfl) ?_
          refine lv_aload_n hx hb dX1_shine_66 rfl (lv_at hl 3 rfl) ?_
          refine m_geti (10) 11 hx hb hts hown hE oc1 hM (hG.1 10 (by decide)) rfl (by decide) rfl tb_150 dX1_shine_67 ?_
          refine lv_iconst (v := (1)) hx hb dX1_shine_70 (by decide) ?_
          refine lv_iadd hx hb dX1_shine_71 ?_
          refine lv_topi (fun v16 ev16 => ?_)
          have tv16 := a_add ev16 (by omega) (by omega)
          refine lv_bipush (v := (60)) hx hb dX1_shine_72 (by decide) ?_
          refine lv_irem hx hb dX1_shine_74 (by decide) ?_
          refine lv_topi (fun v17 ev17 => ?_)
          have tv17 := a_rem (c := 60) ev17 (by decide) (by decide) (by omega)
          refine m_puti (10) 11 hx hb hts hown hE oc1 hM hS (hG.1 10 (by decide)) rfl (by decide) rfl rfl rfl rfl tb_150 dX1_shine_75 (fun H locs I18 eI18 hM hS => ?_)
          subst eI18
          have hI := hI.put (n := 10) (k := 11) (v := v17) (lo := 0) (hi := 59) rfl (by first | omega | decide)
          have hK := hK.put (n := 10) (k := 11) (v := v17) (by first | rfl | simp [inR])
          refine lv_aload_n hx hb dX1_shine_78 rfl (lv_at hl 3 rfl) ?_
          refine lv_dup hx hb dX1_shine_79 rfl ?_
          refine m_geti (10) 12 hx hb hts hown hE oc1 hM (hG.1 10 (by decide)) rfl (by decide) rfl tb_151 dX1_shine_80 ?_
          have z19 : (u2 Ia29 (10) 11 (v17)) (10) 12 = Ia29 (10) 12 := (show (u2 Ia29 (10) 11 (v17)) (10) 12 = Ia29 (10) 12 from by simp [u2_v])
          rw [z19]
          refine lv_iconst (v := (1)) hx hb dX1_shine_83 (by decide) ?_
          refine lv_isub hx hb dX1_shine_84 ?_
          refine lv_topi (fun v20 ev20 => ?_)
          have tv20 := a_sub ev20 (by omega) (by omega)
          refine m_puti (10) 12 hx hb hts hown hE oc1 hM hS (hG.1 10 (by decide)) rfl (by decide) rfl rfl rfl rfl tb_151 dX1_shine_85 (fun H locs I21 eI21 hM hS => ?_)
          subst eI21
          have hI := hI.put (n := 10) (k := 12) (v := v20) (lo := 0) (hi := 60) rfl (by first | omega | decide)
          have hK := hK.put (n := 10) (k := 12) (v := v20) (by first | rfl | simp [inR])
          refine lv_iload hx hb dX1_shine_88 (lv_at hl 1 rfl) ?_
          refine lv_bipush (v := (8)) hx hb dX1_shine_90 (by decide) ?_
          refine lv_irem hx hb dX1_shine_92 (by decide) ?_
          refine lv_topi (fun v22 ev22 => ?_)
          have tv22 := a_rem (c := 8) ev22 (by decide) (by decide) (by omega)
          refine lv_istore (lv' := [(6, .int (v22)), (5, .int (Ia29 (14) (Ia29 (10) 11).toNatClampNeg)), (4, .int (Ia29 (13) (Ia29 (10) 11).toNatClampNeg)), (3, .int (x3_29)), (0, .ref (ad (10))), (1, .ref (ad (100))), (2, .int (a0))]) hx hb dX1_shine_93 hl (by decide) rfl (fun ls hl => ?_)
          refine lv_iload hx hb dX1_shine_95 (lv_at hl 2 rfl) ?_
          refine lv_bipush (v := (8)) hx hb dX1_shine_97 (by decide) ?_
          refine lv_idiv hx hb dX1_shine_99 (by decide) ?_
          refine lv_topi (fun v23 ev23 => ?_)
          have tv23 := a_div (c := 8) ev23 (by decide) (by decide) (by omega)
          refine lv_istore (lv' := [(7, .int (v23)), (6, .int (v22)), (5, .int (Ia29 (14) (Ia29 (10) 11).toNatClampNeg)), (4, .int (Ia29 (13) (Ia29 (10) 11).toNatClampNeg)), (3, .int (x3_29)), (0, .ref (ad (10))), (1, .ref (ad (100))), (2, .int (a0))]) hx hb dX1_shine_100 hl (by decide) rfl (fun ls hl => ?_)
          refine lv_aload_n hx hb dX1_shine_102 rfl (lv_at hl 5 rfl) ?_
          refine lv_aload_n hx hb dX1_shine_103 rfl (lv_at hl 6 rfl) ?_
          refine lv_iload hx hb dX1_shine_104 (lv_at hl 0 rfl) ?_
          refine lv_bipush (v := (24)) hx hb dX1_shine_106 (by decide) ?_
          refine lv_irem hx hb dX1_shine_108 (by decide) ?_
          refine lv_topi (fun v24 ev24 => ?_)
          have tv24 := a_rem (c := 24) ev24 (by decide) (by decide) (by omega)
          refine va_getsN hx hb hE.2.2.2.2.2.1.1 hS hown (va_Nw.use rfl (hE.2.1 _ (List.mem_of_getElem? (i := 9) rfl))) (fun _ h => h) dX1_shine_109 ?_
          refine lv_iload hx hb dX1_shine_112 (lv_at hl 1 rfl) ?_
          refine va_ti hx hb hE.2.2.2.2.2.1.2 hS (i := v22) (vp_in_iff.mpr (by omega)) rfl dX1_shine_114 ?_
          refine lv_topi (fun v25 ev25 => ?_)
          have tv25 := stX_r ev25
          refine lv_iadd hx hb dX1_shine_115 ?_
          refine lv_topi (fun v26 ev26 => ?_)
          have tv26 := a_add ev26 (by omega) (by omega)
          refine lv_iload hx hb dX1_shine_116 (lv_at hl 0 rfl) ?_
          refine lv_bipush (v := (24)) hx hb dX1_shine_118 (by decide) ?_
          refine lv_idiv hx hb dX1_shine_120 (by decide) ?_
          refine lv_topi (fun v27 ev27 => ?_)
          have tv27 := a_div (c := 24) ev27 (by decide) (by decide) (by omega)
          refine va_getsN hx hb hE.2.2.2.2.2.2.1.1 hS hown (va_Nw.use rfl (hE.2.1 _ (List.mem_of_getElem? (i := 10) rfl))) (fun _ h => h) dX1_shine_121 ?_
          refine lv_iload hx hb dX1_shine_124 (lv_at hl 1 rfl) ?_
          refine va_ti hx hb hE.2.2.2.2.2.2.1.2 hS (i := v22) (vp_in_iff.mpr (by omega)) rfl dX1_shine_126 ?_
          refine lv_topi (fun v28 ev28 => ?_)
          have tv28 := stY_r ev28
          refine lv_iadd hx hb dX1_shine_127 ?_
          refine lv_topi (fun v29 ev29 => ?_)
          have tv29 := a_add ev29 (by omega) (by omega)
          refine lv_iload hx hb dX1_shine_128 (lv_at hl 1 rfl) ?_
          refine lv_iload hx hb dX1_shine_130 (lv_at hl 2 rfl) ?_
          refine m_callv (m_runV (10) (As := [.ref (ad (100)), .int (v26), .int (v29), .int (v22), .int (Ia29 (14) (Ia29 (10) 11).toNatClampNeg)]) (rest := []) hx hb hml hown hts hE hM hS hA ce_X1_follow tb_814 (V_X1_follow_100 l D A ad ns (u2 (u2 Ia29 (10) 11 (v17)) (10) 12 (v20)) La29 G (v26) (v29) (v22) (Ia29 (14) (Ia29 (10) 11).toNatClampNeg) hG hI (by first | omega | decide)) rfl rfl ⟨Nat.le_of_ble_eq_true rfl, Nat.le_of_ble_eq_true rfl⟩ (hG.1 10 (by decide)) rfl rfl (by decide) rfl hl.1 rfl (Nat.le_of_ble_eq_true rfl) dX1_shine_132 ⟨Nat.le_of_ble_eq_true rfl, Nat.le_of_ble_eq_true rfl⟩) hS (fun u H locs hw hM hS => ?_)
          obtain ⟨I30, L31, rfl, hI, hkI30⟩ := hw
          have hM : Mem D A ad ns I30 L31 G H := hM
          have hK := hK.trans hkI30 rfl
          obtain ⟨v32, ev32⟩ : ∃ z : Int32, z = x3_29 + Int32.ofInt (1) := ⟨_, rfl⟩
          have tv32 := a_inc ev32 (by decide) (by omega) (by omega)
          refine lv_iinc (v := v32) (lv' := [(3, .int (v32)), (7, .int (v23)), (6, .int (v22)), (5, .int (Ia29 (14) (Ia29 (10) 11).toNatClampNeg)), (4, .int (Ia29 (13) (Ia29 (10) 11).toNatClampNeg)), (0, .ref (ad (10))), (1, .ref (ad (100))), (2, .int (a0))]) hx hb dX1_shine_135 hl (k := 4) rfl ev32.symm (by decide) rfl (fun ls hl => ?_)
          refine lv_goto (tgt := 29) hx hb dX1_shine_138 (by decide) ?_
          exact ih29 (v32) I30 L31 _ _ ls hI hK (by first | omega | decide) (by omega) hM hS (lv_sub hl [0, 5, 6, 7] rfl)
  exact loop29 (_ + 1) (0) I9 L10 _ _ ls hI hK (by first | omega | decide) (Nat.lt_succ_self _) hM hS (lv_sub hl [0, 1, 2, 3] rfl)
theorem dX1_shineWatched_0 : decode cX1_shineWatched 0 = .ok (.aload_n 0, 1) := by decide +kernel
theorem dX1_shineWatched_1 : decode cX1_shineWatched 1 = .ok (.iconst 1, 1) := by decide +kernel
theorem dX1_shineWatched_2 : decode cX1_shineWatched 2 = .ok (.putfield 59, 3) := by decide +kernel
theorem dX1_shineWatched_5 : decode cX1_shineWatched 5 = .ok (.aload_n 0, 1) := by decide +kernel
theorem dX1_shineWatched_6 : decode cX1_shineWatched 6 = .ok (.getfield 15, 3) := by decide +kernel
theorem dX1_shineWatched_9 : decode cX1_shineWatched 9 = .ok (.iconst 0, 1) := by decide +kernel
theorem dX1_shineWatched_10 : decode cX1_shineWatched 10 = .ok (.invokestatic 63, 3) := by decide +kernel
theorem dX1_shineWatched_13 : decode cX1_shineWatched 13 = .ok (.aload_n 0, 1) := by decide +kernel
theorem dX1_shineWatched_14 : decode cX1_shineWatched 14 = .ok (.aload_n 1, 1) := by decide +kernel
theorem dX1_shineWatched_15 : decode cX1_shineWatched 15 = .ok (.iload_n 2, 1) := by decide +kernel
theorem dX1_shineWatched_16 : decode cX1_shineWatched 16 = .ok (.invokevirtual 69, 3) := by decide +kernel
theorem dX1_shineWatched_19 : decode cX1_shineWatched 19 = .ok (.aload_n 0, 1) := by decide +kernel
theorem dX1_shineWatched_20 : decode cX1_shineWatched 20 = .ok (.iconst 0, 1) := by decide +kernel
theorem dX1_shineWatched_21 : decode cX1_shineWatched 21 = .ok (.putfield 59, 3) := by decide +kernel
theorem dX1_shineWatched_24 : decode cX1_shineWatched 24 = .ok (.return_, 1) := by decide +kernel
theorem ce_X1_shineWatched : CeV RX1 yX1_shineWatched cX1_shineWatched 3 none 2 := ⟨tb_797, tb_798, tb_3, tb_799, rfl, by decide, by decide, by decide +kernel⟩
set_option maxHeartbeats 4000000 in
set_option maxRecDepth 20000 in
theorem V_X1_shineWatched_100 (l : Launch) (D : va_G) (A : Nat → Prop) (ad : Nat → Nat) (ns : List Nat) (I : MI) (L : ML) (G : MG) (a0 : Int32) (hG : SGC ns G) (hI : INV I) (hlit : Lit 100 I a0) (ha0 : 0 ≤ a0.toInt ∧ a0.toInt ≤ 23) : Met l yX1_shineWatched (wd yX1_shineWatched cX1_shineWatched 3 none) ({ frames := 4, cells := 0, slots := 0, locals := 107 }) (va_Pc [.ref (ad (10)), .ref (ad (100)), .int a0] (PM D A ad ns I L G)) (va_Qv (fun u => ∃ I2 L2, u = (ad, ns, I2, L2, G) ∧ INV I2 ∧ Kp [(11, 15)] [(10, 2), (10, 3), (10, 4), (10, 5), (10, 6), (10, 7), (10, 8), (10, 11), (10, 12)] I I2) (BM D A) A) 0 0 A := by
  refine m_ofW (by decide) (Nat.le_of_ble_eq_true rfl) ?_
  intro p e s m below meth c ls args hC hE hM hA hS hl
  obtain ⟨hx, hb, hml, hown, hts, hr, hlocks, hin⟩ := hC
  have k0 : (0 : Int32).toInt = 0 := by decide
  have k1 : (1 : Int32).toInt = 1 := by decide
  have hK : Kp [(11, 15)] [(10, 2), (10, 3), (10, 4), (10, 5), (10, 6), (10, 7), (10, 8), (10, 11), (10, 12)] I I := Kp.rf
  have hl : lv_has ls 3 [(0, .ref (ad (10))), (1, .ref (ad (100))), (2, .int (a0))] := hl
  refine lv_aload_n hx hb dX1_shineWatched_0 rfl (lv_at hl 0 rfl) ?_
  refine lv_iconst (v := (1)) hx hb dX1_shineWatched_1 (by decide) ?_
  refine m_puti (10) 8 hx hb hts hown hE oc1 hM hS (hG.1 10 (by decide)) rfl (by decide) rfl rfl rfl rfl tb_147 dX1_shineWatched_2 (fun H locs I1 eI1 hM hS => ?_)
  subst eI1
  have hI := hI.put (n := 10) (k := 8) (v := 1) (lo := 0) (hi := 1) rfl (by first | omega | decide)
  have hK := hK.put (n := 10) (k := 8) (v := 1) (by first | rfl | simp [inR])
  refine lv_aload_n hx hb dX1_shineWatched_5 rfl (lv_at hl 0 rfl) ?_
  refine m_getr (10) 1 (12) hx hb hts hown hE oc1 hM (hG.1 10 (by decide)) rfl (by decide) rfl (hG.2 (10, 1, 12) (by decide)) (by decide) tb_134 dX1_shineWatched_6 ?_
  refine lv_iconst (v := (0)) hx hb dX1_shineWatched_9 (by decide) ?_
  refine m_callv (m_runS (As := [.ref (ad (12)), .int (0)]) (rest := []) hx hb hml hown hts hE hM hS hA ce_J7_fill_53178 tb_800 (C_J7_fill_53178 l D A ad ns (u2 I (10) 8 (1)) L G (12) 576 (0) (hG.1 12 (by decide)) rfl (by decide)) rfl rfl ⟨Nat.le_of_ble_eq_true rfl, Nat.le_of_ble_eq_true rfl⟩  rfl hl.1 rfl (Nat.le_of_ble_eq_true rfl) dX1_shineWatched_10 ⟨Nat.le_of_ble_eq_true rfl, Nat.le_of_ble_eq_true rfl⟩) hS (fun u H locs hw hM hS => ?_)
  subst hw
  obtain ⟨I2, eI2⟩ : ∃ z : MI, z = fillI (u2 I (10) 8 (1)) 12 576 (0) := ⟨_, rfl⟩
  have hM : Mem D A ad ns I2 L G H := by rw [eI2]; exact hM
  have hkI2 : Kp [(12, 13)] [] (u2 I (10) 8 (1)) I2 := by rw [eI2]; exact Kp.rf.fill rfl
  have hI : INV I2 := by rw [eI2]; exact hI.fill (fun k _ => (by decide : (-2147483648 : Int) ≤ (0 : Int32).toInt ∧ (0 : Int32).toInt ≤ (2147483647 : Int)))
  have hK := hK.trans hkI2 rfl
  refine lv_aload_n hx hb dX1_shineWatched_13 rfl (lv_at hl 0 rfl) ?_
  refine lv_aload_n hx hb dX1_shineWatched_14 rfl (lv_at hl 1 rfl) ?_
  refine lv_iload_n hx hb dX1_shineWatched_15 rfl (lv_at hl 2 rfl) ?_
  refine m_callv (m_runV (10) (As := [.ref (ad (100)), .int (a0)]) (rest := []) hx hb hml hown hts hE hM hS hA ce_X1_shine tb_801 (V_X1_shine_100 l D A ad ns I2 L G (a0) hG hI (hlit.kp hK rfl) (by first | omega | decide)) rfl rfl ⟨Nat.le_of_ble_eq_true rfl, Nat.le_of_ble_eq_true rfl⟩ (hG.1 10 (by decide)) rfl rfl (by decide) rfl hl.1 rfl (Nat.le_of_ble_eq_true rfl) dX1_shineWatched_16 ⟨Nat.le_of_ble_eq_true rfl, Nat.le_of_ble_eq_true rfl⟩) hS (fun u H locs hw hM hS => ?_)
  obtain ⟨I3, L4, rfl, hI, hkI3⟩ := hw
  have hM : Mem D A ad ns I3 L4 G H := hM
  have hK := hK.trans hkI3 rfl
  refine lv_aload_n hx hb dX1_shineWatched_19 rfl (lv_at hl 0 rfl) ?_
  refine lv_iconst (v := (0)) hx hb dX1_shineWatched_20 (by decide) ?_
  refine m_puti (10) 8 hx hb hts hown hE oc1 hM hS (hG.1 10 (by decide)) rfl (by decide) rfl rfl rfl rfl tb_147 dX1_shineWatched_21 (fun H locs I5 eI5 hM hS => ?_)
  subst eI5
  have hI := hI.put (n := 10) (k := 8) (v := 0) (lo := 0) (hi := 1) rfl (by first | omega | decide)
  have hK := hK.put (n := 10) (k := 8) (v := 0) (by first | rfl | simp [inR])
  exact m_vret hx hb hr hlocks hM hS (Nat.le_of_ble_eq_true rfl) (Nat.le_of_ble_eq_true rfl) ⟨_, _, rfl, hI, hK⟩ dX1_shineWatched_24
set_option maxHeartbeats 4000000 in
set_option maxRecDepth 20000 in
theorem V_X1_passAir_110 (l : Launch) (D : va_G) (A : Nat → Prop) (ad : Nat → Nat) (ns : List Nat) (I : MI) (L : ML) (G : MG) (a0 : Int32) (a1 : Int32) (hG : SGC ns G) (hI : INV I) (ha0 : 0 ≤ a0.toInt ∧ a0.toInt ≤ 575) : Met l yX1_passAir (wd yX1_passAir cX1_passAir 6 (some .int)) ({ frames := 1, cells := 0, slots := 0, locals := 21 }) (va_Pc [.ref (ad (10)), .ref (ad (110)), .int a0, .int a1] (PM D A ad ns I L G)) (va_Qi (fun r u => ∃ I2 L2, u = (ad, ns, I2, L2, G) ∧ INV I2 ∧ Kp [(12, 13)] [(10, 2)] I I2) (BM D A) A) 0 0 A := by
  refine m_ofW (by decide) (Nat.le_of_ble_eq_true rfl) ?_
  intro p e s m below meth c ls args hC hE hM hA hS hl
  obtain ⟨hx, hb, hml, hown, hts, hr, hlocks, hin⟩ := hC
  have k0 : (0 : Int32).toInt = 0 := by decide
  have hK : Kp [(12, 13)] [(10, 2)] I I := Kp.rf
  have hl : lv_has ls 6 [(0, .ref (ad (10))), (1, .ref (ad (110))), (2, .int (a0)), (3, .int (a1))] := hl
  refine lv_iload_n hx hb dX1_passAir_0 rfl (lv_at hl 3 rfl) ?_
  refine lv_aload_n hx hb dX1_passAir_1 rfl (lv_at hl 1 rfl) ?_
  refine m_geti (110) 4 hx hb hts hown hE oc8 hM (hG.1 110 (by decide)) rfl (by decide) rfl tb_50 dX1_passAir_2 ?_
  refine m_calli (m_runSN (As := [.int (a1), .int (I (110) 4)]) (rest := []) hx hb hml hown hts hE hM hS hA ce_X9_shareOf (List.mem_of_getElem? (i := 8) rfl) (V_X9_shareOf l D A ad ns I L G (a1) (I (110) 4) hI) rfl rfl ⟨Nat.le_of_ble_eq_true rfl, Nat.le_of_ble_eq_true rfl⟩  rfl hl.1 rfl (Nat.le_of_ble_eq_true rfl) dX1_passAir_5 ⟨Nat.le_of_ble_eq_true rfl, Nat.le_of_ble_eq_true rfl⟩) hS (fun r1 u H locs hw hM hS => ?_)
  obtain ⟨rfl, xr1⟩ := hw
  have hM : Mem D A ad ns I L G H := hM
  refine lv_istore (lv' := [(4, .int (r1)), (0, .ref (ad (10))), (1, .ref (ad (110))), (2, .int (a0)), (3, .int (a1))]) hx hb dX1_passAir_8 hl (by decide) rfl (fun ls hl => ?_)
  refine lv_iload_n hx hb dX1_passAir_10 rfl (lv_at hl 4 rfl) ?_
  refine lv_iload hx hb dX1_passAir_11 (lv_at hl 0 rfl) ?_
  refine lv_isub hx hb dX1_passAir_13 ?_
  refine lv_topi (fun v2 ev2 => ?_)
  refine lv_istore (lv' := [(5, .int (v2)), (4, .int (r1)), (0, .ref (ad (10))), (1, .ref (ad (110))), (2, .int (a0)), (3, .int (a1))]) hx hb dX1_passAir_14 hl (by decide) rfl (fun ls hl => ?_)
  refine lv_aload_n hx hb dX1_passAir_16 rfl (lv_at hl 2 rfl) ?_
  refine lv_dup hx hb dX1_passAir_17 rfl ?_
  refine m_geti (10) 2 hx hb hts hown hE oc1 hM (hG.1 10 (by decide)) rfl (by decide) rfl tb_136 dX1_passAir_18 ?_
  refine lv_iload hx hb dX1_passAir_21 (lv_at hl 1 rfl) ?_
  refine lv_iadd hx hb dX1_passAir_23 ?_
  refine lv_topi (fun v3 ev3 => ?_)
  refine m_puti (10) 2 hx hb hts hown hE oc1 hM hS (hG.1 10 (by decide)) rfl (by decide) rfl rfl rfl rfl tb_136 dX1_passAir_24 (fun H locs I4 eI4 hM hS => ?_)
  subst eI4
  have hI := hI.putF (n := 10) (k := 2) (v := v3) rfl
  have hK := hK.put (n := 10) (k := 2) (v := v3) (by first | rfl | simp [inR])
  refine lv_aload_n hx hb dX1_passAir_27 rfl (lv_at hl 2 rfl) ?_
  refine m_geti (10) 8 hx hb hts hown hE oc1 hM (hG.1 10 (by decide)) rfl (by decide) rfl tb_147 dX1_passAir_28 ?_
  have g5 := hI.get (10) 8 (lo := 0) (hi := 1) rfl
  have z6 : (u2 I (10) 2 (v3)) (10) 8 = I (10) 8 := (show (u2 I (10) 2 (v3)) (10) 8 = I (10) 8 from by simp [u2_v])
  rw [z6] at g5 ⊢
  refine lv_if_eq (tgt := 53) hx hb dX1_passAir_31 (by decide) (fun c7 => ?_) (fun c7 => ?_)
  · have hc7 := c7
    have q7 := q_eq hc7
    refine lv_iload hx hb dX1_passAir_53 (lv_at hl 0 rfl) ?_
    exact m_iret hx hb hr hlocks hM hS (Nat.le_of_ble_eq_true rfl) (Nat.le_of_ble_eq_true rfl) ⟨_, _, rfl, hI, hK⟩ dX1_passAir_55
  · have hc7 := c7
    have q7 := q_ne hc7
    refine lv_aload_n hx hb dX1_passAir_34 rfl (lv_at hl 2 rfl) ?_
    refine m_getr (10) 1 (12) hx hb hts hown hE oc1 hM (hG.1 10 (by decide)) rfl (by decide) rfl (hG.2 (10, 1, 12) (by decide)) (by decide) tb_134 dX1_passAir_35 ?_
    refine lv_iload_n hx hb dX1_passAir_38 rfl (lv_at hl 4 rfl) ?_
    refine m_iald (12) hx hb hE hM (hG.1 12 (by decide)) rfl (vp_in_iff.mpr (by omega)) dX1_passAir_39 ?_
    have z8 : (u2 I (10) 2 (v3)) (12) (a0).toNatClampNeg = I (12) ((a0).toNatClampNeg) := (show (u2 I (10) 2 (v3)) (12) ((a0).toNatClampNeg) = I (12) ((a0).toNatClampNeg) from by simp [u2_v])
    rw [z8]
    refine lv_iload hx hb dX1_passAir_40 (lv_at hl 0 rfl) ?_
    refine lv_icmp_ge (tgt := 53) hx hb dX1_passAir_42 (by decide) (fun c9 => ?_) (fun c9 => ?_)
    · have hc9 := c9
      have q9 := q_le hc9
      refine lv_iload hx hb dX1_passAir_53 (lv_at hl 0 rfl) ?_
      exact m_iret hx hb hr hlocks hM hS (Nat.le_of_ble_eq_true rfl) (Nat.le_of_ble_eq_true rfl) ⟨_, _, rfl, hI, hK⟩ dX1_passAir_55
    · have hc9 := c9
      have q9 := q_nle hc9
      refine lv_aload_n hx hb dX1_passAir_45 rfl (lv_at hl 2 rfl) ?_
      refine m_getr (10) 1 (12) hx hb hts hown hE oc1 hM (hG.1 10 (by decide)) rfl (by decide) rfl (hG.2 (10, 1, 12) (by decide)) (by decide) tb_134 dX1_passAir_46 ?_
      refine lv_iload_n hx hb dX1_passAir_49 rfl (lv_at hl 4 rfl) ?_
      refine lv_iload hx hb dX1_passAir_50 (lv_at hl 0 rfl) ?_
      refine m_iast (12) hx hb hE hM hS (hG.1 12 (by decide)) rfl (vp_in_iff.mpr (by omega)) dX1_passAir_52 (fun H locs I10 eI10 hM hS => ?_)
      subst eI10
      have hI := hI.putF (n := 12) (k := ((a0).toNatClampNeg)) (v := v2) rfl
      have hK := hK.put (n := 12) (k := ((a0).toNatClampNeg)) (v := v2) (by first | rfl | simp [inR])
      refine lv_iload hx hb dX1_passAir_53 (lv_at hl 0 rfl) ?_
      exact m_iret hx hb hr hlocks hM hS (Nat.le_of_ble_eq_true rfl) (Nat.le_of_ble_eq_true rfl) ⟨_, _, rfl, hI, hK⟩ dX1_passAir_55
set_option maxHeartbeats 4000000 in
set_option maxRecDepth 20000 in
theorem V_X1_passYard_110 (l : Launch) (D : va_G) (A : Nat → Prop) (ad : Nat → Nat) (ns : List Nat) (I : MI) (L : ML) (G : MG) (a0 : Int32) (a1 : Int32) (hG : SGC ns G) (hI : INV I) (ha0 : 0 ≤ a0.toInt ∧ a0.toInt ≤ 7) : Met l yX1_passYard (wd yX1_passYard cX1_passYard 5 (some .int)) ({ frames := 1, cells := 0, slots := 0, locals := 22 }) (va_Pc [.ref (ad (10)), .ref (ad (110)), .int a0, .int a1] (PM D A ad ns I L G)) (va_Qi (fun r u => ∃ I2 L2, u = (ad, ns, I2, L2, G) ∧ INV I2 ∧ Kp [(11, 12)] [] I I2) (BM D A) A) 0 0 A := by
  refine m_ofW (by decide) (Nat.le_of_ble_eq_true rfl) ?_
  intro p e s m below meth c ls args hC hE hM hA hS hl
  obtain ⟨hx, hb, hml, hown, hts, hr, hlocks, hin⟩ := hC
  have k0 : (0 : Int32).toInt = 0 := by decide
  have k2 : (2 : Int32).toInt = 2 := by decide
  have hK : Kp [(11, 12)] [] I I := Kp.rf
  have hl : lv_has ls 5 [(0, .ref (ad (10))), (1, .ref (ad (110))), (2, .int (a0)), (3, .int (a1))] := hl
  refine lv_iload_n hx hb dX1_passYard_0 rfl (lv_at hl 3 rfl) ?_
  refine lv_aload_n hx hb dX1_passYard_1 rfl (lv_at hl 1 rfl) ?_
  refine lv_iload_n hx hb dX1_passYard_2 rfl (lv_at hl 2 rfl) ?_
  refine lv_iconst (v := (2)) hx hb dX1_passYard_3 (by decide) ?_
  refine m_calli (m_runV (110) (As := [.int (a0), .int (2)]) (rest := [.int (a1)]) hx hb hml hown hts hE hM hS hA ce_X8_ofYard tb_834 (V_X8_ofYard_110 l D A ad ns I L G (a0) (2) hG hI (by first | omega | decide) (by first | omega | decide)) rfl rfl ⟨Nat.le_of_ble_eq_true rfl, Nat.le_of_ble_eq_true rfl⟩ (hG.1 110 (by decide)) rfl rfl (by decide) rfl hl.1 rfl (Nat.le_of_ble_eq_true rfl) dX1_passYard_4 ⟨Nat.le_of_ble_eq_true rfl, Nat.le_of_ble_eq_true rfl⟩) hS (fun r1 u H locs hw hM hS => ?_)
  obtain ⟨rfl, xr1⟩ := hw
  have hM : Mem D A ad ns I L G H := hM
  refine m_calli (m_runSN (As := [.int (a1), .int (r1)]) (rest := []) hx hb hml hown hts hE hM hS hA ce_X9_shareOf (List.mem_of_getElem? (i := 8) rfl) (V_X9_shareOf l D A ad ns I L G (a1) (r1) hI) rfl rfl ⟨Nat.le_of_ble_eq_true rfl, Nat.le_of_ble_eq_true rfl⟩  rfl hl.1 rfl (Nat.le_of_ble_eq_true rfl) dX1_passYard_7 ⟨Nat.le_of_ble_eq_true rfl, Nat.le_of_ble_eq_true rfl⟩) hS (fun r2 u H locs hw hM hS => ?_)
  obtain ⟨rfl, xr2⟩ := hw
  have hM : Mem D A ad ns I L G H := hM
  refine lv_istore (lv' := [(4, .int (r2)), (0, .ref (ad (10))), (1, .ref (ad (110))), (2, .int (a0)), (3, .int (a1))]) hx hb dX1_passYard_10 hl (by decide) rfl (fun ls hl => ?_)
  refine lv_aload_n hx hb dX1_passYard_12 rfl (lv_at hl 1 rfl) ?_
  refine m_getr (10) 0 (11) hx hb hts hown hE oc1 hM (hG.1 10 (by decide)) rfl (by decide) rfl (hG.2 (10, 0, 11) (by decide)) (by decide) tb_129 dX1_passYard_13 ?_
  refine lv_iload_n hx hb dX1_passYard_16 rfl (lv_at hl 3 rfl) ?_
  refine lv_dup2_11 hx hb dX1_passYard_17 rfl rfl ?_
  refine m_iald (11) hx hb hE hM (hG.1 11 (by decide)) rfl (vp_in_iff.mpr (by omega)) dX1_passYard_18 ?_
  refine lv_iload hx hb dX1_passYard_19 (lv_at hl 0 rfl) ?_
  refine lv_iadd hx hb dX1_passYard_21 ?_
  refine lv_topi (fun v3 ev3 => ?_)
  refine m_iast (11) hx hb hE hM hS (hG.1 11 (by decide)) rfl (vp_in_iff.mpr (by omega)) dX1_passYard_22 (fun H locs I4 eI4 hM hS => ?_)
  subst eI4
  have hI := hI.putF (n := 11) (k := ((a0).toNatClampNeg)) (v := v3) rfl
  have hK := hK.put (n := 11) (k := ((a0).toNatClampNeg)) (v := v3) (by first | rfl | simp [inR])
  refine lv_iload_n hx hb dX1_passYard_23 rfl (lv_at hl 4 rfl) ?_
  refine lv_iload hx hb dX1_passYard_24 (lv_at hl 0 rfl) ?_
  refine lv_isub hx hb dX1_passYard_26 ?_
  refine lv_topi (fun v5 ev5 => ?_)
  exact m_iret hx hb hr hlocks hM hS (Nat.le_of_ble_eq_true rfl) (Nat.le_of_ble_eq_true rfl) ⟨_, _, rfl, hI, hK⟩ dX1_passYard_27
set_option maxHeartbeats 4000000 in
set_option maxRecDepth 20000 in
theorem V_X1_passMirror_110 (l : Launch) (D : va_G) (A : Nat → Prop) (ad : Nat → Nat) (ns : List Nat) (I : MI) (L : ML) (G : MG) (a0 : Int32) (a1 : Int32) (a2 : Int32) (hG : SGC ns G) (hI : INV I) (ha0 : 0 ≤ a0.toInt ∧ a0.toInt ≤ 23) (ha1 : 0 ≤ a1.toInt ∧ a1.toInt ≤ 4607) : Met l yX1_passMirror (wd yX1_passMirror cX1_passMirror 7 (some .int)) ({ frames := 1, cells := 0, slots := 0, locals := 23 }) (va_Pc [.ref (ad (10)), .ref (ad (110)), .int a0, .int a1, .int a2] (PM D A ad ns I L G)) (va_Qi (fun r u => ∃ I2 L2, u = (ad, ns, I2, L2, G) ∧ INV I2 ∧ Kp [(13, 15)] [(10, 2), (10, 3), (10, 5), (10, 6), (10, 7), (10, 12)] I I2) (BM D A) A) 0 0 A := by
  refine m_ofW (by decide) (Nat.le_of_ble_eq_true rfl) ?_
  intro p e s m below meth c ls args hC hE hM hA hS hl
  obtain ⟨hx, hb, hml, hown, hts, hr, hlocks, hin⟩ := hC
  have k0 : (0 : Int32).toInt = 0 := by decide
  have k1 : (1 : Int32).toInt = 1 := by decide
  have k4 : (4 : Int32).toInt = 4 := by decide
  have hK : Kp [(13, 15)] [(10, 2), (10, 3), (10, 5), (10, 6), (10, 7), (10, 12)] I I := Kp.rf
  have hl : lv_has ls 7 [(0, .ref (ad (10))), (1, .ref (ad (110))), (2, .int (a0)), (3, .int (a1)), (4, .int (a2))] := hl
  refine lv_aload_n hx hb dX1_passMirror_0 rfl (lv_at hl 0 rfl) ?_
  refine lv_dup hx hb dX1_passMirror_1 rfl ?_
  refine m_geti (10) 7 hx hb hts hown hE oc1 hM (hG.1 10 (by decide)) rfl (by decide) rfl tb_146 dX1_passMirror_2 ?_
  refine lv_iconst (v := (1)) hx hb dX1_passMirror_5 (by decide) ?_
  refine lv_iload_n hx hb dX1_passMirror_6 rfl (lv_at hl 2 rfl) ?_
  refine lv_ishl hx hb dX1_passMirror_7 ?_
  refine lv_topi (fun v1 ev1 => ?_)
  refine lv_ior hx hb dX1_passMirror_8 ?_
  refine lv_topi (fun v2 ev2 => ?_)
  refine m_puti (10) 7 hx hb hts hown hE oc1 hM hS (hG.1 10 (by decide)) rfl (by decide) rfl rfl rfl rfl tb_146 dX1_passMirror_9 (fun H locs I3 eI3 hM hS => ?_)
  subst eI3
  have hI := hI.putF (n := 10) (k := 7) (v := v2) rfl
  have hK := hK.put (n := 10) (k := 7) (v := v2) (by first | rfl | simp [inR])
  refine lv_iload hx hb dX1_passMirror_12 (lv_at hl 4 rfl) ?_
  refine lv_aload_n hx hb dX1_passMirror_14 rfl (lv_at hl 1 rfl) ?_
  refine lv_iload_n hx hb dX1_passMirror_15 rfl (lv_at hl 2 rfl) ?_
  refine m_calli (m_runV (110) (As := [.int (a0)]) (rest := [.int (a2)]) hx hb hml hown hts hE hM hS hA ce_X8_lossOf tb_846 (V_X8_lossOf_110 l D A ad ns (u2 I (10) 7 (v2)) L G (a0) hG hI (by first | omega | decide)) rfl rfl ⟨Nat.le_of_ble_eq_true rfl, Nat.le_of_ble_eq_true rfl⟩ (hG.1 110 (by decide)) rfl rfl (by decide) rfl hl.1 rfl (Nat.le_of_ble_eq_true rfl) dX1_passMirror_16 ⟨Nat.le_of_ble_eq_true rfl, Nat.le_of_ble_eq_true rfl⟩) hS (fun r4 u H locs hw hM hS => ?_)
  obtain ⟨rfl, xr4⟩ := hw
  have hM : Mem D A ad ns (u2 I (10) 7 (v2)) L G H := hM
  refine m_calli (m_runSN (As := [.int (a2), .int (r4)]) (rest := []) hx hb hml hown hts hE hM hS hA ce_X9_shareOf (List.mem_of_getElem? (i := 8) rfl) (V_X9_shareOf l D A ad ns (u2 I (10) 7 (v2)) L G (a2) (r4) hI) rfl rfl ⟨Nat.le_of_ble_eq_true rfl, Nat.le_of_ble_eq_true rfl⟩  rfl hl.1 rfl (Nat.le_of_ble_eq_true rfl) dX1_passMirror_19 ⟨Nat.le_of_ble_eq_true rfl, Nat.le_of_ble_eq_true rfl⟩) hS (fun r5 u H locs hw hM hS => ?_)
  obtain ⟨rfl, xr5⟩ := hw
  have hM : Mem D A ad ns (u2 I (10) 7 (v2)) L G H := hM
  refine lv_istore (lv' := [(5, .int (r5)), (0, .ref (ad (10))), (1, .ref (ad (110))), (2, .int (a0)), (3, .int (a1)), (4, .int (a2))]) hx hb dX1_passMirror_22 hl (by decide) rfl (fun ls hl => ?_)
  refine lv_aload_n hx hb dX1_passMirror_24 rfl (lv_at hl 1 rfl) ?_
  refine lv_dup hx hb dX1_passMirror_25 rfl ?_
  refine m_geti (10) 2 hx hb hts hown hE oc1 hM (hG.1 10 (by decide)) rfl (by decide) rfl tb_136 dX1_passMirror_26 ?_
  have z6 : (u2 I (10) 7 (v2)) (10) 2 = I (10) 2 := (show (u2 I (10) 7 (v2)) (10) 2 = I (10) 2 from by simp [u2_v])
  rw [z6]
  refine lv_iload hx hb dX1_passMirror_29 (lv_at hl 0 rfl) ?_
  refine lv_iadd hx hb dX1_passMirror_31 ?_
  refine lv_topi (fun v7 ev7 => ?_)
  refine m_puti (10) 2 hx hb hts hown hE oc1 hM hS (hG.1 10 (by decide)) rfl (by decide) rfl rfl rfl rfl tb_136 dX1_passMirror_32 (fun H locs I8 eI8 hM hS => ?_)
  subst eI8
  have hI := hI.putF (n := 10) (k := 2) (v := v7) rfl
  have hK := hK.put (n := 10) (k := 2) (v := v7) (by first | rfl | simp [inR])
  refine lv_iload hx hb dX1_passMirror_35 (lv_at hl 5 rfl) ?_
  refine lv_iload hx hb dX1_passMirror_37 (lv_at hl 0 rfl) ?_
  refine lv_isub hx hb dX1_passMirror_39 ?_
  refine lv_topi (fun v9 ev9 => ?_)
  refine lv_aload_n hx hb dX1_passMirror_40 rfl (lv_at hl 2 rfl) ?_
  refine lv_iload_n hx hb dX1_passMirror_41 rfl (lv_at hl 3 rfl) ?_
  refine lv_iconst (v := (4)) hx hb dX1_passMirror_42 (by decide) ?_
  refine m_calli (m_runV (110) (As := [.int (a0), .int (4)]) (rest := [.int (v9)]) hx hb hml hown hts hE hM hS hA ce_X8_ofMirror tb_850 (V_X8_ofMirror_110 l D A ad ns (u2 (u2 I (10) 7 (v2)) (10) 2 (v7)) L G (a0) (4) hG hI (by first | omega | decide) (by first | omega | decide)) rfl rfl ⟨Nat.le_of_ble_eq_true rfl, Nat.le_of_ble_eq_true rfl⟩ (hG.1 110 (by decide)) rfl rfl (by decide) rfl hl.1 rfl (Nat.le_of_ble_eq_true rfl) dX1_passMirror_43 ⟨Nat.le_of_ble_eq_true rfl, Nat.le_of_ble_eq_true rfl⟩) hS (fun r10 u H locs hw hM hS => ?_)
  obtain ⟨rfl, xr10⟩ := hw
  have hM : Mem D A ad ns (u2 (u2 I (10) 7 (v2)) (10) 2 (v7)) L G H := hM
  refine m_calli (m_runSN (As := [.int (v9), .int (r10)]) (rest := []) hx hb hml hown hts hE hM hS hA ce_X9_shareOf (List.mem_of_getElem? (i := 8) rfl) (V_X9_shareOf l D A ad ns (u2 (u2 I (10) 7 (v2)) (10) 2 (v7)) L G (v9) (r10) hI) rfl rfl ⟨Nat.le_of_ble_eq_true rfl, Nat.le_of_ble_eq_true rfl⟩  rfl hl.1 rfl (Nat.le_of_ble_eq_true rfl) dX1_passMirror_46 ⟨Nat.le_of_ble_eq_true rfl, Nat.le_of_ble_eq_true rfl⟩) hS (fun r11 u H locs hw hM hS => ?_)
  obtain ⟨rfl, xr11⟩ := hw
  have hM : Mem D A ad ns (u2 (u2 I (10) 7 (v2)) (10) 2 (v7)) L G H := hM
  refine lv_istore (lv' := [(6, .int (r11)), (5, .int (r5)), (0, .ref (ad (10))), (1, .ref (ad (110))), (2, .int (a0)), (3, .int (a1)), (4, .int (a2))]) hx hb dX1_passMirror_49 hl (by decide) rfl (fun ls hl => ?_)
  refine lv_iload hx hb dX1_passMirror_51 (lv_at hl 0 rfl) ?_
  refine lv_if_le (tgt := 63) hx hb dX1_passMirror_53 (by decide) (fun c12 => ?_) (fun c12 => ?_)
  · have hc12 := c12
    have q12 := q_le hc12
    refine lv_iload hx hb dX1_passMirror_63 (lv_at hl 6 rfl) ?_
    refine lv_iload hx hb dX1_passMirror_65 (lv_at hl 1 rfl) ?_
    refine lv_isub hx hb dX1_passMirror_67 ?_
    refine lv_topi (fun v13 ev13 => ?_)
    refine lv_iload hx hb dX1_passMirror_68 (lv_at hl 0 rfl) ?_
    refine lv_isub hx hb dX1_passMirror_70 ?_
    refine lv_topi (fun v14 ev14 => ?_)
    exact m_iret hx hb hr hlocks hM hS (Nat.le_of_ble_eq_true rfl) (Nat.le_of_ble_eq_true rfl) ⟨_, _, rfl, hI, hK⟩ dX1_passMirror_71
  · have hc12 := c12
    have q12 := q_nle hc12
    refine lv_aload_n hx hb dX1_passMirror_56 rfl (lv_at hl 2 rfl) ?_
    refine lv_iload_n hx hb dX1_passMirror_57 rfl (lv_at hl 5 rfl) ?_
    refine lv_iload hx hb dX1_passMirror_58 (lv_at hl 0 rfl) ?_
    refine m_callv (m_runV (10) (As := [.int (a1), .int (r11)]) (rest := []) hx hb hml hown hts hE hM hS hA ce_X1_letWait tb_851 (V_X1_letWait l D A ad ns (u2 (u2 I (10) 7 (v2)) (10) 2 (v7)) L G (a1) (r11) hG hI (by first | omega | decide)) rfl rfl ⟨Nat.le_of_ble_eq_true rfl, Nat.le_of_ble_eq_true rfl⟩ (hG.1 10 (by decide)) rfl rfl (by decide) rfl hl.1 rfl (Nat.le_of_ble_eq_true rfl) dX1_passMirror_60 ⟨Nat.le_of_ble_eq_true rfl, Nat.le_of_ble_eq_true rfl⟩) hS (fun u H locs hw hM hS => ?_)
    obtain ⟨I15, L16, rfl, hI, hkI15⟩ := hw
    have hM : Mem D A ad ns I15 L16 G H := hM
    have hK := hK.trans hkI15 rfl
    refine lv_iload hx hb dX1_passMirror_63 (lv_at hl 6 rfl) ?_
    refine lv_iload hx hb dX1_passMirror_65 (lv_at hl 1 rfl) ?_
    refine lv_isub hx hb dX1_passMirror_67 ?_
    refine lv_topi (fun v17 ev17 => ?_)
    refine lv_iload hx hb dX1_passMirror_68 (lv_at hl 0 rfl) ?_
    refine lv_isub hx hb dX1_passMirror_70 ?_
    refine lv_topi (fun v18 ev18 => ?_)
    exact m_iret hx hb hr hlocks hM hS (Nat.le_of_ble_eq_true rfl) (Nat.le_of_ble_eq_true rfl) ⟨_, _, rfl, hI, hK⟩ dX1_passMirror_71
set_option maxHeartbeats 4000000 in
set_option maxRecDepth 20000 in
theorem V_X1_isBlind_110 (l : Launch) (D : va_G) (A : Nat → Prop) (ad : Nat → Nat) (ns : List Nat) (I : MI) (L : ML) (G : MG) (a0 : Int32) (hG : SGC ns G) (hI : INV I) (ha0 : 0 ≤ a0.toInt ∧ a0.toInt ≤ 575) : Met l yX1_isBlind (wd yX1_isBlind cX1_isBlind 3 (some .boolean)) ({ frames := 0, cells := 0, slots := 0, locals := 0 }) (va_Pc [.ref (ad (10)), .ref (ad (110)), .int a0] (PM D A ad ns I L G)) (va_Qi (fun r u => u = (ad, ns, I, L, G) ∧ (0 ≤ r.toInt ∧ r.toInt ≤ 1)) (BM D A) A) 0 0 A := by
  refine m_ofW (by decide) (Nat.le_of_ble_eq_true rfl) ?_
  intro p e s m below meth c ls args hC hE hM hA hS hl
  obtain ⟨hx, hb, hml, hown, hts, hr, hlocks, hin⟩ := hC
  have km1 : (-1 : Int32).toInt = -1 := by decide
  have k0 : (0 : Int32).toInt = 0 := by decide
  have k1 : (1 : Int32).toInt = 1 := by decide
  have hl : lv_has ls 3 [(0, .ref (ad (10))), (1, .ref (ad (110))), (2, .int (a0))] := hl
  refine lv_aload_n hx hb dX1_isBlind_0 rfl (lv_at hl 1 rfl) ?_
  refine m_getr (110) 11 (112) hx hb hts hown hE oc8 hM (hG.1 110 (by decide)) rfl (by decide) rfl (hG.2 (110, 11, 112) (by decide)) (by decide) tb_70 dX1_isBlind_1 ?_
  refine lv_iload_n hx hb dX1_isBlind_4 rfl (lv_at hl 2 rfl) ?_
  refine m_iald (112) hx hb hE hM (hG.1 112 (by decide)) rfl (vp_in_iff.mpr (by omega)) dX1_isBlind_5 ?_
  refine lv_iconst (v := (-1)) hx hb dX1_isBlind_6 (by decide) ?_
  refine lv_icmp_eq (tgt := 29) hx hb dX1_isBlind_7 (by decide) (fun c1 => ?_) (fun c1 => ?_)
  · have hc1 := c1
    have q1 := q_eq hc1
    refine lv_iconst (v := (0)) hx hb dX1_isBlind_29 (by decide) ?_
    exact m_zret hx hb hr rfl hlocks hM hS (Nat.le_of_ble_eq_true rfl) (Nat.le_of_ble_eq_true rfl) ⟨rfl, (by first | omega | decide)⟩ dX1_isBlind_30
  · have hc1 := c1
    have q1 := q_ne hc1
    refine lv_aload_n hx hb dX1_isBlind_10 rfl (lv_at hl 0 rfl) ?_
    refine m_getr (10) 1 (12) hx hb hts hown hE oc1 hM (hG.1 10 (by decide)) rfl (by decide) rfl (hG.2 (10, 1, 12) (by decide)) (by decide) tb_134 dX1_isBlind_11 ?_
    refine lv_iload_n hx hb dX1_isBlind_14 rfl (lv_at hl 2 rfl) ?_
    refine m_iald (12) hx hb hE hM (hG.1 12 (by decide)) rfl (vp_in_iff.mpr (by omega)) dX1_isBlind_15 ?_
    refine lv_aload_n hx hb dX1_isBlind_16 rfl (lv_at hl 1 rfl) ?_
    refine m_getr (110) 11 (112) hx hb hts hown hE oc8 hM (hG.1 110 (by decide)) rfl (by decide) rfl (hG.2 (110, 11, 112) (by decide)) (by decide) tb_70 dX1_isBlind_17 ?_
    refine lv_iload_n hx hb dX1_isBlind_20 rfl (lv_at hl 2 rfl) ?_
    refine m_iald (112) hx hb hE hM (hG.1 112 (by decide)) rfl (vp_in_iff.mpr (by omega)) dX1_isBlind_21 ?_
    refine lv_icmp_le (tgt := 29) hx hb dX1_isBlind_22 (by decide) (fun c2 => ?_) (fun c2 => ?_)
    · have hc2 := c2
      have q2 := q_le hc2
      refine lv_iconst (v := (0)) hx hb dX1_isBlind_29 (by decide) ?_
      exact m_zret hx hb hr rfl hlocks hM hS (Nat.le_of_ble_eq_true rfl) (Nat.le_of_ble_eq_true rfl) ⟨rfl, (by first | omega | decide)⟩ dX1_isBlind_30
    · have hc2 := c2
      have q2 := q_nle hc2
      refine lv_iconst (v := (1)) hx hb dX1_isBlind_25 (by decide) ?_
      refine lv_goto (tgt := 30) hx hb dX1_isBlind_26 (by decide) ?_
      exact m_zret hx hb hr rfl hlocks hM hS (Nat.le_of_ble_eq_true rfl) (Nat.le_of_ble_eq_true rfl) ⟨rfl, (by first | omega | decide)⟩ dX1_isBlind_30
set_option maxHeartbeats 4000000 in
set_option maxRecDepth 20000 in
theorem V_X1_firstBlind_110 (l : Launch) (D : va_G) (A : Nat → Prop) (ad : Nat → Nat) (ns : List Nat) (I : MI) (L : ML) (G : MG) (hG : SGC ns G) (hI : INV I) : Met l yX1_firstBlind (wd yX1_firstBlind cX1_firstBlind 3 (some .int)) ({ frames := 1, cells := 0, slots := 0, locals := 22 }) (va_Pc [.ref (ad (10)), .ref (ad (110))] (PM D A ad ns I L G)) (va_Qi (fun r u => u = (ad, ns, I, L, G) ∧ (True)) (BM D A) A) 0 0 A := by
  refine m_ofW (by decide) (Nat.le_of_ble_eq_true rfl) ?_
  intro p e s m below meth c ls args hC hE hM hA hS hl
  obtain ⟨hx, hb, hml, hown, hts, hr, hlocks, hin⟩ := hC
  have km2 : (-2 : Int32).toInt = -2 := by decide
  have k0 : (0 : Int32).toInt = 0 := by decide
  have k576 : (576 : Int32).toInt = 576 := by decide
  have hl : lv_has ls 3 [(0, .ref (ad (10))), (1, .ref (ad (110)))] := hl
  refine lv_iconst (v := (0)) hx hb dX1_firstBlind_0 (by decide) ?_
  refine lv_istore_n (lv' := [(2, .int (0)), (0, .ref (ad (10))), (1, .ref (ad (110)))]) hx hb dX1_firstBlind_1 rfl hl (by decide) rfl (fun ls hl => ?_)
  have loop2 : ∀ (n : Nat) (x2_2 : Int32) (H : Heap) (locs : List Loc) (ls : Array Slot), (0 ≤ x2_2.toInt ∧ x2_2.toInt ≤ 576) → (576 - x2_2.toInt).toNat < n → Mem D A ad ns I L G H → va_S A s.heap H locs → lv_has ls 3 [(2, .int (x2_2)), (0, .ref (ad (10))), (1, .ref (ad (110)))] → W p l e ({ frames := 1, cells := 0, slots := 0, locals := 22 } : Room) s m args below meth c H locs 0 0 (MQ below (va_Qi (fun r u => u = (ad, ns, I, L, G) ∧ (True)) (BM D A) A) args s 0 0 A) (F0 m 2 ls []) := by
    intro n
    induction n with
    | zero =>
      intro x2_2 H locs ls hr2_2 hmu
      exact absurd hmu (Nat.not_lt_zero _)
    | succ n ih2 =>
      intro x2_2 H locs ls hr2_2 hmu2 hM hS hl
      refine lv_iload_n hx hb dX1_firstBlind_2 rfl (lv_at hl 0 rfl) ?_
      refine lv_sipush (v := (576)) hx hb dX1_firstBlind_3 (by decide) ?_
      refine lv_icmp_ge (tgt := 26) hx hb dX1_firstBlind_6 (by decide) (fun c1 => ?_) (fun c1 => ?_)
      · have hc1 := c1
        have q1 := q_le hc1
        refine lv_bipush (v := (-2)) hx hb dX1_firstBlind_26 (by decide) ?_
        exact m_iret hx hb hr hlocks hM hS (Nat.le_of_ble_eq_true rfl) (Nat.le_of_ble_eq_true rfl) ⟨rfl, trivial⟩ dX1_firstBlind_28
      · have hc1 := c1
        have q1 := q_nle hc1
        refine lv_aload_n hx hb dX1_firstBlind_9 rfl (lv_at hl 1 rfl) ?_
        refine lv_aload_n hx hb dX1_firstBlind_10 rfl (lv_at hl 2 rfl) ?_
        refine lv_iload_n hx hb dX1_firstBlind_11 rfl (lv_at hl 0 rfl) ?_
        refine m_calli (m_runV (10) (As := [.ref (ad (110)), .int (x2_2)]) (rest := []) hx hb hml hown hts hE hM hS hA ce_X1_isBlind tb_867 (V_X1_isBlind_110 l D A ad ns I L G (x2_2) hG hI (by first | omega | decide)) rfl rfl ⟨Nat.le_of_ble_eq_true rfl, Nat.le_of_ble_eq_true rfl⟩ (hG.1 10 (by decide)) rfl rfl (by decide) rfl hl.1 rfl (Nat.le_of_ble_eq_true rfl) dX1_firstBlind_12 ⟨Nat.le_of_ble_eq_true rfl, Nat.le_of_ble_eq_true rfl⟩) hS (fun r2 u H locs hw hM hS => ?_)
        obtain ⟨rfl, xr2⟩ := hw
        have hM : Mem D A ad ns I L G H := hM
        refine lv_if_eq (tgt := 20) hx hb dX1_firstBlind_15 (by decide) (fun c3 => ?_) (fun c3 => ?_)
        · have hc3 := c3
          have q3 := q_eq hc3
          obtain ⟨v4, ev4⟩ : ∃ z : Int32, z = x2_2 + Int32.ofInt (1) := ⟨_, rfl⟩
          have tv4 := a_inc ev4 (by decide) (by omega) (by omega)
          refine lv_iinc (v := v4) (lv' := [(2, .int (v4)), (0, .ref (ad (10))), (1, .ref (ad (110)))]) hx hb dX1_firstBlind_20 hl (k := 0) rfl ev4.symm (by decide) rfl (fun ls hl => ?_)
          refine lv_goto (tgt := 2) hx hb dX1_firstBlind_23 (by decide) ?_
          exact ih2 (v4) _ _ ls (by first | omega | decide) (by omega) hM hS (lv_sub hl [0, 1, 2] rfl)
        · have hc3 := c3
          have q3 := q_ne hc3
          refine lv_iload_n hx hb dX1_firstBlind_18 rfl (lv_at hl 0 rfl) ?_
          exact m_iret hx hb hr hlocks hM hS (Nat.le_of_ble_eq_true rfl) (Nat.le_of_ble_eq_true rfl) ⟨rfl, trivial⟩ dX1_firstBlind_19
  exact loop2 (_ + 1) (0) _ _ ls (by first | omega | decide) (Nat.lt_succ_self _) hM hS (lv_sub hl [0, 1, 2] rfl)
set_option maxHeartbeats 4000000 in
set_option maxRecDepth 20000 in
theorem V_X1_follow_110 (l : Launch) (D : va_G) (A : Nat → Prop) (ad : Nat → Nat) (ns : List Nat) (I : MI) (L : ML) (G : MG) (a0 : Int32) (a1 : Int32) (a2 : Int32) (a3 : Int32) (hG : SGC ns G) (hI : INV I) (ha2 : 0 ≤ a2.toInt ∧ a2.toInt ≤ 7) : Met l yX1_follow (wd yX1_follow cX1_follow 12 none) ({ frames := 2, cells := 0, slots := 0, locals := 49 }) (va_Pc [.ref (ad (10)), .ref (ad (110)), .int a0, .int a1, .int a2, .int a3] (PM D A ad ns I L G)) (va_Qv (fun u => ∃ I2 L2, u = (ad, ns, I2, L2, G) ∧ INV I2 ∧ Kp [(11, 15)] [(10, 2), (10, 3), (10, 4), (10, 5), (10, 6), (10, 7), (10, 12)] I I2) (BM D A) A) 0 0 A := by
  refine m_ofW (by decide) (Nat.le_of_ble_eq_true rfl) ?_
  intro p e s m below meth c ls args hC hE hM hA hS hl
  obtain ⟨hx, hb, hml, hown, hts, hr, hlocks, hin⟩ := hC
  have km1 : (-1 : Int32).toInt = -1 := by decide
  have k0 : (0 : Int32).toInt = 0 := by decide
  have k1 : (1 : Int32).toInt = 1 := by decide
  have k8 : (8 : Int32).toInt = 8 := by decide
  have k2000 : (2000 : Int32).toInt = 2000 := by decide
  have hK : Kp [(11, 15)] [(10, 2), (10, 3), (10, 4), (10, 5), (10, 6), (10, 7), (10, 12)] I I := Kp.rf
  have hl : lv_has ls 12 [(0, .ref (ad (10))), (1, .ref (ad (110))), (2, .int (a0)), (3, .int (a1)), (4, .int (a2)), (5, .int (a3))] := hl
  refine lv_iload_n hx hb dX1_follow_0 rfl (lv_at hl 2 rfl) ?_
  refine lv_istore (lv' := [(6, .int (a0)), (0, .ref (ad (10))), (1, .ref (ad (110))), (2, .int (a0)), (3, .int (a1)), (4, .int (a2)), (5, .int (a3))]) hx hb dX1_follow_1 hl (by decide) rfl (fun ls hl => ?_)
  refine lv_iload_n hx hb dX1_follow_3 rfl (lv_at hl 4 rfl) ?_
  refine lv_istore (lv' := [(7, .int (a1)), (6, .int (a0)), (0, .ref (ad (10))), (1, .ref (ad (110))), (2, .int (a0)), (3, .int (a1)), (4, .int (a2)), (5, .int (a3))]) hx hb dX1_follow_4 hl (by decide) rfl (fun ls hl => ?_)
  refine lv_iload hx hb dX1_follow_6 (lv_at hl 6 rfl) ?_
  refine lv_istore (lv' := [(8, .int (a2)), (7, .int (a1)), (6, .int (a0)), (0, .ref (ad (10))), (1, .ref (ad (110))), (2, .int (a0)), (3, .int (a1)), (4, .int (a2)), (5, .int (a3))]) hx hb dX1_follow_8 hl (by decide) rfl (fun ls hl => ?_)
  refine lv_iload hx hb dX1_follow_10 (lv_at hl 8 rfl) ?_
  refine lv_istore (lv' := [(9, .int (a3)), (8, .int (a2)), (7, .int (a1)), (6, .int (a0)), (0, .ref (ad (10))), (1, .ref (ad (110))), (2, .int (a0)), (3, .int (a1)), (4, .int (a2)), (5, .int (a3))]) hx hb dX1_follow_12 hl (by decide) rfl (fun ls hl => ?_)
  have loop14 : ∀ (n : Nat) (x9_14 : Int32) (x8_14 : Int32) (x7_14 : Int32) (x6_14 : Int32) (Ia14 : MI) (La14 : ML) (H : Heap) (locs : List Loc) (ls : Array Slot), INV Ia14 → Kp [(11, 15)] [(10, 2), (10, 3), (10, 4), (10, 5), (10, 6), (10, 7), (10, 12)] I Ia14 → (0 ≤ x8_14.toInt ∧ x8_14.toInt ≤ 7) → (2000 - (Ia14 10 4).toInt).toNat < n → Mem D A ad ns Ia14 La14 G H → va_S A s.heap H locs → lv_has ls 12 [(9, .int (x9_14)), (8, .int (x8_14)), (7, .int (x7_14)), (6, .int (x6_14)), (0, .ref (ad (10))), (1, .ref (ad (110))), (2, .int (a0)), (3, .int (a1)), (4, .int (a2)), (5, .int (a3))] → W p l e ({ frames := 2, cells := 0, slots := 0, locals := 49 } : Room) s m args below meth c H locs 0 0 (MQ below (va_Qv (fun u => ∃ I2 L2, u = (ad, ns, I2, L2, G) ∧ INV I2 ∧ Kp [(11, 15)] [(10, 2), (10, 3), (10, 4), (10, 5), (10, 6), (10, 7), (10, 12)] I I2) (BM D A) A) args s 0 0 A) (F0 m 14 ls []) := by
    intro n
    induction n with
    | zero =>
      intro x9_14 x8_14 x7_14 x6_14 Ia14 La14 H locs ls hI hK hr8_14 hmu
      exact absurd hmu (Nat.not_lt_zero _)
    | succ n ih14 =>
      intro x9_14 x8_14 x7_14 x6_14 Ia14 La14 H locs ls hI hK hr8_14 hmu14 hM hS hl
      refine lv_iload hx hb dX1_follow_14 (lv_at hl 0 rfl) ?_
      refine lv_if_le (tgt := 187) hx hb dX1_follow_16 (by decide) (fun c1 => ?_) (fun c1 => ?_)
      · have hc1 := c1
        have q1 := q_le hc1
        refine lv_iload hx hb dX1_follow_187 (lv_at hl 0 rfl) ?_
        refine lv_if_le (tgt := 208) hx hb dX1_follow_189 (by decide) (fun c2 => ?_) (fun c2 => ?_)
        · have hc2 := c2
          have q2 := q_le hc2
          exact m_vret hx hb hr hlocks hM hS (Nat.le_of_ble_eq_true rfl) (Nat.le_of_ble_eq_true rfl) ⟨_, _, rfl, hI, hK⟩ dX1_follow_208
        · have hc2 := c2
          have q2 := q_nle hc2
          refine lv_aload_n hx hb dX1_follow_192 rfl (lv_at hl 4 rfl) ?_
          refine lv_dup hx hb dX1_follow_193 rfl ?_
          refine m_geti (10) 3 hx hb hts hown hE oc1 hM (hG.1 10 (by decide)) rfl (by decide) rfl tb_138 dX1_follow_194 ?_
          refine lv_iload hx hb dX1_follow_197 (lv_at hl 0 rfl) ?_
          refine lv_iadd hx hb dX1_follow_199 ?_
          refine lv_topi (fun v3 ev3 => ?_)
          refine m_puti (10) 3 hx hb hts hown hE oc1 hM hS (hG.1 10 (by decide)) rfl (by decide) rfl rfl rfl rfl tb_138 dX1_follow_200 (fun H locs I4 eI4 hM hS => ?_)
          subst eI4
          have hI := hI.putF (n := 10) (k := 3) (v := v3) rfl
          have hK := hK.put (n := 10) (k := 3) (v := v3) (by first | rfl | simp [inR])
          refine lv_aload_n hx hb dX1_follow_203 rfl (lv_at hl 4 rfl) ?_
          refine lv_iconst (v := (1)) hx hb dX1_follow_204 (by decide) ?_
          refine m_puti (10) 6 hx hb hts hown hE oc1 hM hS (hG.1 10 (by decide)) rfl (by decide) rfl rfl rfl rfl tb_144 dX1_follow_205 (fun H locs I5 eI5 hM hS => ?_)
          subst eI5
          have hI := hI.put (n := 10) (k := 6) (v := 1) (lo := 0) (hi := 1) rfl (by first | omega | decide)
          have hK := hK.put (n := 10) (k := 6) (v := 1) (by first | rfl | simp [inR])
          exact m_vret hx hb hr hlocks hM hS (Nat.le_of_ble_eq_true rfl) (Nat.le_of_ble_eq_true rfl) ⟨_, _, rfl, hI, hK⟩ dX1_follow_208
      · have hc1 := c1
        have q1 := q_nle hc1
        refine lv_aload_n hx hb dX1_follow_19 rfl (lv_at hl 4 rfl) ?_
        refine m_geti (10) 4 hx hb hts hown hE oc1 hM (hG.1 10 (by decide)) rfl (by decide) rfl tb_140 dX1_follow_20 ?_
        have g6 := hI.get (10) 4 (lo := 0) (hi := 2000) rfl
        refine lv_sipush (v := (2000)) hx hb dX1_follow_23 (by decide) ?_
        refine lv_icmp_ge (tgt := 187) hx hb dX1_follow_26 (by decide) (fun c7 => ?_) (fun c7 => ?_)
        · have hc7 := c7
          have q7 := q_le hc7
          refine lv_iload hx hb dX1_follow_187 (lv_at hl 0 rfl) ?_
          refine lv_if_le (tgt := 208) hx hb dX1_follow_189 (by decide) (fun c8 => ?_) (fun c8 => ?_)
          · have hc8 := c8
            have q8 := q_le hc8
            exact m_vret hx hb hr hlocks hM hS (Nat.le_of_ble_eq_true rfl) (Nat.le_of_ble_eq_true rfl) ⟨_, _, rfl, hI, hK⟩ dX1_follow_208
          · have hc8 := c8
            have q8 := q_nle hc8
            refine lv_aload_n hx hb dX1_follow_192 rfl (lv_at hl 4 rfl) ?_
            refine lv_dup hx hb dX1_follow_193 rfl ?_
            refine m_geti (10) 3 hx hb hts hown hE oc1 hM (hG.1 10 (by decide)) rfl (by decide) rfl tb_138 dX1_follow_194 ?_
            refine lv_iload hx hb dX1_follow_197 (lv_at hl 0 rfl) ?_
            refine lv_iadd hx hb dX1_follow_199 ?_
            refine lv_topi (fun v9 ev9 => ?_)
            refine m_puti (10) 3 hx hb hts hown hE oc1 hM hS (hG.1 10 (by decide)) rfl (by decide) rfl rfl rfl rfl tb_138 dX1_follow_200 (fun H locs I10 eI10 hM hS => ?_)
            subst eI10
            have hI := hI.putF (n := 10) (k := 3) (v := v9) rfl
            have hK := hK.put (n := 10) (k := 3) (v := v9) (by first | rfl | simp [inR])
            refine lv_aload_n hx hb dX1_follow_203 rfl (lv_at hl 4 rfl) ?_
            refine lv_iconst (v := (1)) hx hb dX1_follow_204 (by decide) ?_
            refine m_puti (10) 6 hx hb hts hown hE oc1 hM hS (hG.1 10 (by decide)) rfl (by decide) rfl rfl rfl rfl tb_144 dX1_follow_205 (fun H locs I11 eI11 hM hS => ?_)
            subst eI11
            have hI := hI.put (n := 10) (k := 6) (v := 1) (lo := 0) (hi := 1) rfl (by first | omega | decide)
            have hK := hK.put (n := 10) (k := 6) (v := 1) (by first | rfl | simp [inR])
            exact m_vret hx hb hr hlocks hM hS (Nat.le_of_ble_eq_true rfl) (Nat.le_of_ble_eq_true rfl) ⟨_, _, rfl, hI, hK⟩ dX1_follow_208
        · have hc7 := c7
          have q7 := q_nle hc7
          refine lv_aload_n hx hb dX1_follow_29 rfl (lv_at hl 4 rfl) ?_
          refine lv_dup hx hb dX1_follow_30 rfl ?_
          refine m_geti (10) 4 hx hb hts hown hE oc1 hM (hG.1 10 (by decide)) rfl (by decide) rfl tb_140 dX1_follow_31 ?_
          refine lv_iconst (v := (1)) hx hb dX1_follow_34 (by decide) ?_
          refine lv_iadd hx hb dX1_follow_35 ?_
          refine lv_topi (fun v12 ev12 => ?_)
          have tv12 := a_add ev12 (by omega) (by omega)
          refine m_puti (10) 4 hx hb hts hown hE oc1 hM hS (hG.1 10 (by decide)) rfl (by decide) rfl rfl rfl rfl tb_140 dX1_follow_36 (fun H locs I13 eI13 hM hS => ?_)
          subst eI13
          have hI := hI.put (n := 10) (k := 4) (v := v12) (lo := 0) (hi := 2000) rfl (by first | omega | decide)
          have hK := hK.put (n := 10) (k := 4) (v := v12) (by first | rfl | simp [inR])
          refine lv_aload_n hx hb dX1_follow_39 rfl (lv_at hl 5 rfl) ?_
          refine lv_iload hx hb dX1_follow_40 (lv_at hl 3 rfl) ?_
          refine lv_iload hx hb dX1_follow_42 (lv_at hl 2 rfl) ?_
          refine m_calli (m_runV (110) (As := [.int (x6_14), .int (x7_14)]) (rest := []) hx hb hml hown hts hE hM hS hA ce_X8_isOpen tb_818 (V_X8_isOpen_110 l D A ad ns (u2 Ia14 (10) 4 (v12)) La14 G (x6_14) (x7_14) hG hI) rfl rfl ⟨Nat.le_of_ble_eq_true rfl, Nat.le_of_ble_eq_true rfl⟩ (hG.1 110 (by decide)) rfl rfl (by decide) rfl hl.1 rfl (Nat.le_of_ble_eq_true rfl) dX1_follow_44 ⟨Nat.le_of_ble_eq_true rfl, Nat.le_of_ble_eq_true rfl⟩) hS (fun r14 u H locs hw hM hS => ?_)
          obtain ⟨rfl, xr14⟩ := hw
          have hM : Mem D A ad ns (u2 Ia14 (10) 4 (v12)) La14 G H := hM
          have g15 := hI.get 110 0 (lo := 0) (hi := 24) rfl
          have g16 := hI.get 110 1 (lo := 0) (hi := 24) rfl
          refine lv_if_ne (tgt := 62) hx hb dX1_follow_47 (by decide) (fun c17 => ?_) (fun c17 => ?_)
          · have hc17 := c17
            have q17 := q_ne hc17
            refine lv_iload hx hb dX1_follow_62 (lv_at hl 3 rfl) ?_
            refine lv_iload hx hb dX1_follow_64 (lv_at hl 2 rfl) ?_
            refine m_calli (m_runSN (As := [.int (x6_14), .int (x7_14)]) (rest := []) hx hb hml hown hts hE hM hS hA ce_X9_cellOf (List.mem_of_getElem? (i := 7) rfl) (V_X9_cellOf l D A ad ns (u2 Ia14 (10) 4 (v12)) La14 G (x6_14) (x7_14) hI (by first | omega | decide) (by first | omega | decide)) rfl rfl ⟨Nat.le_of_ble_eq_true rfl, Nat.le_of_ble_eq_true rfl⟩  rfl hl.1 rfl (Nat.le_of_ble_eq_true rfl) dX1_follow_66 ⟨Nat.le_of_ble_eq_true rfl, Nat.le_of_ble_eq_true rfl⟩) hS (fun r18 u H locs hw hM hS => ?_)
            obtain ⟨rfl, xr18⟩ := hw
            have hM : Mem D A ad ns (u2 Ia14 (10) 4 (v12)) La14 G H := hM
            refine lv_istore (lv' := [(10, .int (r18)), (9, .int (x9_14)), (8, .int (x8_14)), (7, .int (x7_14)), (6, .int (x6_14)), (0, .ref (ad (10))), (1, .ref (ad (110))), (2, .int (a0)), (3, .int (a1)), (4, .int (a2)), (5, .int (a3))]) hx hb dX1_follow_69 hl (by decide) rfl (fun ls hl => ?_)
            refine lv_aload_n hx hb dX1_follow_71 rfl (lv_at hl 5 rfl) ?_
            refine lv_aload_n hx hb dX1_follow_72 rfl (lv_at hl 6 rfl) ?_
            refine lv_iload hx hb dX1_follow_73 (lv_at hl 0 rfl) ?_
            refine lv_iload hx hb dX1_follow_75 (lv_at hl 1 rfl) ?_
            refine m_calli (m_runV (10) (As := [.ref (ad (110)), .int (r18), .int (x9_14)]) (rest := []) hx hb hml hown hts hE hM hS hA ce_X1_passAir tb_823 (V_X1_passAir_110 l D A ad ns (u2 Ia14 (10) 4 (v12)) La14 G (r18) (x9_14) hG hI (by first | omega | decide)) rfl rfl ⟨Nat.le_of_ble_eq_true rfl, Nat.le_of_ble_eq_true rfl⟩ (hG.1 10 (by decide)) rfl rfl (by decide) rfl hl.1 rfl (Nat.le_of_ble_eq_true rfl) dX1_follow_77 ⟨Nat.le_of_ble_eq_true rfl, Nat.le_of_ble_eq_true rfl⟩) hS (fun r19 u H locs hw hM hS => ?_)
            obtain ⟨I20, L21, rfl, hI, hkI20⟩ := hw
            have hM : Mem D A ad ns I20 L21 G H := hM
            have hK := hK.trans hkI20 rfl
            refine lv_istore (lv' := [(9, .int (r19)), (10, .int (r18)), (8, .int (x8_14)), (7, .int (x7_14)), (6, .int (x6_14)), (0, .ref (ad (10))), (1, .ref (ad (110))), (2, .int (a0)), (3, .int (a1)), (4, .int (a2)), (5, .int (a3))]) hx hb dX1_follow_80 hl (by decide) rfl (fun ls hl => ?_)
            refine lv_aload_n hx hb dX1_follow_82 rfl (lv_at hl 6 rfl) ?_
            refine m_getr (110) 13 (114) hx hb hts hown hE oc8 hM (hG.1 110 (by decide)) rfl (by decide) rfl (hG.2 (110, 13, 114) (by decide)) (by decide) tb_76 dX1_follow_83 ?_
            refine lv_iload hx hb dX1_follow_86 (lv_at hl 1 rfl) ?_
            refine m_iald (114) hx hb hE hM (hG.1 114 (by decide)) rfl (vp_in_iff.mpr (by omega)) dX1_follow_88 ?_
            have g22 := hI.get (114) ((r18).toNatClampNeg) (lo := -1) (hi := 7) rfl
            have z23 : I20 (114) (r18).toNatClampNeg = Ia14 (114) ((r18).toNatClampNeg) := ((congrFun (hkI20.getA (114) rfl) ((r18).toNatClampNeg))).trans (show (u2 Ia14 (10) 4 (v12)) (114) ((r18).toNatClampNeg) = Ia14 (114) ((r18).toNatClampNeg) from by simp [u2_v])
            rw [z23] at g22 ⊢
            refine lv_iconst (v := (-1)) hx hb dX1_follow_89 (by decide) ?_
            refine lv_icmp_eq (tgt := 109) hx hb dX1_follow_90 (by decide) (fun c24 => ?_) (fun c24 => ?_)
            · have hc24 := c24
              have q24 := q_eq hc24
              refine lv_aload_n hx hb dX1_follow_109 rfl (lv_at hl 6 rfl) ?_
              refine m_getr (110) 12 (113) hx hb hts hown hE oc8 hM (hG.1 110 (by decide)) rfl (by decide) rfl (hG.2 (110, 12, 113) (by decide)) (by decide) tb_74 dX1_follow_110 ?_
              refine lv_iload hx hb dX1_follow_113 (lv_at hl 1 rfl) ?_
              refine m_iald (113) hx hb hE hM (hG.1 113 (by decide)) rfl (vp_in_iff.mpr (by omega)) dX1_follow_115 ?_
              have g25 := hI.get (113) ((r18).toNatClampNeg) (lo := -1) (hi := 23) rfl
              have z26 : I20 (113) (r18).toNatClampNeg = Ia14 (113) ((r18).toNatClampNeg) := ((congrFun (hkI20.getA (113) rfl) ((r18).toNatClampNeg))).trans (show (u2 Ia14 (10) 4 (v12)) (113) ((r18).toNatClampNeg) = Ia14 (113) ((r18).toNatClampNeg) from by simp [u2_v])
              rw [z26] at g25 ⊢
              refine lv_istore (lv' := [(11, .int (Ia14 (113) ((r18).toNatClampNeg))), (9, .int (r19)), (10, .int (r18)), (8, .int (x8_14)), (7, .int (x7_14)), (6, .int (x6_14)), (0, .ref (ad (10))), (1, .ref (ad (110))), (2, .int (a0)), (3, .int (a1)), (4, .int (a2)), (5, .int (a3))]) hx hb dX1_follow_116 hl (by decide) rfl (fun ls hl => ?_)
              refine lv_iload hx hb dX1_follow_118 (lv_at hl 0 rfl) ?_
              refine lv_iconst (v := (-1)) hx hb dX1_follow_120 (by decide) ?_
              refine lv_icmp_eq (tgt := 162) hx hb dX1_follow_121 (by decide) (fun c27 => ?_) (fun c27 => ?_)
              · have hc27 := c27
                have q27 := q_eq hc27
                refine lv_iload hx hb dX1_follow_162 (lv_at hl 5 rfl) ?_
                refine va_getsN hx hb hE.2.2.2.2.2.1.1 hS hown (va_Nw.use rfl (hE.2.1 _ (List.mem_of_getElem? (i := 9) rfl))) (fun _ h => h) dX1_follow_164 ?_
                refine lv_iload hx hb dX1_follow_167 (lv_at hl 3 rfl) ?_
                refine va_ti hx hb hE.2.2.2.2.2.1.2 hS (i := x8_14) (vp_in_iff.mpr (by omega)) rfl dX1_follow_169 ?_
                refine lv_topi (fun v28 ev28 => ?_)
                have tv28 := stX_r ev28
                refine lv_iadd hx hb dX1_follow_170 ?_
                refine lv_topi (fun v29 ev29 => ?_)
                refine lv_istore (lv' := [(6, .int (v29)), (11, .int (Ia14 (113) ((r18).toNatClampNeg))), (9, .int (r19)), (10, .int (r18)), (8, .int (x8_14)), (7, .int (x7_14)), (0, .ref (ad (10))), (1, .ref (ad (110))), (2, .int (a0)), (3, .int (a1)), (4, .int (a2)), (5, .int (a3))]) hx hb dX1_follow_171 hl (by decide) rfl (fun ls hl => ?_)
                refine lv_iload hx hb dX1_follow_173 (lv_at hl 5 rfl) ?_
                refine va_getsN hx hb hE.2.2.2.2.2.2.1.1 hS hown (va_Nw.use rfl (hE.2.1 _ (List.mem_of_getElem? (i := 10) rfl))) (fun _ h => h) dX1_follow_175 ?_
                refine lv_iload hx hb dX1_follow_178 (lv_at hl 4 rfl) ?_
                refine va_ti hx hb hE.2.2.2.2.2.2.1.2 hS (i := x8_14) (vp_in_iff.mpr (by omega)) rfl dX1_follow_180 ?_
                refine lv_topi (fun v30 ev30 => ?_)
                have tv30 := stY_r ev30
                refine lv_iadd hx hb dX1_follow_181 ?_
                refine lv_topi (fun v31 ev31 => ?_)
                refine lv_istore (lv' := [(7, .int (v31)), (6, .int (v29)), (11, .int (Ia14 (113) ((r18).toNatClampNeg))), (9, .int (r19)), (10, .int (r18)), (8, .int (x8_14)), (0, .ref (ad (10))), (1, .ref (ad (110))), (2, .int (a0)), (3, .int (a1)), (4, .int (a2)), (5, .int (a3))]) hx hb dX1_follow_182 hl (by decide) rfl (fun ls hl => ?_)
                refine lv_goto (tgt := 14) hx hb dX1_follow_184 (by decide) ?_
                have tr104 : (I20 (10) 4).toInt = (v12 : Int32).toInt := congrArg Int32.toInt (((hkI20.get (10) 4 rfl)).trans (show (u2 Ia14 (10) 4 (v12)) (10) 4 = v12 from by simp [u2_v]))
                exact ih14 (r19) (x8_14) (v31) (v29) I20 L21 _ _ ls hI hK (by first | omega | decide) (by omega) hM hS (lv_sub hl [3, 5, 0, 1, 6, 7, 8, 9, 10, 11] rfl)
              · have hc27 := c27
                have q27 := q_ne hc27
                refine lv_aload_n hx hb dX1_follow_124 rfl (lv_at hl 7 rfl) ?_
                refine lv_iload hx hb dX1_follow_125 (lv_at hl 0 rfl) ?_
                refine m_calli (m_runV (110) (As := [.int (Ia14 (113) ((r18).toNatClampNeg))]) (rest := []) hx hb hml hown hts hE hM hS hA ce_X8_isWhole tb_838 (V_X8_isWhole_110 l D A ad ns I20 L21 G (Ia14 (113) ((r18).toNatClampNeg)) hG hI (by first | omega | decide)) rfl rfl ⟨Nat.le_of_ble_eq_true rfl, Nat.le_of_ble_eq_true rfl⟩ (hG.1 110 (by decide)) rfl rfl (by decide) rfl hl.1 rfl (Nat.le_of_ble_eq_true rfl) dX1_follow_127 ⟨Nat.le_of_ble_eq_true rfl, Nat.le_of_ble_eq_true rfl⟩) hS (fun r32 u H locs hw hM hS => ?_)
                obtain ⟨rfl, xr32⟩ := hw
                have hM : Mem D A ad ns I20 L21 G H := hM
                refine lv_if_eq (tgt := 162) hx hb dX1_follow_130 (by decide) (fun c33 => ?_) (fun c33 => ?_)
                · have hc33 := c33
                  have q33 := q_eq hc33
                  refine lv_iload hx hb dX1_follow_162 (lv_at hl 5 rfl) ?_
                  refine va_getsN hx hb hE.2.2.2.2.2.1.1 hS hown (va_Nw.use rfl (hE.2.1 _ (List.mem_of_getElem? (i := 9) rfl))) (fun _ h => h) dX1_follow_164 ?_
                  refine lv_iload hx hb dX1_follow_167 (lv_at hl 3 rfl) ?_
                  refine va_ti hx hb hE.2.2.2.2.2.1.2 hS (i := x8_14) (vp_in_iff.mpr (by omega)) rfl dX1_follow_169 ?_
                  refine lv_topi (fun v34 ev34 => ?_)
                  have tv34 := stX_r ev34
                  refine lv_iadd hx hb dX1_follow_170 ?_
                  refine lv_topi (fun v35 ev35 => ?_)
                  refine lv_istore (lv' := [(6, .int (v35)), (11, .int (Ia14 (113) ((r18).toNatClampNeg))), (9, .int (r19)), (10, .int (r18)), (8, .int (x8_14)), (7, .int (x7_14)), (0, .ref (ad (10))), (1, .ref (ad (110))), (2, .int (a0)), (3, .int (a1)), (4, .int (a2)), (5, .int (a3))]) hx hb dX1_follow_171 hl (by decide) rfl (fun ls hl => ?_)
                  refine lv_iload hx hb dX1_follow_173 (lv_at hl 5 rfl) ?_
                  refine va_getsN hx hb hE.2.2.2.2.2.2.1.1 hS hown (va_Nw.use rfl (hE.2.1 _ (List.mem_of_getElem? (i := 10) rfl))) (fun _ h => h) dX1_follow_175 ?_
                  refine lv_iload hx hb dX1_follow_178 (lv_at hl 4 rfl) ?_
                  refine va_ti hx hb hE.2.2.2.2.2.2.1.2 hS (i := x8_14) (vp_in_iff.mpr (by omega)) rfl dX1_follow_180 ?_
                  refine lv_topi (fun v36 ev36 => ?_)
                  have tv36 := stY_r ev36
                  refine lv_iadd hx hb dX1_follow_181 ?_
                  refine lv_topi (fun v37 ev37 => ?_)
                  refine lv_istore (lv' := [(7, .int (v37)), (6, .int (v35)), (11, .int (Ia14 (113) ((r18).toNatClampNeg))), (9, .int (r19)), (10, .int (r18)), (8, .int (x8_14)), (0, .ref (ad (10))), (1, .ref (ad (110))), (2, .int (a0)), (3, .int (a1)), (4, .int (a2)), (5, .int (a3))]) hx hb dX1_follow_182 hl (by decide) rfl (fun ls hl => ?_)
                  refine lv_goto (tgt := 14) hx hb dX1_follow_184 (by decide) ?_
                  have tr104 : (I20 (10) 4).toInt = (v12 : Int32).toInt := congrArg Int32.toInt (((hkI20.get (10) 4 rfl)).trans (show (u2 Ia14 (10) 4 (v12)) (10) 4 = v12 from by simp [u2_v]))
                  exact ih14 (r19) (x8_14) (v37) (v35) I20 L21 _ _ ls hI hK (by first | omega | decide) (by omega) hM hS (lv_sub hl [3, 5, 0, 1, 6, 7, 8, 9, 10, 11] rfl)
                · have hc33 := c33
                  have q33 := q_ne hc33
                  refine lv_aload_n hx hb dX1_follow_133 rfl (lv_at hl 6 rfl) ?_
                  refine lv_aload_n hx hb dX1_follow_134 rfl (lv_at hl 7 rfl) ?_
                  refine lv_iload hx hb dX1_follow_135 (lv_at hl 0 rfl) ?_
                  refine lv_iload hx hb dX1_follow_137 (lv_at hl 2 rfl) ?_
                  refine lv_bipush (v := (8)) hx hb dX1_follow_139 (by decide) ?_
                  refine lv_imul hx hb dX1_follow_141 ?_
                  refine lv_topi (fun v38 ev38 => ?_)
                  have tv38 := a_mulR (c := 8) ev38 (by decide) (by omega) (by omega)
                  refine lv_iload hx hb dX1_follow_142 (lv_at hl 3 rfl) ?_
                  refine lv_iadd hx hb dX1_follow_144 ?_
                  refine lv_topi (fun v39 ev39 => ?_)
                  have tv39 := a_add ev39 (by omega) (by omega)
                  refine lv_iload hx hb dX1_follow_145 (lv_at hl 1 rfl) ?_
                  refine m_calli (m_runV (10) (As := [.ref (ad (110)), .int (Ia14 (113) ((r18).toNatClampNeg)), .int (v39), .int (r19)]) (rest := []) hx hb hml hown hts hE hM hS hA ce_X1_passMirror tb_842 (V_X1_passMirror_110 l D A ad ns I20 L21 G (Ia14 (113) ((r18).toNatClampNeg)) (v39) (r19) hG hI (by first | omega | decide) (by first | omega | decide)) rfl rfl ⟨Nat.le_of_ble_eq_true rfl, Nat.le_of_ble_eq_true rfl⟩ (hG.1 10 (by decide)) rfl rfl (by decide) rfl hl.1 rfl (Nat.le_of_ble_eq_true rfl) dX1_follow_147 ⟨Nat.le_of_ble_eq_true rfl, Nat.le_of_ble_eq_true rfl⟩) hS (fun r40 u H locs hw hM hS => ?_)
                  obtain ⟨I41, L42, rfl, hI, hkI41⟩ := hw
                  have hM : Mem D A ad ns I41 L42 G H := hM
                  have hK := hK.trans hkI41 rfl
                  refine lv_istore (lv' := [(9, .int (r40)), (11, .int (Ia14 (113) ((r18).toNatClampNeg))), (10, .int (r18)), (8, .int (x8_14)), (7, .int (x7_14)), (6, .int (x6_14)), (0, .ref (ad (10))), (1, .ref (ad (110))), (2, .int (a0)), (3, .int (a1)), (4, .int (a2)), (5, .int (a3))]) hx hb dX1_follow_150 hl (by decide) rfl (fun ls hl => ?_)
                  refine lv_aload_n hx hb dX1_follow_152 rfl (lv_at hl 7 rfl) ?_
                  refine lv_iload hx hb dX1_follow_153 (lv_at hl 1 rfl) ?_
                  refine lv_iload hx hb dX1_follow_155 (lv_at hl 3 rfl) ?_
                  refine m_calli (m_runV (110) (As := [.int (Ia14 (113) ((r18).toNatClampNeg)), .int (x8_14)]) (rest := []) hx hb hml hown hts hE hM hS hA ce_X8_wayFrom tb_855 (V_X8_wayFrom_110 l D A ad ns I41 L42 G (Ia14 (113) ((r18).toNatClampNeg)) (x8_14) hG hI (by first | omega | decide)) rfl rfl ⟨Nat.le_of_ble_eq_true rfl, Nat.le_of_ble_eq_true rfl⟩ (hG.1 110 (by decide)) rfl rfl (by decide) rfl hl.1 rfl (Nat.le_of_ble_eq_true rfl) dX1_follow_157 ⟨Nat.le_of_ble_eq_true rfl, Nat.le_of_ble_eq_true rfl⟩) hS (fun r43 u H locs hw hM hS => ?_)
                  obtain ⟨rfl, xr43⟩ := hw
                  have hM : Mem D A ad ns I41 L42 G H := hM
                  refine lv_istore (lv' := [(8, .int (r43)), (9, .int (r40)), (11, .int (Ia14 (113) ((r18).toNatClampNeg))), (10, .int (r18)), (7, .int (x7_14)), (6, .int (x6_14)), (0, .ref (ad (10))), (1, .ref (ad (110))), (2, .int (a0)), (3, .int (a1)), (4, .int (a2)), (5, .int (a3))]) hx hb dX1_follow_160 hl (by decide) rfl (fun ls hl => ?_)
                  refine lv_iload hx hb dX1_follow_162 (lv_at hl 5 rfl) ?_
                  refine va_getsN hx hb hE.2.2.2.2.2.1.1 hS hown (va_Nw.use rfl (hE.2.1 _ (List.mem_of_getElem? (i := 9) rfl))) (fun _ h => h) dX1_follow_164 ?_
                  refine lv_iload hx hb dX1_follow_167 (lv_at hl 0 rfl) ?_
                  refine va_ti hx hb hE.2.2.2.2.2.1.2 hS (i := r43) (vp_in_iff.mpr (by omega)) rfl dX1_follow_169 ?_
                  refine lv_topi (fun v44 ev44 => ?_)
                  have tv44 := stX_r ev44
                  refine lv_iadd hx hb dX1_follow_170 ?_
                  refine lv_topi (fun v45 ev45 => ?_)
                  refine lv_istore (lv' := [(6, .int (v45)), (8, .int (r43)), (9, .int (r40)), (11, .int (Ia14 (113) ((r18).toNatClampNeg))), (10, .int (r18)), (7, .int (x7_14)), (0, .ref (ad (10))), (1, .ref (ad (110))), (2, .int (a0)), (3, .int (a1)), (4, .int (a2)), (5, .int (a3))]) hx hb dX1_follow_171 hl (by decide) rfl (fun ls hl => ?_)
                  refine lv_iload hx hb dX1_follow_173 (lv_at hl 5 rfl) ?_
                  refine va_getsN hx hb hE.2.2.2.2.2.2.1.1 hS hown (va_Nw.use rfl (hE.2.1 _ (List.mem_of_getElem? (i := 10) rfl))) (fun _ h => h) dX1_follow_175 ?_
                  refine lv_iload hx hb dX1_follow_178 (lv_at hl 1 rfl) ?_
                  refine va_ti hx hb hE.2.2.2.2.2.2.1.2 hS (i := r43) (vp_in_iff.mpr (by omega)) rfl dX1_follow_180 ?_
                  refine lv_topi (fun v46 ev46 => ?_)
                  have tv46 := stY_r ev46
                  refine lv_iadd hx hb dX1_follow_181 ?_
                  refine lv_topi (fun v47 ev47 => ?_)
                  refine lv_istore (lv' := [(7, .int (v47)), (6, .int (v45)), (8, .int (r43)), (9, .int (r40)), (11, .int (Ia14 (113) ((r18).toNatClampNeg))), (10, .int (r18)), (0, .ref (ad (10))), (1, .ref (ad (110))), (2, .int (a0)), (3, .int (a1)), (4, .int (a2)), (5, .int (a3))]) hx hb dX1_follow_182 hl (by decide) rfl (fun ls hl => ?_)
                  refine lv_goto (tgt := 14) hx hb dX1_follow_184 (by decide) ?_
                  have tr104 : (I41 (10) 4).toInt = (v12 : Int32).toInt := congrArg Int32.toInt ((((hkI41.get (10) 4 rfl)).trans (hkI20.get (10) 4 rfl)).trans (show (u2 Ia14 (10) 4 (v12)) (10) 4 = v12 from by simp [u2_v]))
                  exact ih14 (r40) (r43) (v47) (v45) I41 L42 _ _ ls hI hK (by first | omega | decide) (by omega) hM hS (lv_sub hl [3, 2, 0, 1, 6, 7, 8, 9, 10, 11] rfl)
            · have hc24 := c24
              have q24 := q_ne hc24
              refine lv_aload_n hx hb dX1_follow_93 rfl (lv_at hl 5 rfl) ?_
              refine lv_aload_n hx hb dX1_follow_94 rfl (lv_at hl 6 rfl) ?_
              refine lv_aload_n hx hb dX1_follow_95 rfl (lv_at hl 6 rfl) ?_
              refine m_getr (110) 13 (114) hx hb hts hown hE oc8 hM (hG.1 110 (by decide)) rfl (by decide) rfl (hG.2 (110, 13, 114) (by decide)) (by decide) tb_76 dX1_follow_96 ?_
              refine lv_iload hx hb dX1_follow_99 (lv_at hl 1 rfl) ?_
              refine m_iald (114) hx hb hE hM (hG.1 114 (by decide)) rfl (vp_in_iff.mpr (by omega)) dX1_follow_101 ?_
              have z48 : I20 (114) (r18).toNatClampNeg = Ia14 (114) ((r18).toNatClampNeg) := ((congrFun (hkI20.getA (114) rfl) ((r18).toNatClampNeg))).trans (show (u2 Ia14 (10) 4 (v12)) (114) ((r18).toNatClampNeg) = Ia14 (114) ((r18).toNatClampNeg) from by simp [u2_v])
              rw [z48]
              refine lv_iload hx hb dX1_follow_102 (lv_at hl 0 rfl) ?_
              refine m_calli (m_runV (10) (As := [.ref (ad (110)), .int (Ia14 (114) ((r18).toNatClampNeg)), .int (r19)]) (rest := []) hx hb hml hown hts hE hM hS hA ce_X1_passYard tb_830 (V_X1_passYard_110 l D A ad ns I20 L21 G (Ia14 (114) ((r18).toNatClampNeg)) (r19) hG hI (by first | omega | decide)) rfl rfl ⟨Nat.le_of_ble_eq_true rfl, Nat.le_of_ble_eq_true rfl⟩ (hG.1 10 (by decide)) rfl rfl (by decide) rfl hl.1 rfl (Nat.le_of_ble_eq_true rfl) dX1_follow_104 ⟨Nat.le_of_ble_eq_true rfl, Nat.le_of_ble_eq_true rfl⟩) hS (fun r49 u H locs hw hM hS => ?_)
              obtain ⟨I50, L51, rfl, hI, hkI50⟩ := hw
              have hM : Mem D A ad ns I50 L51 G H := hM
              have hK := hK.trans hkI50 rfl
              refine lv_istore (lv' := [(9, .int (r49)), (10, .int (r18)), (8, .int (x8_14)), (7, .int (x7_14)), (6, .int (x6_14)), (0, .ref (ad (10))), (1, .ref (ad (110))), (2, .int (a0)), (3, .int (a1)), (4, .int (a2)), (5, .int (a3))]) hx hb dX1_follow_107 hl (by decide) rfl (fun ls hl => ?_)
              refine lv_aload_n hx hb dX1_follow_109 rfl (lv_at hl 6 rfl) ?_
              refine m_getr (110) 12 (113) hx hb hts hown hE oc8 hM (hG.1 110 (by decide)) rfl (by decide) rfl (hG.2 (110, 12, 113) (by decide)) (by decide) tb_74 dX1_follow_110 ?_
              refine lv_iload hx hb dX1_follow_113 (lv_at hl 1 rfl) ?_
              refine m_iald (113) hx hb hE hM (hG.1 113 (by decide)) rfl (vp_in_iff.mpr (by omega)) dX1_follow_115 ?_
              have g52 := hI.get (113) ((r18).toNatClampNeg) (lo := -1) (hi := 23) rfl
              have z53 : I50 (113) (r18).toNatClampNeg = Ia14 (113) ((r18).toNatClampNeg) := (((congrFun (hkI50.getA (113) rfl) ((r18).toNatClampNeg))).trans (congrFun (hkI20.getA (113) rfl) ((r18).toNatClampNeg))).trans (show (u2 Ia14 (10) 4 (v12)) (113) ((r18).toNatClampNeg) = Ia14 (113) ((r18).toNatClampNeg) from by simp [u2_v])
              rw [z53] at g52 ⊢
              refine lv_istore (lv' := [(11, .int (Ia14 (113) ((r18).toNatClampNeg))), (9, .int (r49)), (10, .int (r18)), (8, .int (x8_14)), (7, .int (x7_14)), (6, .int (x6_14)), (0, .ref (ad (10))), (1, .ref (ad (110))), (2, .int (a0)), (3, .int (a1)), (4, .int (a2)), (5, .int (a3))]) hx hb dX1_follow_116 hl (by decide) rfl (fun ls hl => ?_)
              refine lv_iload hx hb dX1_follow_118 (lv_at hl 0 rfl) ?_
              refine lv_iconst (v := (-1)) hx hb dX1_follow_120 (by decide) ?_
              refine lv_icmp_eq (tgt := 162) hx hb dX1_follow_121 (by decide) (fun c54 => ?_) (fun c54 => ?_)
              · have hc54 := c54
                have q54 := q_eq hc54
                refine lv_iload hx hb dX1_follow_162 (lv_at hl 5 rfl) ?_
                refine va_getsN hx hb hE.2.2.2.2.2.1.1 hS hown (va_Nw.use rfl (hE.2.1 _ (List.mem_of_getElem? (i := 9) rfl))) (fun _ h => h) dX1_follow_164 ?_
                refine lv_iload hx hb dX1_follow_167 (lv_at hl 3 rfl) ?_
                refine va_ti hx hb hE.2.2.2.2.2.1.2 hS (i := x8_14) (vp_in_iff.mpr (by omega)) rfl dX1_follow_169 ?_
                refine lv_topi (fun v55 ev55 => ?_)
                have tv55 := stX_r ev55
                refine lv_iadd hx hb dX1_follow_170 ?_
                refine lv_topi (fun v56 ev56 => ?_)
                refine lv_istore (lv' := [(6, .int (v56)), (11, .int (Ia14 (113) ((r18).toNatClampNeg))), (9, .int (r49)), (10, .int (r18)), (8, .int (x8_14)), (7, .int (x7_14)), (0, .ref (ad (10))), (1, .ref (ad (110))), (2, .int (a0)), (3, .int (a1)), (4, .int (a2)), (5, .int (a3))]) hx hb dX1_follow_171 hl (by decide) rfl (fun ls hl => ?_)
                refine lv_iload hx hb dX1_follow_173 (lv_at hl 5 rfl) ?_
                refine va_getsN hx hb hE.2.2.2.2.2.2.1.1 hS hown (va_Nw.use rfl (hE.2.1 _ (List.mem_of_getElem? (i := 10) rfl))) (fun _ h => h) dX1_follow_175 ?_
                refine lv_iload hx hb dX1_follow_178 (lv_at hl 4 rfl) ?_
                refine va_ti hx hb hE.2.2.2.2.2.2.1.2 hS (i := x8_14) (vp_in_iff.mpr (by omega)) rfl dX1_follow_180 ?_
                refine lv_topi (fun v57 ev57 => ?_)
                have tv57 := stY_r ev57
                refine lv_iadd hx hb dX1_follow_181 ?_
                refine lv_topi (fun v58 ev58 => ?_)
                refine lv_istore (lv' := [(7, .int (v58)), (6, .int (v56)), (11, .int (Ia14 (113) ((r18).toNatClampNeg))), (9, .int (r49)), (10, .int (r18)), (8, .int (x8_14)), (0, .ref (ad (10))), (1, .ref (ad (110))), (2, .int (a0)), (3, .int (a1)), (4, .int (a2)), (5, .int (a3))]) hx hb dX1_follow_182 hl (by decide) rfl (fun ls hl => ?_)
                refine lv_goto (tgt := 14) hx hb dX1_follow_184 (by decide) ?_
                have tr104 : (I50 (10) 4).toInt = (v12 : Int32).toInt := congrArg Int32.toInt ((((hkI50.get (10) 4 rfl)).trans (hkI20.get (10) 4 rfl)).trans (show (u2 Ia14 (10) 4 (v12)) (10) 4 = v12 from by simp [u2_v]))
                exact ih14 (r49) (x8_14) (v58) (v56) I50 L51 _ _ ls hI hK (by first | omega | decide) (by omega) hM hS (lv_sub hl [3, 5, 0, 1, 6, 7, 8, 9, 10, 11] rfl)
              · have hc54 := c54
                have q54 := q_ne hc54
                refine lv_aload_n hx hb dX1_follow_124 rfl (lv_at hl 7 rfl) ?_
                refine lv_iload hx hb dX1_follow_125 (lv_at hl 0 rfl) ?_
                refine m_calli (m_runV (110) (As := [.int (Ia14 (113) ((r18).toNatClampNeg))]) (rest := []) hx hb hml hown hts hE hM hS hA ce_X8_isWhole tb_838 (V_X8_isWhole_110 l D A ad ns I50 L51 G (Ia14 (113) ((r18).toNatClampNeg)) hG hI (by first | omega | decide)) rfl rfl ⟨Nat.le_of_ble_eq_true rfl, Nat.le_of_ble_eq_true rfl⟩ (hG.1 110 (by decide)) rfl rfl (by decide) rfl hl.1 rfl (Nat.le_of_ble_eq_true rfl) dX1_follow_127 ⟨Nat.le_of_ble_eq_true rfl, Nat.le_of_ble_eq_true rfl⟩) hS (fun r59 u H locs hw hM hS => ?_)
                obtain ⟨rfl, xr59⟩ := hw
                have hM : Mem D A ad ns I50 L51 G H := hM
                refine lv_if_eq (tgt := 162) hx hb dX1_follow_130 (by decide) (fun c60 => ?_) (fun c60 => ?_)
                · have hc60 := c60
                  have q60 := q_eq hc60
                  refine lv_iload hx hb dX1_follow_162 (lv_at hl 5 rfl) ?_
                  refine va_getsN hx hb hE.2.2.2.2.2.1.1 hS hown (va_Nw.use rfl (hE.2.1 _ (List.mem_of_getElem? (i := 9) rfl))) (fun _ h => h) dX1_follow_164 ?_
                  refine lv_iload hx hb dX1_follow_167 (lv_at hl 3 rfl) ?_
                  refine va_ti hx hb hE.2.2.2.2.2.1.2 hS (i := x8_14) (vp_in_iff.mpr (by omega)) rfl dX1_follow_169 ?_
                  refine lv_topi (fun v61 ev61 => ?_)
                  have tv61 := stX_r ev61
                  refine lv_iadd hx hb dX1_follow_170 ?_
                  refine lv_topi (fun v62 ev62 => ?_)
                  refine lv_istore (lv' := [(6, .int (v62)), (11, .int (Ia14 (113) ((r18).toNatClampNeg))), (9, .int (r49)), (10, .int (r18)), (8, .int (x8_14)), (7, .int (x7_14)), (0, .ref (ad (10))), (1, .ref (ad (110))), (2, .int (a0)), (3, .int (a1)), (4, .int (a2)), (5, .int (a3))]) hx hb dX1_follow_171 hl (by decide) rfl (fun ls hl => ?_)
                  refine lv_iload hx hb dX1_follow_173 (lv_at hl 5 rfl) ?_
                  refine va_getsN hx hb hE.2.2.2.2.2.2.1.1 hS hown (va_Nw.use rfl (hE.2.1 _ (List.mem_of_getElem? (i := 10) rfl))) (fun _ h => h) dX1_follow_175 ?_
                  refine lv_iload hx hb dX1_follow_178 (lv_at hl 4 rfl) ?_
                  refine va_ti hx hb hE.2.2.2.2.2.2.1.2 hS (i := x8_14) (vp_in_iff.mpr (by omega)) rfl dX1_follow_180 ?_
                  refine lv_topi (fun v63 ev63 => ?_)
                  have tv63 := stY_r ev63
                  refine lv_iadd hx hb dX1_follow_181 ?_
                  refine lv_topi (fun v64 ev64 => ?_)
                  refine lv_istore (lv' := [(7, .int (v64)), (6, .int (v62)), (11, .int (Ia14 (113) ((r18).toNatClampNeg))), (9, .int (r49)), (10, .int (r18)), (8, .int (x8_14)), (0, .ref (ad (10))), (1, .ref (ad (110))), (2, .int (a0)), (3, .int (a1)), (4, .int (a2)), (5, .int (a3))]) hx hb dX1_follow_182 hl (by decide) rfl (fun ls hl => ?_)
                  refine lv_goto (tgt := 14) hx hb dX1_follow_184 (by decide) ?_
                  have tr104 : (I50 (10) 4).toInt = (v12 : Int32).toInt := congrArg Int32.toInt ((((hkI50.get (10) 4 rfl)).trans (hkI20.get (10) 4 rfl)).trans (show (u2 Ia14 (10) 4 (v12)) (10) 4 = v12 from by simp [u2_v]))
                  exact ih14 (r49) (x8_14) (v64) (v62) I50 L51 _ _ ls hI hK (by first | omega | decide) (by omega) hM hS (lv_sub hl [3, 5, 0, 1, 6, 7, 8, 9, 10, 11] rfl)
                · have hc60 := c60
                  have q60 := q_ne hc60
                  refine lv_aload_n hx hb dX1_follow_133 rfl (lv_at hl 6 rfl) ?_
                  refine lv_aload_n hx hb dX1_follow_134 rfl (lv_at hl 7 rfl) ?_
                  refine lv_iload hx hb dX1_follow_135 (lv_at hl 0 rfl) ?_
                  refine lv_iload hx hb dX1_follow_137 (lv_at hl 2 rfl) ?_
                  refine lv_bipush (v := (8)) hx hb dX1_follow_139 (by decide) ?_
                  refine lv_imul hx hb dX1_follow_141 ?_
                  refine lv_topi (fun v65 ev65 => ?_)
                  have tv65 := a_mulR (c := 8) ev65 (by decide) (by omega) (by omega)
                  refine lv_iload hx hb dX1_follow_142 (lv_at hl 3 rfl) ?_
                  refine lv_iadd hx hb dX1_follow_144 ?_
                  refine lv_topi (fun v66 ev66 => ?_)
                  have tv66 := a_add ev66 (by omega) (by omega)
                  refine lv_iload hx hb dX1_follow_145 (lv_at hl 1 rfl) ?_
                  refine m_calli (m_runV (10) (As := [.ref (ad (110)), .int (Ia14 (113) ((r18).toNatClampNeg)), .int (v66), .int (r49)]) (rest := []) hx hb hml hown hts hE hM hS hA ce_X1_passMirror tb_842 (V_X1_passMirror_110 l D A ad ns I50 L51 G (Ia14 (113) ((r18).toNatClampNeg)) (v66) (r49) hG hI (by first | omega | decide) (by first | omega | decide)) rfl rfl ⟨Nat.le_of_ble_eq_true rfl, Nat.le_of_ble_eq_true rfl⟩ (hG.1 10 (by decide)) rfl rfl (by decide) rfl hl.1 rfl (Nat.le_of_ble_eq_true rfl) dX1_follow_147 ⟨Nat.le_of_ble_eq_true rfl, Nat.le_of_ble_eq_true rfl⟩) hS (fun r67 u H locs hw hM hS => ?_)
                  obtain ⟨I68, L69, rfl, hI, hkI68⟩ := hw
                  have hM : Mem D A ad ns I68 L69 G H := hM
                  have hK := hK.trans hkI68 rfl
                  refine lv_istore (lv' := [(9, .int (r67)), (11, .int (Ia14 (113) ((r18).toNatClampNeg))), (10, .int (r18)), (8, .int (x8_14)), (7, .int (x7_14)), (6, .int (x6_14)), (0, .ref (ad (10))), (1, .ref (ad (110))), (2, .int (a0)), (3, .int (a1)), (4, .int (a2)), (5, .int (a3))]) hx hb dX1_follow_150 hl (by decide) rfl (fun ls hl => ?_)
                  refine lv_aload_n hx hb dX1_follow_152 rfl (lv_at hl 7 rfl) ?_
                  refine lv_iload hx hb dX1_follow_153 (lv_at hl 1 rfl) ?_
                  refine lv_iload hx hb dX1_follow_155 (lv_at hl 3 rfl) ?_
                  refine m_calli (m_runV (110) (As := [.int (Ia14 (113) ((r18).toNatClampNeg)), .int (x8_14)]) (rest := []) hx hb hml hown hts hE hM hS hA ce_X8_wayFrom tb_855 (V_X8_wayFrom_110 l D A ad ns I68 L69 G (Ia14 (113) ((r18).toNatClampNeg)) (x8_14) hG hI (by first | omega | decide)) rfl rfl ⟨Nat.le_of_ble_eq_true rfl, Nat.le_of_ble_eq_true rfl⟩ (hG.1 110 (by decide)) rfl rfl (by decide) rfl hl.1 rfl (Nat.le_of_ble_eq_true rfl) dX1_follow_157 ⟨Nat.le_of_ble_eq_true rfl, Nat.le_of_ble_eq_true rfl⟩) hS (fun r70 u H locs hw hM hS => ?_)
                  obtain ⟨rfl, xr70⟩ := hw
                  have hM : Mem D A ad ns I68 L69 G H := hM
                  refine lv_istore (lv' := [(8, .int (r70)), (9, .int (r67)), (11, .int (Ia14 (113) ((r18).toNatClampNeg))), (10, .int (r18)), (7, .int (x7_14)), (6, .int (x6_14)), (0, .ref (ad (10))), (1, .ref (ad (110))), (2, .int (a0)), (3, .int (a1)), (4, .int (a2)), (5, .int (a3))]) hx hb dX1_follow_160 hl (by decide) rfl (fun ls hl => ?_)
                  refine lv_iload hx hb dX1_follow_162 (lv_at hl 5 rfl) ?_
                  refine va_getsN hx hb hE.2.2.2.2.2.1.1 hS hown (va_Nw.use rfl (hE.2.1 _ (List.mem_of_getElem? (i := 9) rfl))) (fun _ h => h) dX1_follow_164 ?_
                  refine lv_iload hx hb dX1_follow_167 (lv_at hl 0 rfl) ?_
                  refine va_ti hx hb hE.2.2.2.2.2.1.2 hS (i := r70) (vp_in_iff.mpr (by omega)) rfl dX1_follow_169 ?_
                  refine lv_topi (fun v71 ev71 => ?_)
                  have tv71 := stX_r ev71
                  refine lv_iadd hx hb dX1_follow_170 ?_
                  refine lv_topi (fun v72 ev72 => ?_)
                  refine lv_istore (lv' := [(6, .int (v72)), (8, .int (r70)), (9, .int (r67)), (11, .int (Ia14 (113) ((r18).toNatClampNeg))), (10, .int (r18)), (7, .int (x7_14)), (0, .ref (ad (10))), (1, .ref (ad (110))), (2, .int (a0)), (3, .int (a1)), (4, .int (a2)), (5, .int (a3))]) hx hb dX1_follow_171 hl (by decide) rfl (fun ls hl => ?_)
                  refine lv_iload hx hb dX1_follow_173 (lv_at hl 5 rfl) ?_
                  refine va_getsN hx hb hE.2.2.2.2.2.2.1.1 hS hown (va_Nw.use rfl (hE.2.1 _ (List.mem_of_getElem? (i := 10) rfl))) (fun _ h => h) dX1_follow_175 ?_
                  refine lv_iload hx hb dX1_follow_178 (lv_at hl 1 rfl) ?_
                  refine va_ti hx hb hE.2.2.2.2.2.2.1.2 hS (i := r70) (vp_in_iff.mpr (by omega)) rfl dX1_follow_180 ?_
                  refine lv_topi (fun v73 ev73 => ?_)
                  have tv73 := stY_r ev73
                  refine lv_iadd hx hb dX1_follow_181 ?_
                  refine lv_topi (fun v74 ev74 => ?_)
                  refine lv_istore (lv' := [(7, .int (v74)), (6, .int (v72)), (8, .int (r70)), (9, .int (r67)), (11, .int (Ia14 (113) ((r18).toNatClampNeg))), (10, .int (r18)), (0, .ref (ad (10))), (1, .ref (ad (110))), (2, .int (a0)), (3, .int (a1)), (4, .int (a2)), (5, .int (a3))]) hx hb dX1_follow_182 hl (by decide) rfl (fun ls hl => ?_)
                  refine lv_goto (tgt := 14) hx hb dX1_follow_184 (by decide) ?_
                  have tr104 : (I68 (10) 4).toInt = (v12 : Int32).toInt := congrArg Int32.toInt (((((hkI68.get (10) 4 rfl)).trans (hkI50.get (10) 4 rfl)).trans (hkI20.get (10) 4 rfl)).trans (show (u2 Ia14 (10) 4 (v12)) (10) 4 = v12 from by simp [u2_v]))
                  exact ih14 (r67) (r70) (v74) (v72) I68 L69 _ _ ls hI hK (by first | omega | decide) (by omega) hM hS (lv_sub hl [3, 2, 0, 1, 6, 7, 8, 9, 10, 11] rfl)
          · have hc17 := c17
            have q17 := q_eq hc17
            refine lv_aload_n hx hb dX1_follow_50 rfl (lv_at hl 4 rfl) ?_
            refine lv_dup hx hb dX1_follow_51 rfl ?_
            refine m_geti (10) 3 hx hb hts hown hE oc1 hM (hG.1 10 (by decide)) rfl (by decide) rfl tb_138 dX1_follow_52 ?_
            have z75 : (u2 Ia14 (10) 4 (v12)) (10) 3 = Ia14 (10) 3 := (show (u2 Ia14 (10) 4 (v12)) (10) 3 = Ia14 (10) 3 from by simp [u2_v])
            rw [z75]
            refine lv_iload hx hb dX1_follow_55 (lv_at hl 0 rfl) ?_
            refine lv_iadd hx hb dX1_follow_57 ?_
            refine lv_topi (fun v76 ev76 => ?_)
            refine m_puti (10) 3 hx hb hts hown hE oc1 hM hS (hG.1 10 (by decide)) rfl (by decide) rfl rfl rfl rfl tb_138 dX1_follow_58 (fun H locs I77 eI77 hM hS => ?_)
            subst eI77
            have hI := hI.putF (n := 10) (k := 3) (v := v76) rfl
            have hK := hK.put (n := 10) (k := 3) (v := v76) (by first | rfl | simp [inR])
            exact m_vret hx hb hr hlocks hM hS (Nat.le_of_ble_eq_true rfl) (Nat.le_of_ble_eq_true rfl) ⟨_, _, rfl, hI, hK⟩ dX1_follow_61
  exact loop14 (_ + 1) (a3) (a2) (a1) (a0) I L _ _ ls hI hK (by first | omega | decide) (Nat.lt_succ_self _) hM hS (lv_sub hl [0, 1, 2, 3, 4, 5, 6, 7, 8, 9] rfl)
set_option maxHeartbeats 4000000 in
set_option maxRecDepth 20000 in
theorem V_X1_shine_110 (l : Launch) (D : va_G) (A : Nat → Prop) (ad : Nat → Nat) (ns : List Nat) (I : MI) (L : ML) (G : MG) (a0 : Int32) (hG : SGC ns G) (hI : INV I) (hlit : Lit 110 I a0) (ha0 : 0 ≤ a0.toInt ∧ a0.toInt ≤ 23) : Met l yX1_shine (wd yX1_shine cX1_shine 8 none) ({ frames := 3, cells := 0, slots := 0, locals := 80 }) (va_Pc [.ref (ad (10)), .ref (ad (110)), .int a0] (PM D A ad ns I L G)) (va_Qv (fun u => ∃ I2 L2, u = (ad, ns, I2, L2, G) ∧ INV I2 ∧ Kp [(11, 15)] [(10, 2), (10, 3), (10, 4), (10, 5), (10, 6), (10, 7), (10, 11), (10, 12)] I I2) (BM D A) A) 0 0 A := by
  refine m_ofW (by decide) (Nat.le_of_ble_eq_true rfl) ?_
  intro p e s m below meth c ls args hC hE hM hA hS hl
  obtain ⟨hx, hb, hml, hown, hts, hr, hlocks, hin⟩ := hC
  have k0 : (0 : Int32).toInt = 0 := by decide
  have k1 : (1 : Int32).toInt = 1 := by decide
  have k8 : (8 : Int32).toInt = 8 := by decide
  have k24 : (24 : Int32).toInt = 24 := by decide
  have k60 : (60 : Int32).toInt = 60 := by decide
  have k2000 : (2000 : Int32).toInt = 2000 := by decide
  have hK : Kp [(11, 15)] [(10, 2), (10, 3), (10, 4), (10, 5), (10, 6), (10, 7), (10, 11), (10, 12)] I I := Kp.rf
  have hl : lv_has ls 8 [(0, .ref (ad (10))), (1, .ref (ad (110))), (2, .int (a0))] := hl
  refine lv_aload_n hx hb dX1_shine_0 rfl (lv_at hl 0 rfl) ?_
  refine m_callv (m_runV (10) (As := []) (rest := []) hx hb hml hown hts hE hM hS hA ce_X1_clear tb_805 (V_X1_clear l D A ad ns I L G hG hI) rfl rfl ⟨Nat.le_of_ble_eq_true rfl, Nat.le_of_ble_eq_true rfl⟩ (hG.1 10 (by decide)) rfl rfl (by decide) rfl hl.1 rfl (Nat.le_of_ble_eq_true rfl) dX1_shine_1 ⟨Nat.le_of_ble_eq_true rfl, Nat.le_of_ble_eq_true rfl⟩) hS (fun u H locs hw hM hS => ?_)
  obtain ⟨I1, L2, rfl, hI, hkI1⟩ := hw
  have hM : Mem D A ad ns I1 L2 G H := hM
  have hK := hK.trans hkI1 rfl
  refine lv_aload_n hx hb dX1_shine_4 rfl (lv_at hl 0 rfl) ?_
  refine lv_aload_n hx hb dX1_shine_5 rfl (lv_at hl 1 rfl) ?_
  refine lv_aload_n hx hb dX1_shine_6 rfl (lv_at hl 1 rfl) ?_
  refine m_geti (110) 2 hx hb hts hown hE oc8 hM (hG.1 110 (by decide)) rfl (by decide) rfl tb_40 dX1_shine_7 ?_
  have g3 := hI.get (110) 2 (lo := 0) (hi := 23) rfl
  have z4 : I1 (110) 2 = I (110) 2 := (hkI1.get (110) 2 rfl)
  rw [z4] at g3 ⊢
  refine lv_aload_n hx hb dX1_shine_10 rfl (lv_at hl 1 rfl) ?_
  refine m_geti (110) 3 hx hb hts hown hE oc8 hM (hG.1 110 (by decide)) rfl (by decide) rfl tb_44 dX1_shine_11 ?_
  have g5 := hI.get (110) 3 (lo := 0) (hi := 23) rfl
  have z6 : I1 (110) 3 = I (110) 3 := (hkI1.get (110) 3 rfl)
  rw [z6] at g5 ⊢
  refine lv_aload_n hx hb dX1_shine_14 rfl (lv_at hl 1 rfl) ?_
  refine lv_iload_n hx hb dX1_shine_15 rfl (lv_at hl 2 rfl) ?_
  refine m_calli (m_runV (110) (As := [.int (a0)]) (rest := [.int (I (110) 3), .int (I (110) 2), .ref (ad (110)), .ref (ad (10))]) hx hb hml hown hts hE hM hS hA ce_X8_wayOf tb_809 (V_X8_wayOf_110 l D A ad ns I1 L2 G (a0) hG hI (by first | omega | decide)) rfl rfl ⟨Nat.le_of_ble_eq_true rfl, Nat.le_of_ble_eq_true rfl⟩ (hG.1 110 (by decide)) rfl rfl (by decide) rfl hl.1 rfl (Nat.le_of_ble_eq_true rfl) dX1_shine_16 ⟨Nat.le_of_ble_eq_true rfl, Nat.le_of_ble_eq_true rfl⟩) hS (fun r7 u H locs hw hM hS => ?_)
  obtain ⟨rfl, xr7⟩ := hw
  have hM : Mem D A ad ns I1 L2 G H := hM
  have lyr7 : (I1 115 (I1 110 5 * 24 + a0).toNatClampNeg).toInt ≠ -1 := (hlit.kp hK rfl).2
  have lzr7 := hI.get 115 ((I1 110 5 * 24 + a0).toNatClampNeg) (lo := -1) (hi := 7) rfl
  rw [← xr7] at lyr7 lzr7
  refine lv_aload_n hx hb dX1_shine_19 rfl (lv_at hl 1 rfl) ?_
  refine lv_iload_n hx hb dX1_shine_20 rfl (lv_at hl 2 rfl) ?_
  refine m_calli (m_runV (110) (As := [.int (a0)]) (rest := [.int (r7), .int (I (110) 3), .int (I (110) 2), .ref (ad (110)), .ref (ad (10))]) hx hb hml hown hts hE hM hS hA ce_X8_strengthOf tb_810 (V_X8_strengthOf_110 l D A ad ns I1 L2 G (a0) hG hI (by first | omega | decide)) rfl rfl ⟨Nat.le_of_ble_eq_true rfl, Nat.le_of_ble_eq_true rfl⟩ (hG.1 110 (by decide)) rfl rfl (by decide) rfl hl.1 rfl (Nat.le_of_ble_eq_true rfl) dX1_shine_21 ⟨Nat.le_of_ble_eq_true rfl, Nat.le_of_ble_eq_true rfl⟩) hS (fun r8 u H locs hw hM hS => ?_)
  obtain ⟨rfl, xr8⟩ := hw
  have hM : Mem D A ad ns I1 L2 G H := hM
  refine m_callv (m_runV (10) (As := [.ref (ad (110)), .int (I (110) 2), .int (I (110) 3), .int (r7), .int (r8)]) (rest := []) hx hb hml hown hts hE hM hS hA ce_X1_follow tb_814 (V_X1_follow_110 l D A ad ns I1 L2 G (I (110) 2) (I (110) 3) (r7) (r8) hG hI (by first | omega | decide)) rfl rfl ⟨Nat.le_of_ble_eq_true rfl, Nat.le_of_ble_eq_true rfl⟩ (hG.1 10 (by decide)) rfl rfl (by decide) rfl hl.1 rfl (Nat.le_of_ble_eq_true rfl) dX1_shine_24 ⟨Nat.le_of_ble_eq_true rfl, Nat.le_of_ble_eq_true rfl⟩) hS (fun u H locs hw hM hS => ?_)
  obtain ⟨I9, L10, rfl, hI, hkI9⟩ := hw
  have hM : Mem D A ad ns I9 L10 G H := hM
  have hK := hK.trans hkI9 rfl
  refine lv_iconst (v := (0)) hx hb dX1_shine_27 (by decide) ?_
  refine lv_istore_n (lv' := [(3, .int (0)), (0, .ref (ad (10))), (1, .ref (ad (110))), (2, .int (a0))]) hx hb dX1_shine_28 rfl hl (by decide) rfl (fun ls hl => ?_)
  have loop29 : ∀ (n : Nat) (x3_29 : Int32) (Ia29 : MI) (La29 : ML) (H : Heap) (locs : List Loc) (ls : Array Slot), INV Ia29 → Kp [(11, 15)] [(10, 2), (10, 3), (10, 4), (10, 5), (10, 6), (10, 7), (10, 11), (10, 12)] I Ia29 → (0 ≤ x3_29.toInt ∧ x3_29.toInt ≤ 2000) → (2000 - x3_29.toInt).toNat < n → Mem D A ad ns Ia29 La29 G H → va_S A s.heap H locs → lv_has ls 8 [(3, .int (x3_29)), (0, .ref (ad (10))), (1, .ref (ad (110))), (2, .int (a0))] → W p l e ({ frames := 3, cells := 0, slots := 0, locals := 80 } : Room) s m args below meth c H locs 0 0 (MQ below (va_Qv (fun u => ∃ I2 L2, u = (ad, ns, I2, L2, G) ∧ INV I2 ∧ Kp [(11, 15)] [(10, 2), (10, 3), (10, 4), (10, 5), (10, 6), (10, 7), (10, 11), (10, 12)] I I2) (BM D A) A) args s 0 0 A) (F0 m 29 ls []) := by
    intro n
    induction n with
    | zero =>
      intro x3_29 Ia29 La29 H locs ls hI hK hr3_29 hmu
      exact absurd hmu (Nat.not_lt_zero _)
    | succ n ih29 =>
      intro x3_29 Ia29 La29 H locs ls hI hK hr3_29 hmu29 hM hS hl
      refine lv_aload_n hx hb dX1_shine_29 rfl (lv_at hl 1 rfl) ?_
      refine m_geti (10) 12 hx hb hts hown hE oc1 hM (hG.1 10 (by decide)) rfl (by decide) rfl tb_151 dX1_shine_30 ?_
      have g11 := hI.get (10) 12 (lo := 0) (hi := 60) rfl
      refine lv_if_le (tgt := 141) hx hb dX1_shine_33 (by decide) (fun c12 => ?_) (fun c12 => ?_)
      · have hc12 := c12
        have q12 := q_le hc12
        exact m_vret hx hb hr hlocks hM hS (Nat.le_of_ble_eq_true rfl) (Nat.le_of_ble_eq_true rfl) ⟨_, _, rfl, hI, hK⟩ dX1_shine_141
      · have hc12 := c12
        have q12 := q_nle hc12
        refine lv_iload_n hx hb dX1_shine_36 rfl (lv_at hl 0 rfl) ?_
        refine lv_sipush (v := (2000)) hx hb dX1_shine_37 (by decide) ?_
        refine lv_icmp_ge (tgt := 141) hx hb dX1_shine_40 (by decide) (fun c13 => ?_) (fun c13 => ?_)
        · have hc13 := c13
          have q13 := q_le hc13
          exact m_vret hx hb hr hlocks hM hS (Nat.le_of_ble_eq_true rfl) (Nat.le_of_ble_eq_true rfl) ⟨_, _, rfl, hI, hK⟩ dX1_shine_141
        · have hc13 := c13
          have q13 := q_nle hc13
          refine lv_aload_n hx hb dX1_shine_43 rfl (lv_at hl 1 rfl) ?_
          refine m_getr (10) 9 (13) hx hb hts hown hE oc1 hM (hG.1 10 (by decide)) rfl (by decide) rfl (hG.2 (10, 9, 13) (by decide)) (by decide) tb_148 dX1_shine_44 ?_
          refine lv_aload_n hx hb dX1_shine_47 rfl (lv_at hl 1 rfl) ?_
          refine m_geti (10) 11 hx hb hts hown hE oc1 hM (hG.1 10 (by decide)) rfl (by decide) rfl tb_150 dX1_shine_48 ?_
          have g14 := hI.get (10) 11 (lo := 0) (hi := 59) rfl
          refine m_iald (13) hx hb hE hM (hG.1 13 (by decide)) rfl (vp_in_iff.mpr (by omega)) dX1_shine_51 ?_
          have g15 := hI.get (13) ((Ia29 (10) 11).toNatClampNeg) (lo := 0) (hi := 4607) rfl
          refine lv_istore (lv' := [(4, .int (Ia29 (13) (Ia29 (10) 11).toNatClampNeg)), (3, .int (x3_29)), (0, .ref (ad (10))), (1, .ref (ad (110))), (2, .int (a0))]) hx hb dX1_shine_52 hl (by decide) rfl (fun ls hl => ?_)
          refine lv_aload_n hx hb dX1_shine_54 rfl (lv_at hl 2 rfl) ?_
          refine m_getr (10) 10 (14) hx hb hts hown hE oc1 hM (hG.1 10 (by decide)) rfl (by decide) rfl (hG.2 (10, 10, 14) (by decide)) (by decide) tb_149 dX1_shine_55 ?_
          refine lv_aload_n hx hb dX1_shine_58 rfl (lv_at hl 2 rfl) ?_
          refine m_geti (10) 11 hx hb hts hown hE oc1 hM (hG.1 10 (by decide)) rfl (by decide) rfl tb_150 dX1_shine_59 ?_
          refine m_iald (14) hx hb hE hM (hG.1 14 (by decide)) rfl (vp_in_iff.mpr (by omega)) dX1_shine_62 ?_
          refine lv_istore (lv' := [(5, .int (Ia29 (14) (Ia29 (10) 11).toNatClampNeg)), (4, .int (Ia29 (13) (Ia29 (10) 11).toNatClampNeg)), (3, .int (x3_29)), (0, .ref (ad (10))), (1, .ref (ad (110))), (2, .int (a0))]) hx hb dX1_shine_63 hl (by decide) rfl (fun ls hl => ?_)
          refine lv_aload_n hx hb dX1_shine_65 rfl (lv_at hl 3 rfl) ?_
          refine lv_aload_n hx hb dX1_shine_66 rfl (lv_at hl 3 rfl) ?_
          refine m_geti (10) 11 hx hb hts hown hE oc1 hM (hG.1 10 (by decide)) rfl (by decide) rfl tb_150 dX1_shine_67 ?_
          refine lv_iconst (v := (1)) hx hb dX1_shine_70 (by decide) ?_
          refine lv_iadd hx hb dX1_shine_71 ?_
          refine lv_topi (fun v16 ev16 => ?_)
          have tv16 := a_add ev16 (by omega) (by omega)
          refine lv_bipush (v := (60)) hx hb dX1_shine_72 (by decide) ?_
          refine lv_irem hx hb dX1_shine_74 (by decide) ?_
          refine lv_topi (fun v17 ev17 => ?_)
          have tv17 := a_rem (c := 60) ev17 (by decide) (by decide) (by omega)
          refine m_puti (10) 11 hx hb hts hown hE oc1 hM hS (hG.1 10 (by decide)) rfl (by decide) rfl rfl rfl rfl tb_150 dX1_shine_75 (fun H locs I18 eI18 hM hS => ?_)
          subst eI18
          have hI := hI.put (n := 10) (k := 11) (v := v17) (lo := 0) (hi := 59) rfl (by first | omega | decide)
          have hK := hK.put (n := 10) (k := 11) (v := v17) (by first | rfl | simp [inR])
          refine lv_aload_n hx hb dX1_shine_78 rfl (lv_at hl 3 rfl) ?_
          refine lv_dup hx hb dX1_shine_79 rfl ?_
          refine m_geti (10) 12 hx hb hts hown hE oc1 hM (hG.1 10 (by decide)) rfl (by decide) rfl tb_151 dX1_shine_80 ?_
          have z19 : (u2 Ia29 (10) 11 (v17)) (10) 12 = Ia29 (10) 12 := (show (u2 Ia29 (10) 11 (v17)) (10) 12 = Ia29 (10) 12 from by simp [u2_v])
          rw [z19]
          refine lv_iconst (v := (1)) hx hb dX1_shine_83 (by decide) ?_
          refine lv_isub hx hb dX1_shine_84 ?_
          refine lv_topi (fun v20 ev20 => ?_)
          have tv20 := a_sub ev20 (by omega) (by omega)
          refine m_puti (10) 12 hx hb hts hown hE oc1 hM hS (hG.1 10 (by decide)) rfl (by decide) rfl rfl rfl rfl tb_151 dX1_shine_85 (fun H locs I21 eI21 hM hS => ?_)
          subst eI21
          have hI := hI.put (n := 10) (k := 12) (v := v20) (lo := 0) (hi := 60) rfl (by first | omega | decide)
          have hK := hK.put (n := 10) (k := 12) (v := v20) (by first | rfl | simp [inR])
          refine lv_iload hx hb dX1_shine_88 (lv_at hl 1 rfl) ?_
          refine lv_bipush (v := (8)) hx hb dX1_shine_90 (by decide) ?_
          refine lv_irem hx hb dX1_shine_92 (by decide) ?_
          refine lv_topi (fun v22 ev22 => ?_)
          have tv22 := a_rem (c := 8) ev22 (by decide) (by decide) (by omega)
          refine lv_istore (lv' := [(6, .int (v22)), (5, .int (Ia29 (14) (Ia29 (10) 11).toNatClampNeg)), (4, .int (Ia29 (13) (Ia29 (10) 11).toNatClampNeg)), (3, .int (x3_29)), (0, .ref (ad (10))), (1, .ref (ad (110))), (2, .int (a0))]) hx hb dX1_shine_93 hl (by decide) rfl (fun ls hl => ?_)
          refine lv_iload hx hb dX1_shine_95 (lv_at hl 2 rfl) ?_
          refine lv_bipush (v := (8)) hx hb dX1_shine_97 (by decide) ?_
          refine lv_idiv hx hb dX1_shine_99 (by decide) ?_
          refine lv_topi (fun v23 ev23 => ?_)
          have tv23 := a_div (c := 8) ev23 (by decide) (by decide) (by omega)
          refine lv_istore (lv' := [(7, .int (v23)), (6, .int (v22)), (5, .int (Ia29 (14) (Ia29 (10) 11).toNatClampNeg)), (4, .int (Ia29 (13) (Ia29 (10) 11).toNatClampNeg)), (3, .int (x3_29)), (0, .ref (ad (10))), (1, .ref (ad (110))), (2, .int (a0))]) hx hb dX1_shine_100 hl (by decide) rfl (fun ls hl => ?_)
          refine lv_aload_n hx hb dX1_shine_102 rfl (lv_at hl 5 rfl) ?_
          refine lv_aload_n hx hb dX1_shine_103 rfl (lv_at hl 6 rfl) ?_
          refine lv_iload hx hb dX1_shine_104 (lv_at hl 0 rfl) ?_
          refine lv_bipush (v := (24)) hx hb dX1_shine_106 (by decide) ?_
          refine lv_irem hx hb dX1_shine_108 (by decide) ?_
          refine lv_topi (fun v24 ev24 => ?_)
          have tv24 := a_rem (c := 24) ev24 (by decide) (by decide) (by omega)
          refine va_getsN hx hb hE.2.2.2.2.2.1.1 hS hown (va_Nw.use rfl (hE.2.1 _ (List.mem_of_getElem? (i := 9) rfl))) (fun _ h => h) dX1_shine_109 ?_
          refine lv_iload hx hb dX1_shine_112 (lv_at hl 1 rfl) ?_
          refine va_ti hx hb hE.2.2.2.2.2.1.2 hS (i := v22) (vp_in_iff.mpr (by omega)) rfl dX1_shine_114 ?_
          refine lv_topi (fun v25 ev25 => ?_)
          have tv25 := stX_r ev25
          refine lv_iadd hx hb dX1_shine_115 ?_
          refine lv_topi (fun v26 ev26 => ?_)
          have tv26 := a_add ev26 (by omega) (by omega)
          refine lv_iload hx hb dX1_shine_116 (lv_at hl 0 rfl) ?_
          refine lv_bipush (v := (24)) hx hb dX1_shine_118 (by decide) ?_
          refine lv_idiv hx hb dX1_shine_120 (by decide) ?_
          refine lv_topi (fun v27 ev27 => ?_)
          have tv27 := a_div (c := 24) ev27 (by decide) (by decide) (by omega)
          refine va_getsN hx hb hE.2.2.2.2.2.2.1.1 hS hown (va_Nw.use rfl (hE.2.1 _ (List.mem_of_getElem? (i := 10) rfl))) (fun _ h => h) dX1_shine_121 ?_
          refine lv_iload hx hb dX1_shine_124 (lv_at hl 1 rfl) ?_
          refine va_ti hx hb hE.2.2.2.2.2.2.1.2 hS (i := v22) (vp_in_iff.mpr (by omega)) rfl dX1_shine_126 ?_
          refine lv_topi (fun v28 ev28 => ?_)
          have tv28 := stY_r ev28
          refine lv_iadd hx hb dX1_shine_127 ?_
          refine lv_topi (fun v29 ev29 => ?_)
          have tv29 := a_add ev29 (by omega) (by omega)
          refine lv_iload hx hb dX1_shine_128 (lv_at hl 1 rfl) ?_
          refine lv_iload hx hb dX1_shine_130 (lv_at hl 2 rfl) ?_
          refine m_callv (m_runV (10) (As := [.ref (ad (110)), .int (v26), .int (v29), .int (v22), .int (Ia29 (14) (Ia29 (10) 11).toNatClampNeg)]) (rest := []) hx hb hml hown hts hE hM hS hA ce_X1_follow tb_814 (V_X1_follow_110 l D A ad ns (u2 (u2 Ia29 (10) 11 (v17)) (10) 12 (v20)) La29 G (v26) (v29) (v22) (Ia29 (14) (Ia29 (10) 11).toNatClampNeg) hG hI (by first | omega | decide)) rfl rfl ⟨Nat.le_of_ble_eq_true rfl, Nat.le_of_ble_eq_true rfl⟩ (hG.1 10 (by decide)) rfl rfl (by decide) rfl hl.1 rfl (Nat.le_of_ble_eq_true rfl) dX1_shine_132 ⟨Nat.le_of_ble_eq_true rfl, Nat.le_of_ble_eq_true rfl⟩) hS (fun u H locs hw hM hS => ?_)
          obtain ⟨I30, L31, rfl, hI, hkI30⟩ := hw
          have hM : Mem D A ad ns I30 L31 G H := hM
          have hK := hK.trans hkI30 rfl
          obtain ⟨v32, ev32⟩ : ∃ z : Int32, z = x3_29 + Int32.ofInt (1) := ⟨_, rfl⟩
          have tv32 := a_inc ev32 (by decide) (by omega) (by omega)
          refine lv_iinc (v := v32) (lv' := [(3, .int (v32)), (7, .int (v23)), (6, .int (v22)), (5, .int (Ia29 (14) (Ia29 (10) 11).toNatClampNeg)), (4, .int (Ia29 (13) (Ia29 (10) 11).toNatClampNeg)), (0, .ref (ad (10))), (1, .ref (ad (110))), (2, .int (a0))]) hx hb dX1_shine_135 hl (k := 4) rfl ev32.symm (by decide) rfl (fun ls hl => ?_)
          refine lv_goto (tgt := 29) hx hb dX1_shine_138 (by decide) ?_
          exact ih29 (v32) I30 L31 _ _ ls hI hK (by first | omega | decide) (by omega) hM hS (lv_sub hl [0, 5, 6, 7] rfl)
  exact loop29 (_ + 1) (0) I9 L10 _ _ ls hI hK (by first | omega | decide) (Nat.lt_succ_self _) hM hS (lv_sub hl [0, 1, 2, 3] rfl)
set_option maxHeartbeats 4000000 in
set_option maxRecDepth 20000 in
theorem V_X1_shineWatched_110 (l : Launch) (D : va_G) (A : Nat → Prop) (ad : Nat → Nat) (ns : List Nat) (I : MI) (L : ML) (G : MG) (a0 : Int32) (hG : SGC ns G) (hI : INV I) (hlit : Lit 110 I a0) (ha0 : 0 ≤ a0.toInt ∧ a0.toInt ≤ 23) : Met l yX1_shineWatched (wd yX1_shineWatched cX1_shineWatched 3 none) ({ frames := 4, cells := 0, slots := 0, locals := 107 }) (va_Pc [.ref (ad (10)), .ref (ad (110)), .int a0] (PM D A ad ns I L G)) (va_Qv (fun u => ∃ I2 L2, u = (ad, ns, I2, L2, G) ∧ INV I2 ∧ Kp [(11, 15)] [(10, 2), (10, 3), (10, 4), (10, 5), (10, 6), (10, 7), (10, 8), (10, 11), (10, 12)] I I2) (BM D A) A) 0 0 A := by
  refine m_ofW (by decide) (Nat.le_of_ble_eq_true rfl) ?_
  intro p e s m below meth c ls args hC hE hM hA hS hl
  obtain ⟨hx, hb, hml, hown, hts, hr, hlocks, hin⟩ := hC
  have k0 : (0 : Int32).toInt = 0 := by decide
  have k1 : (1 : Int32).toInt = 1 := by decide
  have hK : Kp [(11, 15)] [(10, 2), (10, 3), (10, 4), (10, 5), (10, 6), (10, 7), (10, 8), (10, 11), (10, 12)] I I := Kp.rf
  have hl : lv_has ls 3 [(0, .ref (ad (10))), (1, .ref (ad (110))), (2, .int (a0))] := hl
  refine lv_aload_n hx hb dX1_shineWatched_0 rfl (lv_at hl 0 rfl) ?_
  refine lv_iconst (v := (1)) hx hb dX1_shineWatched_1 (by decide) ?_
  refine m_puti (10) 8 hx hb hts hown hE oc1 hM hS (hG.1 10 (by decide)) rfl (by decide) rfl rfl rfl rfl tb_147 dX1_shineWatched_2 (fun H locs I1 eI1 hM hS => ?_)
  subst eI1
  have hI := hI.put (n := 10) (k := 8) (v := 1) (lo := 0) (hi := 1) rfl (by first | omega | decide)
  have hK := hK.put (n := 10) (k := 8) (v := 1) (by first | rfl | simp [inR])
  refine lv_aload_n hx hb dX1_shineWatched_5 rfl (lv_at hl 0 rfl) ?_
  refine m_getr (10) 1 (12) hx hb hts hown hE oc1 hM (hG.1 10 (by decide)) rfl (by decide) rfl (hG.2 (10, 1, 12) (by decide)) (by decide) tb_134 dX1_shineWatched_6 ?_
  refine lv_iconst (v := (0)) hx hb dX1_shineWatched_9 (by decide) ?_
  refine m_callv (m_runS (As := [.ref (ad (12)), .int (0)]) (rest := []) hx hb hml hown hts hE hM hS hA ce_J7_fill_53178 tb_800 (C_J7_fill_53178 l D A ad ns (u2 I (10) 8 (1)) L G (12) 576 (0) (hG.1 12 (by decide)) rfl (by decide)) rfl rfl ⟨Nat.le_of_ble_eq_true rfl, Nat.le_of_ble_eq_true rfl⟩  rfl hl.1 rfl (Nat.le_of_ble_eq_true rfl) dX1_shineWatched_10 ⟨Nat.le_of_ble_eq_true rfl, Nat.le_of_ble_eq_true rfl⟩) hS (fun u H locs hw hM hS => ?_)
  subst hw
  obtain ⟨I2, eI2⟩ : ∃ z : MI, z = fillI (u2 I (10) 8 (1)) 12 576 (0) := ⟨_, rfl⟩
  have hM : Mem D A ad ns I2 L G H := by rw [eI2]; exact hM
  have hkI2 : Kp [(12, 13)] [] (u2 I (10) 8 (1)) I2 := by rw [eI2]; exact Kp.rf.fill rfl
  have hI : INV I2 := by rw [eI2]; exact hI.fill (fun k _ => (by decide : (-2147483648 : Int) ≤ (0 : Int32).toInt ∧ (0 : Int32).toInt ≤ (2147483647 : Int)))
  have hK := hK.trans hkI2 rfl
  refine lv_aload_n hx hb dX1_shineWatched_13 rfl (lv_at hl 0 rfl) ?_
  refine lv_aload_n hx hb dX1_shineWatched_14 rfl (lv_at hl 1 rfl) ?_
  refine lv_iload_n hx hb dX1_shineWatched_15 rfl (lv_at hl 2 rfl) ?_
  refine m_callv (m_runV (10) (As := [.ref (ad (110)), .int (a0)]) (rest := []) hx hb hml hown hts hE hM hS hA ce_X1_shine tb_801 (V_X1_shine_110 l D A ad ns I2 L G (a0) hG hI (hlit.kp hK rfl) (by first | omega | decide)) rfl rfl ⟨Nat.le_of_ble_eq_true rfl, Nat.le_of_ble_eq_true rfl⟩ (hG.1 10 (by decide)) rfl rfl (by decide) rfl hl.1 rfl (Nat.le_of_ble_eq_true rfl) dX1_shineWatched_16 ⟨Nat.le_of_ble_eq_true rfl, Nat.le_of_ble_eq_true rfl⟩) hS (fun u H locs hw hM hS => ?_)
  obtain ⟨I3, L4, rfl, hI, hkI3⟩ := hw
  have hM : Mem D A ad ns I3 L4 G H := hM
  have hK := hK.trans hkI3 rfl
  refine lv_aload_n hx hb dX1_shineWatched_19 rfl (lv_at hl 0 rfl) ?_
  refine lv_iconst (v := (0)) hx hb dX1_shineWatched_20 (by decide) ?_
  refine m_puti (10) 8 hx hb hts hown hE oc1 hM hS (hG.1 10 (by decide)) rfl (by decide) rfl rfl rfl rfl tb_147 dX1_shineWatched_21 (fun H locs I5 eI5 hM hS => ?_)
  subst eI5
  have hI := hI.put (n := 10) (k := 8) (v := 0) (lo := 0) (hi := 1) rfl (by first | omega | decide)
  have hK := hK.put (n := 10) (k := 8) (v := 0) (by first | rfl | simp [inR])
  exact m_vret hx hb hr hlocks hM hS (Nat.le_of_ble_eq_true rfl) (Nat.le_of_ble_eq_true rfl) ⟨_, _, rfl, hI, hK⟩ dX1_shineWatched_24
