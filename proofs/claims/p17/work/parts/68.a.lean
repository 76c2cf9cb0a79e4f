def TOPX (I : MI) (r : Int32) : Prop := ((I 1000 32).toInt = 0 ∧ r = -1) ∨ (0 < (I 1000 32).toInt ∧ r = I 1042 ((I 1000 32).toNatClampNeg - 1))
theorem dX10_top_0 : decode cX10_top 0 = .ok (.aload_n 0, 1) := by decide +kernel
theorem dX10_top_1 : decode cX10_top 1 = .ok (.getfield 334, 3) := by decide +kernel
theorem dX10_top_4 : decode cX10_top 4 = .ok (.ifCond .ne 7, 3) := by decide +kernel
theorem dX10_top_7 : decode cX10_top 7 = .ok (.iconst (-1), 1) := by decide +kernel
theorem dX10_top_8 : decode cX10_top 8 = .ok (.goto 14, 3) := by decide +kernel
theorem dX10_top_11 : decode cX10_top 11 = .ok (.aload_n 0, 1) := by decide +kernel
theorem dX10_top_12 : decode cX10_top 12 = .ok (.getfield 108, 3) := by decide +kernel
theorem dX10_top_15 : decode cX10_top 15 = .ok (.aload_n 0, 1) := by decide +kernel
theorem dX10_top_16 : decode cX10_top 16 = .ok (.getfield 334, 3) := by decide +kernel
theorem dX10_top_19 : decode cX10_top 19 = .ok (.iconst 1, 1) := by decide +kernel
theorem dX10_top_20 : decode cX10_top 20 = .ok (.isub, 1) := by decide +kernel
theorem dX10_top_21 : decode cX10_top 21 = .ok (.iaload, 1) := by decide +kernel
theorem dX10_top_22 : decode cX10_top 22 = .ok (.ireturn, 1) := by decide +kernel
theorem ce_X10_top : CeV RX10 yX10_top cX10_top 1 (some .int) 0 := ⟨tb_1600, tp_79, tb_11, tb_1601, rfl, by decide, by decide, by decide +kernel⟩
set_option maxHeartbeats 4000000 in
set_option maxRecDepth 20000 in
theorem V_X10_top (l : Launch) (D : va_G) (A : Nat → Prop) (ad : Nat → Nat) (ns : List Nat) (I : MI) (L : ML) (G : MG) (hJ : SGM ns G) (hI : INV I) : Met l yX10_top (wd yX10_top cX10_top 1 (some .int)) ({ frames := 0, cells := 0, slots := 0, locals := 0 }) (va_Pc [.ref (ad (1000))] (PM D A ad ns I L G)) (va_Qi (fun r u => u = (ad, ns, I, L, G) ∧ (TOPX I r)) (BM D A) A) 0 0 A := by
  refine m_ofW (by decide) (Nat.le_of_ble_eq_true rfl) ?_
  intro p e s m below meth c ls args hC hE hM hA hS hl
  obtain ⟨hx, hb, hml, hown, hts, hr, hlocks, hin⟩ := hC
  have km1 : (-1 : Int32).toInt = -1 := by decide
  have k0 : (0 : Int32).toInt = 0 := by decide
  have k1 : (1 : Int32).toInt = 1 := by decide
  have hl : lv_has ls 1 [(0, .ref (ad (1000)))] := hl
  refine lv_aload_n hx hb dX10_top_0 rfl (lv_at hl 0 rfl) ?_
  refine m_geti (1000) 32 hx hb hts hown hE oc10 hM hJ.1 rfl (by decide) rfl tb_1209 dX10_top_1 ?_
  have g1 := hI.get (1000) 32 (lo := 0) (hi := 402) rfl
  refine lv_if_ne (tgt := 11) hx hb dX10_top_4 (by decide) (fun c2 => ?_) (fun c2 => ?_)
  · have hc2 := c2
    have q2 := q_ne hc2
    refine lv_aload_n hx hb dX10_top_11 rfl (lv_at hl 0 rfl) ?_
    refine m_getr (1000) 42 (1042) hx hb hts hown hE oc10 hM hJ.1 rfl (by decide) rfl (hJ.2 42 (by decide)).2 (by decide) tb_1219 dX10_top_12 ?_
    refine lv_aload_n hx hb dX10_top_15 rfl (lv_at hl 0 rfl) ?_
    refine m_geti (1000) 32 hx hb hts hown hE oc10 hM hJ.1 rfl (by decide) rfl tb_1209 dX10_top_16 ?_
    refine lv_iconst (v := (1)) hx hb dX10_top_19 (by decide) ?_
    refine lv_isub hx hb dX10_top_20 ?_
    refine lv_topi (fun v3 ev3 => ?_)
    have tv3 := a_sub ev3 (by omega) (by omega)
    refine m_iald (1042) hx hb hE hM (hJ.2 42 (by decide)).1 rfl (vp_in_iff.mpr (by omega)) dX10_top_21 ?_
    exact m_iret hx hb hr hlocks hM hS (Nat.le_of_ble_eq_true rfl) (Nat.le_of_ble_eq_true rfl) ⟨rfl, (Or.inr ⟨by omega, congrArg (I 1042) (by have h1 := tn (i := v3) (by omega); have h2 := tn (i := I 1000 32) (by omega); omega)⟩)⟩ dX10_top_22
  · have hc2 := c2
    have q2 := q_eq hc2
    refine lv_iconst (v := (-1)) hx hb dX10_top_7 (by decide) ?_
    refine lv_goto (tgt := 22) hx hb dX10_top_8 (by decide) ?_
    exact m_iret hx hb hr hlocks hM hS (Nat.le_of_ble_eq_true rfl) (Nat.le_of_ble_eq_true rfl) ⟨rfl, (Or.inl ⟨by omega, rfl⟩)⟩ dX10_top_22
theorem dX10_opens_0 : decode cX10_opens 0 = .ok (.iload_n 1, 1) := by decide +kernel
theorem dX10_opens_1 : decode cX10_opens 1 = .ok (.bipush 9, 2) := by decide +kernel
theorem dX10_opens_3 : decode cX10_opens 3 = .ok (.if_icmp .eq 9, 3) := by decide +kernel
theorem dX10_opens_6 : decode cX10_opens 6 = .ok (.iload_n 1, 1) := by decide +kernel
theorem dX10_opens_7 : decode cX10_opens 7 = .ok (.bipush 12, 2) := by decide +kernel
theorem dX10_opens_9 : decode cX10_opens 9 = .ok (.if_icmp .ne 31, 3) := by decide +kernel
theorem dX10_opens_12 : decode cX10_opens 12 = .ok (.aload_n 0, 1) := by decide +kernel
theorem dX10_opens_13 : decode cX10_opens 13 = .ok (.getfield 337, 3) := by decide +kernel
theorem dX10_opens_16 : decode cX10_opens 16 = .ok (.bipush 10, 2) := by decide +kernel
theorem dX10_opens_18 : decode cX10_opens 18 = .ok (.if_icmp .ne 12, 3) := by decide +kernel
theorem dX10_opens_21 : decode cX10_opens 21 = .ok (.aload_n 0, 1) := by decide +kernel
theorem dX10_opens_22 : decode cX10_opens 22 = .ok (.iconst 2, 1) := by decide +kernel
theorem dX10_opens_23 : decode cX10_opens 23 = .ok (.aload_n 0, 1) := by decide +kernel
theorem dX10_opens_24 : decode cX10_opens 24 = .ok (.getfield 267, 3) := by decide +kernel
theorem dX10_opens_27 : decode cX10_opens 27 = .ok (.invokevirtual 303, 3) := by decide +kernel
theorem dX10_opens_30 : decode cX10_opens 30 = .ok (.aload_n 0, 1) := by decide +kernel
theorem dX10_opens_31 : decode cX10_opens 31 = .ok (.dup, 1) := by decide +kernel
theorem dX10_opens_32 : decode cX10_opens 32 = .ok (.getfield 337, 3) := by decide +kernel
theorem dX10_opens_35 : decode cX10_opens 35 = .ok (.iconst 1, 1) := by decide +kernel
theorem dX10_opens_36 : decode cX10_opens 36 = .ok (.iadd, 1) := by decide +kernel
theorem dX10_opens_37 : decode cX10_opens 37 = .ok (.putfield 337, 3) := by decide +kernel
theorem dX10_opens_40 : decode cX10_opens 40 = .ok (.aload_n 0, 1) := by decide +kernel
theorem dX10_opens_41 : decode cX10_opens 41 = .ok (.getfield 108, 3) := by decide +kernel
theorem dX10_opens_44 : decode cX10_opens 44 = .ok (.aload_n 0, 1) := by decide +kernel
theorem dX10_opens_45 : decode cX10_opens 45 = .ok (.getfield 334, 3) := by decide +kernel
theorem dX10_opens_48 : decode cX10_opens 48 = .ok (.iload_n 1, 1) := by decide +kernel
theorem dX10_opens_49 : decode cX10_opens 49 = .ok (.iastore, 1) := by decide +kernel
theorem dX10_opens_50 : decode cX10_opens 50 = .ok (.aload_n 0, 1) := by decide +kernel
theorem dX10_opens_51 : decode cX10_opens 51 = .ok (.dup, 1) := by decide +kernel
theorem dX10_opens_52 : decode cX10_opens 52 = .ok (.getfield 334, 3) := by decide +kernel
theorem dX10_opens_55 : decode cX10_opens 55 = .ok (.iconst 1, 1) := by decide +kernel
theorem dX10_opens_56 : decode cX10_opens 56 = .ok (.iadd, 1) := by decide +kernel
theorem dX10_opens_57 : decode cX10_opens 57 = .ok (.putfield 334, 3) := by decide +kernel
theorem dX10_opens_60 : decode cX10_opens 60 = .ok (.return_, 1) := by decide +kernel
theorem ce_X10_opens : CeV RX10 yX10_opens cX10_opens 2 none 1 := ⟨tb_1588, tp_76, tb_11, tb_1589, rfl, by decide, by decide, by decide +kernel⟩
set_option maxHeartbeats 4000000 in
set_option maxRecDepth 20000 in
theorem V_X10_opens (l : Launch) (D : va_G) (A : Nat → Prop) (ad : Nat → Nat) (ns : List Nat) (I : MI) (L : ML) (G : MG) (a0 : Int32) (hJ : SGM ns G) (hI : INV I) (hk : a0.toInt = 9 ∨ a0.toInt = 10 ∨ a0.toInt = 11 ∨ a0.toInt = 12) (ho : (I 1000 32).toInt ≤ 401) : Met l yX10_opens (wd yX10_opens cX10_opens 2 none) ({ frames := 1, cells := 0, slots := 0, locals := 22 }) (va_Pc [.ref (ad (1000)), .int a0] (PM D A ad ns I L G)) (va_Qv (fun u => ∃ I2 L2, u = (ad, ns, I2, L2, G) ∧ INV I2 ∧ Kp [(1042, 1043)] [(1000, 26), (1000, 30), (1000, 32)] I I2 ∧ (Imp ((I2 1000 26).toInt = 0) ((I 1000 26).toInt = 0) ∧ (I2 1000 32).toInt = (I 1000 32).toInt + 1 ∧ NS I2 = NS I + pN a0 ∧ NB I2 = NB I + pB a0)) (BM D A) A) 0 0 A := by
  refine m_ofW (by decide) (Nat.le_of_ble_eq_true rfl) ?_
  intro p e s m below meth c ls args hC hE hM hA hS hl
  obtain ⟨hx, hb, hml, hown, hts, hr, hlocks, hin⟩ := hC
  have k0 : (0 : Int32).toInt = 0 := by decide
  have k1 : (1 : Int32).toInt = 1 := by decide
  have k2 : (2 : Int32).toInt = 2 := by decide
  have k9 : (9 : Int32).toInt = 9 := by decide
  have k10 : (10 : Int32).toInt = 10 := by decide
  have k12 : (12 : Int32).toInt = 12 := by decide
  have hK : Kp [(1042, 1043)] [(1000, 26), (1000, 30), (1000, 32)] I I := Kp.rf
  have hl : lv_has ls 2 [(0, .ref (ad (1000))), (1, .int (a0))] := hl
  refine lv_iload_n hx hb dX10_opens_0 rfl (lv_at hl 1 rfl) ?_
  refine lv_bipush (v := (9)) hx hb dX10_opens_1 (by decide) ?_
  refine lv_icmp_eq (tgt := 12) hx hb dX10_opens_3 (by decide) (fun c1 => ?_) (fun c1 => ?_)
  · have hc1 := c1
    have q1 := q_eq hc1
    refine lv_aload_n hx hb dX10_opens_12 rfl (lv_at hl 0 rfl) ?_
    refine m_geti (1000) 30 hx hb hts hown hE oc10 hM hJ.1 rfl (by decide) rfl tb_1207 dX10_opens_13 ?_
    refine lv_bipush (v := (10)) hx hb dX10_opens_16 (by decide) ?_
    refine lv_icmp_ne (tgt := 30) hx hb dX10_opens_18 (by decide) (fun c2 => ?_) (fun c2 => ?_)
    · have hc2 := c2
      have q2 := q_ne hc2
      refine lv_aload_n hx hb dX10_opens_30 rfl (lv_at hl 0 rfl) ?_
      refine lv_dup hx hb dX10_opens_31 rfl ?_
      refine m_geti (1000) 30 hx hb hts hown hE oc10 hM hJ.1 rfl (by decide) rfl tb_1207 dX10_opens_32 ?_
      refine lv_iconst (v := (1)) hx hb dX10_opens_35 (by decide) ?_
      refine lv_iadd hx hb dX10_opens_36 ?_
      refine lv_topi (fun v3 ev3 => ?_)
      refine m_puti (1000) 30 hx hb hts hown hE oc10 hM hS hJ.1 rfl (by decide) rfl rfl rfl rfl tb_1207 dX10_opens_37 (fun H locs I4 eI4 hM hS => ?_)
      subst eI4
      have hI := hI.putF (n := 1000) (k := 30) (v := v3) rfl
      have hK := hK.put (n := 1000) (k := 30) (v := v3) (by first | rfl | simp [inR])
      refine lv_aload_n hx hb dX10_opens_40 rfl (lv_at hl 0 rfl) ?_
      refine m_getr (1000) 42 (1042) hx hb hts hown hE oc10 hM hJ.1 rfl (by decide) rfl (hJ.2 42 (by decide)).2 (by decide) tb_1219 dX10_opens_41 ?_
      refine lv_aload_n hx hb dX10_opens_44 rfl (lv_at hl 0 rfl) ?_
      refine m_geti (1000) 32 hx hb hts hown hE oc10 hM hJ.1 rfl (by decide) rfl tb_1209 dX10_opens_45 ?_
      have g5 := hI.get (1000) 32 (lo := 0) (hi := 402) rfl
      have z6 : (u2 I (1000) 30 (v3)) (1000) 32 = I (1000) 32 := (show (u2 I (1000) 30 (v3)) (1000) 32 = I (1000) 32 from by simp [u2_v])
      rw [z6] at g5 ⊢
      refine lv_iload_n hx hb dX10_opens_48 rfl (lv_at hl 1 rfl) ?_
      refine m_iast (1042) hx hb hE hM hS (hJ.2 42 (by decide)).1 rfl (vp_in_iff.mpr (by omega)) dX10_opens_49 (fun H locs I7 eI7 hM hS => ?_)
      subst eI7
      have hI := hI.putF (n := 1042) (k := ((I (1000) 32).toNatClampNeg)) (v := a0) rfl
      have hK := hK.put (n := 1042) (k := ((I (1000) 32).toNatClampNeg)) (v := a0) (by first | rfl | simp [inR])
      refine lv_aload_n hx hb dX10_opens_50 rfl (lv_at hl 0 rfl) ?_
      refine lv_dup hx hb dX10_opens_51 rfl ?_
      refine m_geti (1000) 32 hx hb hts hown hE oc10 hM hJ.1 rfl (by decide) rfl tb_1209 dX10_opens_52 ?_
      have z8 : (u2 (u2 I (1000) 30 (v3)) (1042) ((I (1000) 32).toNatClampNeg) (a0)) (1000) 32 = I (1000) 32 := (show (u2 (u2 I (1000) 30 (v3)) (1042) ((I (1000) 32).toNatClampNeg) (a0)) (1000) 32 = I (1000) 32 from by simp [u2_v])
      rw [z8]
      refine lv_iconst (v := (1)) hx hb dX10_opens_55 (by decide) ?_
      refine lv_iadd hx hb dX10_opens_56 ?_
      refine lv_topi (fun v9 ev9 => ?_)
      have tv9 := a_add ev9 (by omega) (by omega)
      refine m_puti (1000) 32 hx hb hts hown hE oc10 hM hS hJ.1 rfl (by decide) rfl rfl rfl rfl tb_1209 dX10_opens_57 (fun H locs I10 eI10 hM hS => ?_)
      subst eI10
      have hI := hI.put (n := 1000) (k := 32) (v := v9) (lo := 0) (hi := 402) rfl (by first | omega | decide)
      have hK := hK.put (n := 1000) (k := 32) (v := v9) (by first | rfl | simp [inR])
      have pw11 : ((u2 (u2 (u2 I (1000) 30 (v3)) (1042) ((I (1000) 32).toNatClampNeg) (a0)) (1000) 32 (v9)) (1000) 24).toInt = (I (1000) 24 : Int32).toInt := congrArg Int32.toInt ((show (u2 (u2 (u2 I (1000) 30 (v3)) (1042) ((I (1000) 32).toNatClampNeg) (a0)) (1000) 32 (v9)) (1000) 24 = I (1000) 24 from by simp [u2_v]))
      have pw12 : ((u2 (u2 (u2 I (1000) 30 (v3)) (1042) ((I (1000) 32).toNatClampNeg) (a0)) (1000) 32 (v9)) (1000) 25).toInt = (I (1000) 25 : Int32).toInt := congrArg Int32.toInt ((show (u2 (u2 (u2 I (1000) 30 (v3)) (1042) ((I (1000) 32).toNatClampNeg) (a0)) (1000) 32 (v9)) (1000) 25 = I (1000) 25 from by simp [u2_v]))
      have pw13 : ((u2 (u2 (u2 I (1000) 30 (v3)) (1042) ((I (1000) 32).toNatClampNeg) (a0)) (1000) 32 (v9)) (1000) 26).toInt = (I (1000) 26 : Int32).toInt := congrArg Int32.toInt ((show (u2 (u2 (u2 I (1000) 30 (v3)) (1042) ((I (1000) 32).toNatClampNeg) (a0)) (1000) 32 (v9)) (1000) 26 = I (1000) 26 from by simp [u2_v]))
      have pw14 : ((u2 (u2 (u2 I (1000) 30 (v3)) (1042) ((I (1000) 32).toNatClampNeg) (a0)) (1000) 32 (v9)) (1000) 27).toInt = (I (1000) 27 : Int32).toInt := congrArg Int32.toInt ((show (u2 (u2 (u2 I (1000) 30 (v3)) (1042) ((I (1000) 32).toNatClampNeg) (a0)) (1000) 32 (v9)) (1000) 27 = I (1000) 27 from by simp [u2_v]))
      have pw15 : ((u2 (u2 (u2 I (1000) 30 (v3)) (1042) ((I (1000) 32).toNatClampNeg) (a0)) (1000) 32 (v9)) (1000) 29).toInt = (I (1000) 29 : Int32).toInt := congrArg Int32.toInt ((show (u2 (u2 (u2 I (1000) 30 (v3)) (1042) ((I (1000) 32).toNatClampNeg) (a0)) (1000) 32 (v9)) (1000) 29 = I (1000) 29 from by simp [u2_v]))
      have pw16 : ((u2 (u2 (u2 I (1000) 30 (v3)) (1042) ((I (1000) 32).toNatClampNeg) (a0)) (1000) 32 (v9)) (1000) 31).toInt = (I (1000) 31 : Int32).toInt := congrArg Int32.toInt ((show (u2 (u2 (u2 I (1000) 30 (v3)) (1042) ((I (1000) 32).toNatClampNeg) (a0)) (1000) 32 (v9)) (1000) 31 = I (1000) 31 from by simp [u2_v]))
      have pw17 : ((u2 (u2 (u2 I (1000) 30 (v3)) (1042) ((I (1000) 32).toNatClampNeg) (a0)) (1000) 32 (v9)) (1000) 32).toInt = (v9 : Int32).toInt := congrArg Int32.toInt ((show (u2 (u2 (u2 I (1000) 30 (v3)) (1042) ((I (1000) 32).toNatClampNeg) (a0)) (1000) 32 (v9)) (1000) 32 = v9 from by simp [u2_v]))
      exact m_vret hx hb hr hlocks hM hS (Nat.le_of_ble_eq_true rfl) (Nat.le_of_ble_eq_true rfl) ⟨_, _, rfl, hI, hK, ⟨(fun hz => by omega), by omega, NS_pushU ((show (u2 I (1000) 30 (v3)) 1042 = I 1042 from by funext zz; simp [u2_v])) (by omega) (by omega)⟩⟩ dX10_opens_60
    · have hc2 := c2
      have q2 := q_eq hc2
      refine lv_aload_n hx hb dX10_opens_21 rfl (lv_at hl 0 rfl) ?_
      refine lv_iconst (v := (2)) hx hb dX10_opens_22 (by decide) ?_
      refine lv_aload_n hx hb dX10_opens_23 rfl (lv_at hl 0 rfl) ?_
      refine m_geti (1000) 25 hx hb hts hown hE oc10 hM hJ.1 rfl (by decide) rfl tb_1202 dX10_opens_24 ?_
      have g18 := hI.get (1000) 25 (lo := 0) (hi := 100000) rfl
      refine m_callv (m_runV (1000) (As := [.int (2), .int (I (1000) 25)]) (rest := []) hx hb hml hown hts hE hM hS hA ce_X10_fails tb_1521 (V_X10_fails l D A ad ns I L G (2) (I (1000) 25) hJ hI (by first | omega | decide) (by first | omega | decide)) rfl rfl ⟨Nat.le_of_ble_eq_true rfl, Nat.le_of_ble_eq_true rfl⟩ hJ.1 rfl rfl (by decide) rfl hl.1 rfl (Nat.le_of_ble_eq_true rfl) dX10_opens_27 ⟨Nat.le_of_ble_eq_true rfl, Nat.le_of_ble_eq_true rfl⟩) hS (fun u H locs hw hM hS => ?_)
      obtain ⟨I19, L20, rfl, hI, hkI19, xI19⟩ := hw
      have hM : Mem D A ad ns I19 L20 G H := hM
      have hK := hK.trans hkI19 rfl
      have pw21 : (I19 (1000) 24).toInt = (I (1000) 24 : Int32).toInt := congrArg Int32.toInt ((hkI19.get (1000) 24 rfl))
      have pw22 : (I19 (1000) 25).toInt = (I (1000) 25 : Int32).toInt := congrArg Int32.toInt ((hkI19.get (1000) 25 rfl))
      have pw23 : (I19 (1000) 27).toInt = (I (1000) 27 : Int32).toInt := congrArg Int32.toInt ((hkI19.get (1000) 27 rfl))
      have pw24 : (I19 (1000) 29).toInt = (I (1000) 29 : Int32).toInt := congrArg Int32.toInt ((hkI19.get (1000) 29 rfl))
      have pw25 : (I19 (1000) 31).toInt = (I (1000) 31 : Int32).toInt := congrArg Int32.toInt ((hkI19.get (1000) 31 rfl))
      have pw26 : (I19 (1000) 32).toInt = (I (1000) 32 : Int32).toInt := congrArg Int32.toInt ((hkI19.get (1000) 32 rfl))
      refine lv_aload_n hx hb dX10_opens_30 rfl (lv_at hl 0 rfl) ?_
      refine lv_dup hx hb dX10_opens_31 rfl ?_
      refine m_geti (1000) 30 hx hb hts hown hE oc10 hM hJ.1 rfl (by decide) rfl tb_1207 dX10_opens_32 ?_
      have z27 : I19 (1000) 30 = I (1000) 30 := (hkI19.get (1000) 30 rfl)
      rw [z27]
      refine lv_iconst (v := (1)) hx hb dX10_opens_35 (by decide) ?_
      refine lv_iadd hx hb dX10_opens_36 ?_
      refine lv_topi (fun v28 ev28 => ?_)
      refine m_puti (1000) 30 hx hb hts hown hE oc10 hM hS hJ.1 rfl (by decide) rfl rfl rfl rfl tb_1207 dX10_opens_37 (fun H locs I29 eI29 hM hS => ?_)
      subst eI29
      have hI := hI.putF (n := 1000) (k := 30) (v := v28) rfl
      have hK := hK.put (n := 1000) (k := 30) (v := v28) (by first | rfl | simp [inR])
      refine lv_aload_n hx hb dX10_opens_40 rfl (lv_at hl 0 rfl) ?_
      refine m_getr (1000) 42 (1042) hx hb hts hown hE oc10 hM hJ.1 rfl (by decide) rfl (hJ.2 42 (by decide)).2 (by decide) tb_1219 dX10_opens_41 ?_
      refine lv_aload_n hx hb dX10_opens_44 rfl (lv_at hl 0 rfl) ?_
      refine m_geti (1000) 32 hx hb hts hown hE oc10 hM hJ.1 rfl (by decide) rfl tb_1209 dX10_opens_45 ?_
      have g30 := hI.get (1000) 32 (lo := 0) (hi := 402) rfl
      have z31 : (u2 I19 (1000) 30 (v28)) (1000) 32 = I (1000) 32 := ((show (u2 I19 (1000) 30 (v28)) (1000) 32 = I19 (1000) 32 from by simp [u2_v])).trans (hkI19.get (1000) 32 rfl)
      rw [z31] at g30 ⊢
      refine lv_iload_n hx hb dX10_opens_48 rfl (lv_at hl 1 rfl) ?_
      refine m_iast (1042) hx hb hE hM hS (hJ.2 42 (by decide)).1 rfl (vp_in_iff.mpr (by omega)) dX10_opens_49 (fun H locs I32 eI32 hM hS => ?_)
      subst eI32
      have hI := hI.putF (n := 1042) (k := ((I (1000) 32).toNatClampNeg)) (v := a0) rfl
      have hK := hK.put (n := 1042) (k := ((I (1000) 32).toNatClampNeg)) (v := a0) (by first | rfl | simp [inR])
      refine lv_aload_n hx hb dX10_opens_50 rfl (lv_at hl 0 rfl) ?_
      refine lv_dup hx hb dX10_opens_51 rfl ?_
      refine m_geti (1000) 32 hx hb hts hown hE oc10 hM hJ.1 rfl (by decide) rfl tb_1209 dX10_opens_52 ?_
      have z33 : (u2 (u2 I19 (1000) 30 (v28)) (1042) ((I (1000) 32).toNatClampNeg) (a0)) (1000) 32 = I (1000) 32 := ((show (u2 (u2 I19 (1000) 30 (v28)) (1042) ((I (1000) 32).toNatClampNeg) (a0)) (1000) 32 = I19 (1000) 32 from by simp [u2_v])).trans (hkI19.get (1000) 32 rfl)
      rw [z33]
      refine lv_iconst (v := (1)) hx hb dX10_opens_55 (by decide) ?_
      refine lv_iadd hx hb dX10_opens_56 ?_
      refine lv_topi (fun v34 ev34 => ?_)
      have tv34 := a_add ev34 (by omega) (by omega)
      refine m_puti (1000) 32 hx hb hts hown hE oc10 hM hS hJ.1 rfl (by decide) rfl rfl rfl rfl tb_1209 dX10_opens_57 (fun H locs I35 eI35 hM hS => ?_)
      subst eI35
      have hI := hI.put (n := 1000) (k := 32) (v := v34) (lo := 0) (hi := 402) rfl (by first | omega | decide)
      have hK := hK.put (n := 1000) (k := 32) (v := v34) (by first | rfl | simp [inR])
      have pw36 : ((u2 (u2 (u2 I19 (1000) 30 (v28)) (1042) ((I (1000) 32).toNatClampNeg) (a0)) (1000) 32 (v34)) (1000) 24).toInt = (I (1000) 24 : Int32).toInt := congrArg Int32.toInt (((show (u2 (u2 (u2 I19 (1000) 30 (v28)) (1042) ((I (1000) 32).toNatClampNeg) (a0)) (1000) 32 (v34)) (1000) 24 = I19 (1000) 24 from by simp [u2_v])).trans (hkI19.get (1000) 24 rfl))
      have pw37 : ((u2 (u2 (u2 I19 (1000) 30 (v28)) (1042) ((I (1000) 32).toNatClampNeg) (a0)) (1000) 32 (v34)) (1000) 25).toInt = (I (1000) 25 : Int32).toInt := congrArg Int32.toInt (((show (u2 (u2 (u2 I19 (1000) 30 (v28)) (1042) ((I (1000) 32).toNatClampNeg) (a0)) (1000) 32 (v34)) (1000) 25 = I19 (1000) 25 from by simp [u2_v])).trans (hkI19.get (1000) 25 rfl))
      have pw38 : ((u2 (u2 (u2 I19 (1000) 30 (v28)) (1042) ((I (1000) 32).toNatClampNeg) (a0)) (1000) 32 (v34)) (1000) 26).toInt = (I19 (1000) 26 : Int32).toInt := congrArg Int32.toInt ((show (u2 (u2 (u2 I19 (1000) 30 (v28)) (1042) ((I (1000) 32).toNatClampNeg) (a0)) (1000) 32 (v34)) (1000) 26 = I19 (1000) 26 from by simp [u2_v]))
      have pw39 : ((u2 (u2 (u2 I19 (1000) 30 (v28)) (1042) ((I (1000) 32).toNatClampNeg) (a0)) (1000) 32 (v34)) (1000) 27).toInt = (I (1000) 27 : Int32).toInt := congrArg Int32.toInt (((show (u2 (u2 (u2 I19 (1000) 30 (v28)) (1042) ((I (1000) 32).toNatClampNeg) (a0)) (1000) 32 (v34)) (1000) 27 = I19 (1000) 27 from by simp [u2_v])).trans (hkI19.get (1000) 27 rfl))
      have pw40 : ((u2 (u2 (u2 I19 (1000) 30 (v28)) (1042) ((I (1000) 32).toNatClampNeg) (a0)) (1000) 32 (v34)) (1000) 29).toInt = (I (1000) 29 : Int32).toInt := congrArg Int32.toInt (((show (u2 (u2 (u2 I19 (1000) 30 (v28)) (1042) ((I (1000) 32).toNatClampNeg) (a0)) (1000) 32 (v34)) (1000) 29 = I19 (1000) 29 from by simp [u2_v])).trans (hkI19.get (1000) 29 rfl))
      have pw41 : ((u2 (u2 (u2 I19 (1000) 30 (v28)) (1042) ((I (1000) 32).toNatClampNeg) (a0)) (1000) 32 (v34)) (1000) 31).toInt = (I (1000) 31 : Int32).toInt := congrArg Int32.toInt (((show (u2 (u2 (u2 I19 (1000) 30 (v28)) (1042) ((I (1000) 32).toNatClampNeg) (a0)) (1000) 32 (v34)) (1000) 31 = I19 (1000) 31 from by simp [u2_v])).trans (hkI19.get (1000) 31 rfl))
      have pw42 : ((u2 (u2 (u2 I19 (1000) 30 (v28)) (1042) ((I (1000) 32).toNatClampNeg) (a0)) (1000) 32 (v34)) (1000) 32).toInt = (v34 : Int32).toInt := congrArg Int32.toInt ((show (u2 (u2 (u2 I19 (1000) 30 (v28)) (1042) ((I (1000) 32).toNatClampNeg) (a0)) (1000) 32 (v34)) (1000) 32 = v34 from by simp [u2_v]))
      exact m_vret hx hb hr hlocks hM hS (Nat.le_of_ble_eq_true rfl) (Nat.le_of_ble_eq_true rfl) ⟨_, _, rfl, hI, hK, ⟨(fun hz => by have w0 := xI19.1 (by omega); exact w0.elim), by omega, NS_pushU (((show (u2 I19 (1000) 30 (v28)) 1042 = I19 1042 from by funext zz; simp [u2_v])).trans (hkI19.getA 1042 rfl)) (by omega) (by omega)⟩⟩ dX10_opens_60
  · have hc1 := c1
    have q1 := q_ne hc1
    refine lv_iload_n hx hb dX10_opens_6 rfl (lv_at hl 1 rfl) ?_
    refine lv_bipush (v := (12)) hx hb dX10_opens_7 (by decide) ?_
    refine lv_icmp_ne (tgt := 40) hx hb dX10_opens_9 (by decide) (fun c43 => ?_) (fun c43 => ?_)
    · have hc43 := c43
      have q43 := q_ne hc43
      refine lv_aload_n hx hb dX10_opens_40 rfl (lv_at hl 0 rfl) ?_
      refine m_getr (1000) 42 (1042) hx hb hts hown hE oc10 hM hJ.1 rfl (by decide) rfl (hJ.2 42 (by decide)).2 (by decide) tb_1219 dX10_opens_41 ?_
      refine lv_aload_n hx hb dX10_opens_44 rfl (lv_at hl 0 rfl) ?_
      refine m_geti (1000) 32 hx hb hts hown hE oc10 hM hJ.1 rfl (by decide) rfl tb_1209 dX10_opens_45 ?_
      have g44 := hI.get (1000) 32 (lo := 0) (hi := 402) rfl
      refine lv_iload_n hx hb dX10_opens_48 rfl (lv_at hl 1 rfl) ?_
      refine m_iast (1042) hx hb hE hM hS (hJ.2 42 (by decide)).1 rfl (vp_in_iff.mpr (by omega)) dX10_opens_49 (fun H locs I45 eI45 hM hS => ?_)
      subst eI45
      have hI := hI.putF (n := 1042) (k := ((I (1000) 32).toNatClampNeg)) (v := a0) rfl
      have hK := hK.put (n := 1042) (k := ((I (1000) 32).toNatClampNeg)) (v := a0) (by first | rfl | simp [inR])
      refine lv_aload_n hx hb dX10_opens_50 rfl (lv_at hl 0 rfl) ?_
      refine lv_dup hx hb dX10_opens_51 rfl ?_
      refine m_geti (1000) 32 hx hb hts hown hE oc10 hM hJ.1 rfl (by decide) rfl tb_1209 dX10_opens_52 ?_
      have z46 : (u2 I (1042) ((I (1000) 32).toNatClampNeg) (a0)) (1000) 32 = I (1000) 32 := (show (u2 I (1042) ((I (1000) 32).toNatClampNeg) (a0)) (1000) 32 = I (1000) 32 from by simp [u2_v])
      rw [z46]
      refine lv_iconst (v := (1)) hx hb dX10_opens_55 (by decide) ?_
      refine lv_iadd hx hb dX10_opens_56 ?_
      refine lv_topi (fun v47 ev47 => ?_)
      have tv47 := a_add ev47 (by omega) (by omega)
      refine m_puti (1000) 32 hx hb hts hown hE oc10 hM hS hJ.1 rfl (by decide) rfl rfl rfl rfl tb_1209 dX10_opens_57 (fun H locs I48 eI48 hM hS => ?_)
      subst eI48
      have hI := hI.put (n := 1000) (k := 32) (v := v47) (lo := 0) (hi := 402) rfl (by first | omega | decide)
      have hK := hK.put (n := 1000) (k := 32) (v := v47) (by first | rfl | simp [inR])
      have pw49 : ((u2 (u2 I (1042) ((I (1000) 32).toNatClampNeg) (a0)) (1000) 32 (v47)) (1000) 24).toInt = (I (1000) 24 : Int32).toInt := congrArg Int32.toInt ((show (u2 (u2 I (1042) ((I (1000) 32).toNatClampNeg) (a0)) (1000) 32 (v47)) (1000) 24 = I (1000) 24 from by simp [u2_v]))
      have pw50 : ((u2 (u2 I (1042) ((I (1000) 32).toNatClampNeg) (a0)) (1000) 32 (v47)) (1000) 25).toInt = (I (1000) 25 : Int32).toInt := congrArg Int32.toInt ((show (u2 (u2 I (1042) ((I (1000) 32).toNatClampNeg) (a0)) (1000) 32 (v47)) (1000) 25 = I (1000) 25 from by simp [u2_v]))
      have pw51 : ((u2 (u2 I (1042) ((I (1000) 32).toNatClampNeg) (a0)) (1000) 32 (v47)) (1000) 26).toInt = (I (1000) 26 : Int32).toInt := congrArg Int32.toInt ((show (u2 (u2 I (1042) ((I (1000) 32).toNatClampNeg) (a0)) (1000) 32 (v47)) (1000) 26 = I (1000) 26 from by simp [u2_v]))
      have pw52 : ((u2 (u2 I (1042) ((I (1000) 32).toNatClampNeg) (a0)) (1000) 32 (v47)) (1000) 27).toInt = (I (1000) 27 : Int32).toInt := congrArg Int32.toInt ((show (u2 (u2 I (1042) ((I (1000) 32).toNatClampNeg) (a0)) (1000) 32 (v47)) (1000) 27 = I (1000) 27 from by simp [u2_v]))
      have pw53 : ((u2 (u2 I (1042) ((I (1000) 32).toNatClampNeg) (a0)) (1000) 32 (v47)) (1000) 29).toInt = (I (1000) 29 : Int32).toInt := congrArg Int32.toInt ((show (u2 (u2 I (1042) ((I (1000) 32).toNatClampNeg) (a0)) (1000) 32 (v47)) (1000) 29 = I (1000) 29 from by simp [u2_v]))
      have pw54 : ((u2 (u2 I (1042) ((I (1000) 32).toNatClampNeg) (a0)) (1000) 32 (v47)) (1000) 31).toInt = (I (1000) 31 : Int32).toInt := congrArg Int32.toInt ((show (u2 (u2 I (1042) ((I (1000) 32).toNatClampNeg) (a0)) (1000) 32 (v47)) (1000) 31 = I (1000) 31 from by simp [u2_v]))
      have pw55 : ((u2 (u2 I (1042) ((I (1000) 32).toNatClampNeg) (a0)) (1000) 32 (v47)) (1000) 32).toInt = (v47 : Int32).toInt := congrArg Int32.toInt ((show (u2 (u2 I (1042) ((I (1000) 32).toNatClampNeg) (a0)) (1000) 32 (v47)) (1000) 32 = v47 from by simp [u2_v]))
      exact m_vret hx hb hr hlocks hM hS (Nat.le_of_ble_eq_true rfl) (Nat.le_of_ble_eq_true rfl) ⟨_, _, rfl, hI, hK, ⟨(fun hz => by omega), by omega, NS_pushU (rfl) (by omega) (by omega)⟩⟩ dX10_opens_60
    · have hc43 := c43
      have q43 := q_eq hc43
      refine lv_aload_n hx hb dX10_opens_12 rfl (lv_at hl 0 rfl) ?_
      refine m_geti (1000) 30 hx hb hts hown hE oc10 hM hJ.1 rfl (by decide) rfl tb_1207 dX10_opens_13 ?_
      refine lv_bipush (v := (10)) hx hb dX10_opens_16 (by decide) ?_
      refine lv_icmp_ne (tgt := 30) hx hb dX10_opens_18 (by decide) (fun c56 => ?_) (fun c56 => ?_)
      · have hc56 := c56
        have q56 := q_ne hc56
        refine lv_aload_n hx hb dX10_opens_30 rfl (lv_at hl 0 rfl) ?_
        refine lv_dup hx hb dX10_opens_31 rfl ?_
        refine m_geti (1000) 30 hx hb hts hown hE oc10 hM hJ.1 rfl (by decide) rfl tb_1207 dX10_opens_32 ?_
        refine lv_iconst (v := (1)) hx hb dX10_opens_35 (by decide) ?_
        refine lv_iadd hx hb dX10_opens_36 ?_
        refine lv_topi (fun v57 ev57 => ?_)
        refine m_puti (1000) 30 hx hb hts hown hE oc10 hM hS hJ.1 rfl (by decide) rfl rfl rfl rfl tb_1207 dX10_opens_37 (fun H locs I58 eI58 hM hS => ?_)
        subst eI58
        have hI := hI.putF (n := 1000) (k := 30) (v := v57) rfl
        have hK := hK.put (n := 1000) (k := 30) (v := v57) (by first | rfl | simp [inR])
        refine lv_aload_n hx hb dX10_opens_40 rfl (lv_at hl 0 rfl) ?_
        refine m_getr (1000) 42 (1042) hx hb hts hown hE oc10 hM hJ.1 rfl (by decide) rfl (hJ.2 42 (by decide)).2 (by decide) tb_1219 dX10_opens_41 ?_
        refine lv_aload_n hx hb dX10_opens_44 rfl (lv_at hl 0 rfl) ?_
        refine m_geti (1000) 32 hx hb hts hown hE oc10 hM hJ.1 rfl (by decide) rfl tb_1209 dX10_opens_45 ?_
        have g59 := hI.get (1000) 32 (lo := 0) (hi := 402) rfl
        have z60 : (u2 I (1000) 30 (v57)) (1000) 32 = I (1000) 32 := (show (u2 I (1000) 30 (v57)) (1000) 32 = I (1000) 32 from by simp [u2_v])
        rw [z60] at g59 ⊢
        refine lv_iload_n hx hb dX10_opens_48 rfl (lv_at hl 1 rfl) ?_
        refine m_iast (1042) hx hb hE hM hS (hJ.2 42 (by decide)).1 rfl (vp_in_iff.mpr (by omega)) dX10_opens_49 (fun H locs I61 eI61 hM hS => ?_)
        subst eI61
        have hI := hI.putF (n := 1042) (k := ((I (1000) 32).toNatClampNeg)) (v := a0) rfl
        have hK := hK.put (n := 1042) (k := ((I (1000) 32).toNatClampNeg)) (v := a0) (by first | rfl | simp [inR])
        refine lv_aload_n hx hb dX10_opens_50 rfl (lv_at hl 0 rfl) ?_
        refine lv_dup hx hb dX10_opens_51 rfl ?_
        refine m_geti (1000) 32 hx hb hts hown hE oc10 hM hJ.1 rfl (by decide) rfl tb_1209 dX10_opens_52 ?_
        have z62 : (u2 (u2 I (1000) 30 (v57)) (1042) ((I (1000) 32).toNatClampNeg) (a0)) (1000) 32 = I (1000) 32 := (show (u2 (u2 I (1000) 30 (v57)) (1042) ((I (1000) 32).toNatClampNeg) (a0)) (1000) 32 = I (1000) 32 from by simp [u2_v])
        rw [z62]
        refine lv_iconst (v := (1)) hx hb dX10_opens_55 (by decide) ?_
        refine lv_iadd hx hb dX10_opens_56 ?_
        refine lv_topi (fun v63 ev63 => ?_)
        have tv63 := a_add ev63 (by omega) (by omega)
        refine m_puti (1000) 32 hx hb hts hown hE oc10 hM hS hJ.1 rfl (by decide) rfl rfl rfl rfl tb_1209 dX10_opens_57 (fun H locs I64 eI64 hM hS => ?_)
        subst eI64
        have hI := hI.put (n := 1000) (k := 32) (v := v63) (lo := 0) (hi := 402) rfl (by first | omega | decide)
        have hK := hK.put (n := 1000) (k := 32) (v := v63) (by first | rfl | simp [inR])
        have pw65 : ((u2 (u2 (u2 I (1000) 30 (v57)) (1042) ((I (1000) 32).toNatClampNeg) (a0)) (1000) 32 (v63)) (1000) 24).toInt = (I (1000) 24 : Int32).toInt := congrArg Int32.toInt ((show (u2 (u2 (u2 I (1000) 30 (v57)) (1042) ((I (1000) 32).toNatClampNeg) (a0)) (1000) 32 (v63)) (1000) 24 = I (1000) 24 from by simp [u2_v]))
        have pw66 : ((u2 (u2 (u2 I (1000) 30 (v57)) (1042) ((I (1000) 32).toNatClampNeg) (a0)) (1000) 32 (v63)) (1000) 25).toInt = (I (1000) 25 : Int32).toInt := congrArg Int32.toInt ((show (u2 (u2 (u2 I (1000) 30 (v57)) (1042) ((I (1000) 32).toNatClampNeg) (a0)) (1000) 32 (v63)) (1000) 25 = I (1000) 25 from by simp [u2_v]))
        have pw67 : ((u2 (u2 (u2 I (1000) 30 (v57)) (1042) ((I (1000) 32).toNatClampNeg) (a0)) (1000) 32 (v63)) (1000) 26).toInt = (I (1000) 26 : Int32).toInt := congrArg Int32.toInt ((show (u2 (u2 (u2 I (1000) 30 (v57)) (1042) ((I (1000) 32).toNatClampNeg) (a0)) (1000) 32 (v63)) (1000) 26 = I (1000) 26 from by simp [u2_v]))
        have pw68 : ((u2 (u2 (u2 I (1000) 30 (v57)) (1042) ((I (1000) 32).toNatClampNeg) (a0)) (1000) 32 (v63)) (1000) 27).toInt = (I (1000) 27 : Int32).toInt := congrArg Int32.toInt ((show (u2 (u2 (u2 I (1000) 30 (v57)) (1042) ((I (1000) 32).toNatClampNeg) (a0)) (1000) 32 (v63)) (1000) 27 = I (1000) 27 from by simp [u2_v]))
        have pw69 : ((u2 (u2 (u2 I (1000) 30 (v57)) (1042) ((I (1000) 32).toNatClampNeg) (a0)) (1000) 32 (v63)) (1000) 29).toInt = (I (1000) 29 : Int32).toInt := congrArg Int32.toInt ((show (u2 (u2 (u2 I (1000) 30 (v57)) (1042) ((I (1000) 32).toNatClampNeg) (a0)) (1000) 32 (v63)) (1000) 29 = I (1000) 29 from by simp [u2_v]))
        have pw70 : ((u2 (u2 (u2 I (1000) 30 (v57)) (1042) ((I (1000) 32).toNatClampNeg) (a0)) (1000) 32 (v63)) (1000) 31).toInt = (I (1000) 31 : Int32).toInt := congrArg Int32.toInt ((show (u2 (u2 (u2 I (1000) 30 (v57)) (1042) ((I (1000) 32).toNatClampNeg) (a0)) (1000) 32 (v63)) (1000) 31 = I (1000) 31 from by simp [u2_v]))
        have pw71 : ((u2 (u2 (u2 I (1000) 30 (v57)) (1042) ((I (1000) 32).toNatClampNeg) (a0)) (1000) 32 (v63)) (1000) 32).toInt = (v63 : Int32).toInt := congrArg Int32.toInt ((show (u2 (u2 (u2 I (1000) 30 (v57)) (1042) ((I (1000) 32).toNatClampNeg) (a0)) (1000) 32 (v63)) (1000) 32 = v63 from by simp [u2_v]))
        exact m_vret hx hb hr hlocks hM hS (Nat.le_of_ble_eq_true rfl) (Nat.le_of_ble_eq_true rfl) ⟨_, _, rfl, hI, hK, ⟨(fun hz => by omega), by omega, NS_pushU ((show (u2 I (1000) 30 (v57)) 1042 = I 1042 from by funext zz; simp [u2_v])) (by omega) (by omega)⟩⟩ dX10_opens_60
      · have hc56 := c56
        have q56 := q_eq hc56
        refine lv_aload_n hx hb dX10_opens_21 rfl (lv_at hl 0 rfl) ?_
        refine lv_iconst (v := (2)) hx hb dX10_opens_22 (by decide) ?_
        refine lv_aload_n hx hb dX10_opens_23 rfl (lv_at hl 0 rfl) ?_
        refine m_geti (1000) 25 hx hb hts hown hE oc10 hM hJ.1 rfl (by decide) rfl tb_1202 dX10_opens_24 ?_
        have g72 := hI.get (1000) 25 (lo := 0) (hi := 100000) rfl
        refine m_callv (m_runV (1000) (As := [.int (2), .int (I (1000) 25)]) (rest := []) hx hb hml hown hts hE hM hS hA ce_X10_fails tb_1521 (V_X10_fails l D A ad ns I L G (2) (I (1000) 25) hJ hI (by first | omega | decide) (by first | omega | decide)) rfl rfl ⟨Nat.le_of_ble_eq_true rfl, Nat.le_of_ble_eq_true rfl⟩ hJ.1 rfl rfl (by decide) rfl hl.1 rfl (Nat.le_of_ble_eq_true rfl) dX10_opens_27 ⟨Nat.le_of_ble_eq_true rfl, Nat.le_of_ble_eq_true rfl⟩) hS (fun u H locs hw hM hS => ?_)
        obtain ⟨I73, L74, rfl, hI, hkI73, xI73⟩ := hw
        have hM : Mem D A ad ns I73 L74 G H := hM
        have hK := hK.trans hkI73 rfl
        have pw75 : (I73 (1000) 24).toInt = (I (1000) 24 : Int32).toInt := congrArg Int32.toInt ((hkI73.get (1000) 24 rfl))
        have pw76 : (I73 (1000) 25).toInt = (I (1000) 25 : Int32).toInt := congrArg Int32.toInt ((hkI73.get (1000) 25 rfl))
        have pw77 : (I73 (1000) 27).toInt = (I (1000) 27 : Int32).toInt := congrArg Int32.toInt ((hkI73.get (1000) 27 rfl))
        have pw78 : (I73 (1000) 29).toInt = (I (1000) 29 : Int32).toInt := congrArg Int32.toInt ((hkI73.get (1000) 29 rfl))
        have pw79 : (I73 (1000) 31).toInt = (I (1000) 31 : Int32).toInt := congrArg Int32.toInt ((hkI73.get (1000) 31 rfl))
        have pw80 : (I73 (1000) 32).toInt = (I (1000) 32 : Int32).toInt := congrArg Int32.toInt ((hkI73.get (1000) 32 rfl))
        refine lv_aload_n hx hb dX10_opens_30 rfl (lv_at hl 0 rfl) ?_
        refine lv_dup hx hb dX10_opens_31 rfl ?_
        refine m_geti (1000) 30 hx hb hts hown hE oc10 hM hJ.1 rfl (by decide) rfl tb_1207 dX10_opens_32 ?_
        have z81 : I73 (1000) 30 = I (1000) 30 := (hkI73.get (1000) 30 rfl)
        rw [z81]
        refine lv_iconst (v := (1)) hx hb dX10_opens_35 (by decide) ?_
        refine lv_iadd hx hb dX10_opens_36 ?_
        refine lv_topi (fun v82 ev82 => ?_)
        refine m_puti (1000) 30 hx hb hts hown hE oc10 hM hS hJ.1 rfl (by decide) rfl rfl rfl rfl tb_1207 dX10_opens_37 (fun H locs I83 eI83 hM hS => ?_)
        subst eI83
        have hI := hI.putF (n := 1000) (k := 30) (v := v82) rfl
        have hK := hK.put (n := 1000) (k := 30) (v := v82) (by first | rfl | simp [inR])
        refine lv_aload_n hx hb dX10_opens_40 rfl (lv_at hl 0 rfl) ?_
        refine m_getr (1000) 42 (1042) hx hb hts hown hE oc10 hM hJ.1 rfl (by decide) rfl (hJ.2 42 (by decide)).2 (by decide) tb_1219 dX10_opens_41 ?_
        refine lv_aload_n hx hb dX10_opens_44 rfl (lv_at hl 0 rfl) ?_
        refine m_geti (1000) 32 hx hb hts hown hE oc10 hM hJ.1 rfl (by decide) rfl tb_1209 dX10_opens_45 ?_
        have g84 := hI.get (1000) 32 (lo := 0) (hi := 402) rfl
        have z85 : (u2 I73 (1000) 30 (v82)) (1000) 32 = I (1000) 32 := ((show (u2 I73 (1000) 30 (v82)) (1000) 32 = I73 (1000) 32 from by simp [u2_v])).trans (hkI73.get (1000) 32 rfl)
        rw [z85] at g84 ⊢
        refine lv_iload_n hx hb dX10_opens_48 rfl (lv_at hl 1 rfl) ?_
        refine m_iast (1042) hx hb hE hM hS (hJ.2 42 (by decide)).1 rfl (vp_in_iff.mpr (by omega)) dX10_opens_49 (fun H locs I86 eI86 hM hS => ?_)
        subst eI86
        have hI := hI.putF (n := 1042) (k := ((I (1000) 32).toNatClampNeg)) (v := a0) rfl
        have hK := hK.put (n := 1042) (k := ((I (1000) 32).toNatClampNeg)) (v := a0) (by first | rfl | simp [inR])
        refine lv_aload_n hx hb dX10_opens_50 rfl (lv_at hl 0 rfl) ?_
        refine lv_dup hx hb dX10_opens_51 rfl ?_
        refine m_geti (1000) 32 hx hb hts hown hE oc10 hM hJ.1 rfl (by decide) rfl tb_1209 dX10_opens_52 ?_
        have z87 : (u2 (u2 I73 (1000) 30 (v82)) (1042) ((I (1000) 32).toNatClampNeg) (a0)) (1000) 32 = I (1000) 32 := ((show (u2 (u2 I73 (1000) 30 (v82)) (1042) ((I (1000) 32).toNatClampNeg) (a0)) (1000) 32 = I73 (1000) 32 from by simp [u2_v])).trans (hkI73.get (1000) 32 rfl)
        rw [z87]
        refine lv_iconst (v := (1)) hx hb dX10_opens_55 (by decide) ?_
        refine lv_iadd hx hb dX10_opens_56 ?_
        refine lv_topi (fun v88 ev88 => ?_)
        have tv88 := a_add ev88 (by omega) (by omega)
        refine m_puti (1000) 32 hx hb hts hown hE oc10 hM hS hJ.1 rfl (by decide) rfl rfl rfl rfl tb_1209 dX10_opens_57 (fun H locs I89 eI89 hM hS => ?_)
        subst eI89
        have hI := hI.put (n := 1000) (k := 32) (v := v88) (lo := 0) (hi := 402) rfl (by first | omega | decide)
        have hK := hK.put (n := 1000) (k := 32) (v := v88) (by first | rfl | simp [inR])
        have pw90 : ((u2 (u2 (u2 I73 (1000) 30 (v82)) (1042) ((I (1000) 32).toNatClampNeg) (a0)) (1000) 32 (v88)) (1000) 24).toInt = (I (1000) 24 : Int32).toInt := congrArg Int32.toInt (((show (u2 (u2 (u2 I73 (1000) 30 (v82)) (1042) ((I (1000) 32).toNatClampNeg) (a0)) (1000) 32 (v88)) (1000) 24 = I73 (1000) 24 from by simp [u2_v])).trans (hkI73.get (1000) 24 rfl))
        have pw91 : ((u2 (u2 (u2 I73 (1000) 30 (v82)) (1042) ((I (1000) 32).toNatClampNeg) (a0)) (1000) 32 (v88)) (1000) 25).toInt = (I (1000) 25 : Int32).toInt := congrArg Int32.toInt (((show (u2 (u2 (u2 I73 (1000) 30 (v82)) (1042) ((I (1000) 32).toNatClampNeg) (a0)) (1000) 32 (v88)) (1000) 25 = I73 (1000) 25 from by simp [u2_v])).trans (hkI73.get (1000) 25 rfl))
        have pw92 : ((u2 (u2 (u2 I73 (1000) 30 (v82)) (1042) ((I (1000) 32).toNatClampNeg) (a0)) (1000) 32 (v88)) (1000) 26).toInt = (I73 (1000) 26 : Int32).toInt := congrArg Int32.toInt ((show (u2 (u2 (u2 I73 (1000) 30 (v82)) (1042) ((I (1000) 32).toNatClampNeg) (a0)) (1000) 32 (v88)) (1000) 26 = I73 (1000) 26 from by simp [u2_v]))
        have pw93 : ((u2 (u2 (u2 I73 (1000) 30 (v82)) (1042) ((I (1000) 32).toNatClampNeg) (a0)) (1000) 32 (v88)) (1000) 27).toInt = (I (1000) 27 : Int32).toInt := congrArg Int32.toInt (((show (u2 (u2 (u2 I73 (1000) 30 (v82)) (1042) ((I (1000) 32).toNatClampNeg) (a0)) (1000) 32 (v88)) (1000) 27 = I73 (1000) 27 from by simp [u2_v])).trans (hkI73.get (1000) 27 rfl))
        have pw94 : ((u2 (u2 (u2 I73 (1000) 30 (v82)) (1042) ((I (1000) 32).toNatClampNeg) (a0)) (1000) 32 (v88)) (1000) 29).toInt = (I (1000) 29 : Int32).toInt := congrArg Int32.toInt (((show (u2 (u2 (u2 I73 (1000) 30 (v82)) (1042) ((I (1000) 32).toNatClampNeg) (a0)) (1000) 32 (v88)) (1000) 29 = I73 (1000) 29 from by simp [u2_v])).trans (hkI73.get (1000) 29 rfl))
        have pw95 : ((u2 (u2 (u2 I73 (1000) 30 (v82)) (1042) ((I (1000) 32).toNatClampNeg) (a0)) (1000) 32 (v88)) (1000) 31).toInt = (I (1000) 31 : Int32).toInt := congrArg Int32.toInt (((show (u2 (u2 (u2 I73 (1000) 30 (v82)) (1042) ((I (1000) 32).toNatClampNeg) (a0)) (1000) 32 (v88)) (1000) 31 = I73 (1000) 31 from by simp [u2_v])).trans (hkI73.get (1000) 31 rfl))
        have pw96 : ((u2 (u2 (u2 I73 (1000) 30 (v82)) (1042) ((I (1000) 32).toNatClampNeg) (a0)) (1000) 32 (v88)) (1000) 32).toInt = (v88 : Int32).toInt := congrArg Int32.toInt ((show (u2 (u2 (u2 I73 (1000) 30 (v82)) (1042) ((I (1000) 32).toNatClampNeg) (a0)) (1000) 32 (v88)) (1000) 32 = v88 from by simp [u2_v]))
        exact m_vret hx hb hr hlocks hM hS (Nat.le_of_ble_eq_true rfl) (Nat.le_of_ble_eq_true rfl) ⟨_, _, rfl, hI, hK, ⟨(fun hz => by have w0 := xI73.1 (by omega); exact w0.elim), by omega, NS_pushU (((show (u2 I73 (1000) 30 (v82)) 1042 = I73 1042 from by funext zz; simp [u2_v])).trans (hkI73.getA 1042 rfl)) (by omega) (by omega)⟩⟩ dX10_opens_60
theorem dX10_answers_0 : decode cX10_answers 0 = .ok (.aload_n 0, 1) := by decide +kernel
theorem dX10_answers_1 : decode cX10_answers 1 = .ok (.invokevirtual 340, 3) := by decide +kernel
theorem dX10_answers_4 : decode cX10_answers 4 = .ok (.iload_n 1, 1) := by decide +kernel
theorem dX10_answers_5 : decode cX10_answers 5 = .ok (.if_icmp .ne 49, 3) := by decide +kernel
theorem dX10_answers_8 : decode cX10_answers 8 = .ok (.aload_n 0, 1) := by decide +kernel
theorem dX10_answers_9 : decode cX10_answers 9 = .ok (.getfield 264, 3) := by decide +kernel
theorem dX10_answers_12 : decode cX10_answers 12 = .ok (.ifCond .ne 42, 3) := by decide +kernel
theorem dX10_answers_15 : decode cX10_answers 15 = .ok (.aload_n 0, 1) := by decide +kernel
theorem dX10_answers_16 : decode cX10_answers 16 = .ok (.iload_n 1, 1) := by decide +kernel
theorem dX10_answers_17 : decode cX10_answers 17 = .ok (.iconst 0, 1) := by decide +kernel
theorem dX10_answers_18 : decode cX10_answers 18 = .ok (.invokevirtual 318, 3) := by decide +kernel
theorem dX10_answers_21 : decode cX10_answers 21 = .ok (.aload_n 0, 1) := by decide +kernel
theorem dX10_answers_22 : decode cX10_answers 22 = .ok (.dup, 1) := by decide +kernel
theorem dX10_answers_23 : decode cX10_answers 23 = .ok (.getfield 334, 3) := by decide +kernel
theorem dX10_answers_26 : decode cX10_answers 26 = .ok (.iconst 1, 1) := by decide +kernel
theorem dX10_answers_27 : decode cX10_answers 27 = .ok (.isub, 1) := by decide +kernel
theorem dX10_answers_28 : decode cX10_answers 28 = .ok (.putfield 334, 3) := by decide +kernel
theorem dX10_answers_31 : decode cX10_answers 31 = .ok (.aload_n 0, 1) := by decide +kernel
theorem dX10_answers_32 : decode cX10_answers 32 = .ok (.dup, 1) := by decide +kernel
theorem dX10_answers_33 : decode cX10_answers 33 = .ok (.getfield 337, 3) := by decide +kernel
theorem dX10_answers_36 : decode cX10_answers 36 = .ok (.iload_n 1, 1) := by decide +kernel
theorem dX10_answers_37 : decode cX10_answers 37 = .ok (.bipush 9, 2) := by decide +kernel
theorem dX10_answers_39 : decode cX10_answers 39 = .ok (.if_icmp .ne 7, 3) := by decide +kernel
theorem dX10_answers_42 : decode cX10_answers 42 = .ok (.iconst 1, 1) := by decide +kernel
theorem dX10_answers_43 : decode cX10_answers 43 = .ok (.goto 4, 3) := by decide +kernel
theorem dX10_answers_46 : decode cX10_answers 46 = .ok (.iconst 0, 1) := by decide +kernel
theorem dX10_answers_47 : decode cX10_answers 47 = .ok (.isub, 1) := by decide +kernel
theorem dX10_answers_48 : decode cX10_answers 48 = .ok (.putfield 337, 3) := by decide +kernel
theorem dX10_answers_51 : decode cX10_answers 51 = .ok (.goto (-51), 3) := by decide +kernel
theorem dX10_answers_54 : decode cX10_answers 54 = .ok (.return_, 1) := by decide +kernel
theorem ce_X10_answers : CeV RX10 yX10_answers cX10_answers 2 none 1 := ⟨tb_1596, tp_78, tb_11, tb_1597, rfl, by decide, by decide, by decide +kernel⟩
set_option maxHeartbeats 4000000 in
set_option maxRecDepth 20000 in
theorem V_X10_answers (l : Launch) (D : va_G) (A : Nat → Prop) (ad : Nat → Nat) (ns : List Nat) (I : MI) (L : ML) (G : MG) (a0 : Int32) (hJ : SGM ns G) (hI : INV I) (hk : (a0.toInt = 9 ∧ pN a0 = 1 ∧ pB a0 = 0) ∨ ((a0.toInt = 10 ∨ a0.toInt = 11) ∧ pN a0 = 1 ∧ pB a0 = 1)) (hAn : Imp ((I 1000 26).toInt = 0) ((I 1000 29).toInt + (NS I : Int) ≤ 299)) : Met l yX10_answers (wd yX10_answers cX10_answers 2 none) ({ frames := 1, cells := 0, slots := 0, locals := 22 }) (va_Pc [.ref (ad (1000)), .int a0] (PM D A ad ns I L G)) (va_Qv (fun u => ∃ I2 L2, u = (ad, ns, I2, L2, G) ∧ INV I2 ∧ Kp [(1035, 1037)] [(1000, 29), (1000, 30), (1000, 32)] I I2 ∧ ((I 1000 29).toInt ≤ (I2 1000 29).toInt ∧ (I2 1000 32).toInt ≤ (I 1000 32).toInt ∧ (I2 1000 29).toInt + (NS I2 : Int) = (I 1000 29).toInt + (NS I : Int) ∧ CT I I2 (NB I + 1) (NB I2 + 1))) (BM D A) A) 0 0 A := by
  refine m_ofW (by decide) (Nat.le_of_ble_eq_true rfl) ?_
  intro p e s m below meth c ls args hC hE hM hA hS hl
  obtain ⟨hx, hb, hml, hown, hts, hr, hlocks, hin⟩ := hC
  have k0 : (0 : Int32).toInt = 0 := by decide
  have k1 : (1 : Int32).toInt = 1 := by decide
  have k9 : (9 : Int32).toInt = 9 := by decide
  have hC := CT.rf I (NB I + 1)
  have hI0 := hI
  have hK : Kp [(1035, 1037)] [(1000, 29), (1000, 30), (1000, 32)] I I := Kp.rf
  have hl : lv_has ls 2 [(0, .ref (ad (1000))), (1, .int (a0))] := hl
  have loop0 : ∀ (n : Nat)  (Ia0 : MI) (La0 : ML) (H : Heap) (locs : List Loc) (ls : Array Slot), INV Ia0 → Kp [(1035, 1037)] [(1000, 29), (1000, 30), (1000, 32)] I Ia0 → ((I 1000 29).toInt ≤ (Ia0 1000 29).toInt ∧ (Ia0 1000 32).toInt ≤ (I 1000 32).toInt ∧ (Ia0 1000 29).toInt + (NS Ia0 : Int) = (I 1000 29).toInt + (NS I : Int)) → (CT I Ia0 (NB I + 1) (NB Ia0 + 1)) → (Ia0 1000 32).toInt.toNat < n → Mem D A ad ns Ia0 La0 G H → va_S A s.heap H locs → lv_has ls 2 [(0, .ref (ad (1000))), (1, .int (a0))] → W p l e ({ frames := 1, cells := 0, slots := 0, locals := 22 } : Room) s m args below meth c H locs 0 0 (MQ below (va_Qv (fun u => ∃ I2 L2, u = (ad, ns, I2, L2, G) ∧ INV I2 ∧ Kp [(1035, 1037)] [(1000, 29), (1000, 30), (1000, 32)] I I2 ∧ ((I 1000 29).toInt ≤ (I2 1000 29).toInt ∧ (I2 1000 32).toInt ≤ (I 1000 32).toInt ∧ (I2 1000 29).toInt + (NS I2 : Int) = (I 1000 29).toInt + (NS I : Int) ∧ CT I I2 (NB I + 1) (NB I2 + 1))) (BM D A) A) args s 0 0 A) (F0 m 0 ls []) := by
    intro n
    induction n with
    | zero =>
      intro  Ia0 La0 H locs ls hI hK hlin hC hmu
      exact absurd hmu (Nat.not_lt_zero _)
    | succ n ih0 =>
      intro  Ia0 La0 H locs ls hI hK hlin hC hmu0 hM hS hl
      have ga0 := hI.get 1000 32 (lo := 0) (hi := 402) rfl
      have gb0 := hI0.get 1000 27 (lo := 0) (hi := 5) rfl
      have gc0 := hI0.get 1000 29 (lo := 0) (hi := 300) rfl
      have pk26 := congrArg Int32.toInt (hK.get 1000 26 rfl)
      have pk27 := congrArg Int32.toInt (hK.get 1000 27 rfl)
      refine lv_aload_n hx hb dX10_answers_0 rfl (lv_at hl 0 rfl) ?_
      refine m_calli (m_runV (1000) (As := []) (rest := []) hx hb hml hown hts hE hM hS hA ce_X10_top tb_1598 (V_X10_top l D A ad ns Ia0 La0 G hJ hI) rfl rfl ⟨Nat.le_of_ble_eq_true rfl, Nat.le_of_ble_eq_true rfl⟩ hJ.1 rfl rfl (by decide) rfl hl.1 rfl (Nat.le_of_ble_eq_true rfl) dX10_answers_1 ⟨Nat.le_of_ble_eq_true rfl, Nat.le_of_ble_eq_true rfl⟩) hS (fun r1 u H locs hw hM hS => ?_)
      obtain ⟨rfl, xr1⟩ := hw
      have hM : Mem D A ad ns Ia0 La0 G H := hM
      refine lv_iload_n hx hb dX10_answers_4 rfl (lv_at hl 1 rfl) ?_
      refine lv_icmp_ne (tgt := 54) hx hb dX10_answers_5 (by decide) (fun c2 => ?_) (fun c2 => ?_)
      · have hc2 := c2
        have q2 := q_ne hc2
        exact m_vret hx hb hr hlocks hM hS (Nat.le_of_ble_eq_true rfl) (Nat.le_of_ble_eq_true rfl) ⟨_, _, rfl, hI, hK, ⟨by omega, by omega, by omega, hC⟩⟩ dX10_answers_54
      · have hc2 := c2
        have q2 := q_eq hc2
        have htk := top_k xr1 c2 (by omega)
        have htp := htk.2.2
        refine lv_aload_n hx hb dX10_answers_8 rfl (lv_at hl 0 rfl) ?_
        refine m_geti (1000) 26 hx hb hts hown hE oc10 hM hJ.1 rfl (by decide) rfl tb_1203 dX10_answers_9 ?_
        refine lv_if_ne (tgt := 54) hx hb dX10_answers_12 (by decide) (fun c3 => ?_) (fun c3 => ?_)
        · have hc3 := c3
          have q3 := q_ne hc3
          exact m_vret hx hb hr hlocks hM hS (Nat.le_of_ble_eq_true rfl) (Nat.le_of_ble_eq_true rfl) ⟨_, _, rfl, hI, hK, ⟨by omega, by omega, by omega, hC⟩⟩ dX10_answers_54
        · have hc3 := c3
          have q3 := q_eq hc3
          have w4 := hAn (by omega)
          refine lv_aload_n hx hb dX10_answers_15 rfl (lv_at hl 0 rfl) ?_
          refine lv_iload_n hx hb dX10_answers_16 rfl (lv_at hl 1 rfl) ?_
          refine lv_iconst (v := (0)) hx hb dX10_answers_17 (by decide) ?_
          refine m_callv (m_runV (1000) (As := [.int (a0), .int (0)]) (rest := []) hx hb hml hown hts hE hM hS hA ce_X10_entry tb_1552 (V_X10_entry l D A ad ns Ia0 La0 G (a0) (0) hJ hI (fun hz => by omega)) rfl rfl ⟨Nat.le_of_ble_eq_true rfl, Nat.le_of_ble_eq_true rfl⟩ hJ.1 rfl rfl (by decide) rfl hl.1 rfl (Nat.le_of_ble_eq_true rfl) dX10_answers_18 ⟨Nat.le_of_ble_eq_true rfl, Nat.le_of_ble_eq_true rfl⟩) hS (fun u H locs hw hM hS => ?_)
          obtain ⟨I5, L6, rfl, hI, hkI5, xI5⟩ := hw
          have hM : Mem D A ad ns I5 L6 G H := hM
          have hK := hK.trans hkI5 rfl
          have pw7 : (I5 (1000) 24).toInt = (Ia0 (1000) 24 : Int32).toInt := congrArg Int32.toInt ((hkI5.get (1000) 24 rfl))
          have pw8 : (I5 (1000) 25).toInt = (Ia0 (1000) 25 : Int32).toInt := congrArg Int32.toInt ((hkI5.get (1000) 25 rfl))
          have pw9 : (I5 (1000) 26).toInt = (Ia0 (1000) 26 : Int32).toInt := congrArg Int32.toInt ((hkI5.get (1000) 26 rfl))
          have pw10 : (I5 (1000) 27).toInt = (Ia0 (1000) 27 : Int32).toInt := congrArg Int32.toInt ((hkI5.get (1000) 27 rfl))
          have pw11 : (I5 (1000) 31).toInt = (Ia0 (1000) 31 : Int32).toInt := congrArg Int32.toInt ((hkI5.get (1000) 31 rfl))
          have pw12 : (I5 (1000) 32).toInt = (Ia0 (1000) 32 : Int32).toInt := congrArg Int32.toInt ((hkI5.get (1000) 32 rfl))
          have g13 := hI0.get 1000 27 (lo := 0) (hi := 5) rfl
          have g14 := hI0.get 1000 29 (lo := 0) (hi := 300) rfl
          replace hC := hC.comp (n2 := NB Ia0 + 1 - pB a0) (xI5.2.2.2.2.ct (by omega) (by omega) xI5.2.2.1 (by omega)) (by omega) (by omega) (by omega) (by omega) (fun hz => by omega)
          have xeI5 : Imp ((I5 1000 26).toInt = 0) ((I5 1000 29).toInt = (Ia0 1000 29).toInt + 1) := fun hz => xI5.2.2.1 (by omega)
          refine lv_aload_n hx hb dX10_answers_21 rfl (lv_at hl 0 rfl) ?_
          refine lv_dup hx hb dX10_answers_22 rfl ?_
          refine m_geti (1000) 32 hx hb hts hown hE oc10 hM hJ.1 rfl (by decide) rfl tb_1209 dX10_answers_23 ?_
          have g15 := hI.get (1000) 32 (lo := 0) (hi := 402) rfl
          have z16 : I5 (1000) 32 = Ia0 (1000) 32 := (hkI5.get (1000) 32 rfl)
          rw [z16] at g15 ⊢
          refine lv_iconst (v := (1)) hx hb dX10_answers_26 (by decide) ?_
          refine lv_isub hx hb dX10_answers_27 ?_
          refine lv_topi (fun v17 ev17 => ?_)
          have tv17 := a_sub ev17 (by omega) (by omega)
          refine m_puti (1000) 32 hx hb hts hown hE oc10 hM hS hJ.1 rfl (by decide) rfl rfl rfl rfl tb_1209 dX10_answers_28 (fun H locs I18 eI18 hM hS => ?_)
          subst eI18
          have hI := hI.put (n := 1000) (k := 32) (v := v17) (lo := 0) (hi := 402) rfl (by first | omega | decide)
          have hK := hK.put (n := 1000) (k := 32) (v := v17) (by first | rfl | simp [inR])
          refine lv_aload_n hx hb dX10_answers_31 rfl (lv_at hl 0 rfl) ?_
          refine lv_dup hx hb dX10_answers_32 rfl ?_
          refine m_geti (1000) 30 hx hb hts hown hE oc10 hM hJ.1 rfl (by decide) rfl tb_1207 dX10_answers_33 ?_
          have z19 : (u2 I5 (1000) 32 (v17)) (1000) 30 = Ia0 (1000) 30 := ((show (u2 I5 (1000) 32 (v17)) (1000) 30 = I5 (1000) 30 from by simp [u2_v])).trans (hkI5.get (1000) 30 rfl)
          rw [z19]
          refine lv_iload_n hx hb dX10_answers_36 rfl (lv_at hl 1 rfl) ?_
          refine lv_bipush (v := (9)) hx hb dX10_answers_37 (by decide) ?_
          refine lv_icmp_ne (tgt := 46) hx hb dX10_answers_39 (by decide) (fun c20 => ?_) (fun c20 => ?_)
          · have hc20 := c20
            have q20 := q_ne hc20
            refine lv_iconst (v := (0)) hx hb dX10_answers_46 (by decide) ?_
            refine lv_isub hx hb dX10_answers_47 ?_
            refine lv_topi (fun v21 ev21 => ?_)
            refine m_puti (1000) 30 hx hb hts hown hE oc10 hM hS hJ.1 rfl (by decide) rfl rfl rfl rfl tb_1207 dX10_answers_48 (fun H locs I22 eI22 hM hS => ?_)
            subst eI22
            have hI := hI.putF (n := 1000) (k := 30) (v := v21) rfl
            have hK := hK.put (n := 1000) (k := 30) (v := v21) (by first | rfl | simp [inR])
            refine lv_goto (tgt := 0) hx hb dX10_answers_51 (by decide) ?_
            have pw23 : ((u2 (u2 I5 (1000) 32 (v17)) (1000) 30 (v21)) (1000) 24).toInt = (Ia0 (1000) 24 : Int32).toInt := congrArg Int32.toInt (((show (u2 (u2 I5 (1000) 32 (v17)) (1000) 30 (v21)) (1000) 24 = I5 (1000) 24 from by simp [u2_v])).trans (hkI5.get (1000) 24 rfl))
            have pw24 : ((u2 (u2 I5 (1000) 32 (v17)) (1000) 30 (v21)) (1000) 25).toInt = (Ia0 (1000) 25 : Int32).toInt := congrArg Int32.toInt (((show (u2 (u2 I5 (1000) 32 (v17)) (1000) 30 (v21)) (1000) 25 = I5 (1000) 25 from by simp [u2_v])).trans (hkI5.get (1000) 25 rfl))
            have pw25 : ((u2 (u2 I5 (1000) 32 (v17)) (1000) 30 (v21)) (1000) 26).toInt = (Ia0 (1000) 26 : Int32).toInt := congrArg Int32.toInt (((show (u2 (u2 I5 (1000) 32 (v17)) (1000) 30 (v21)) (1000) 26 = I5 (1000) 26 from by simp [u2_v])).trans (hkI5.get (1000) 26 rfl))
            have pw26 : ((u2 (u2 I5 (1000) 32 (v17)) (1000) 30 (v21)) (1000) 27).toInt = (Ia0 (1000) 27 : Int32).toInt := congrArg Int32.toInt (((show (u2 (u2 I5 (1000) 32 (v17)) (1000) 30 (v21)) (1000) 27 = I5 (1000) 27 from by simp [u2_v])).trans (hkI5.get (1000) 27 rfl))
            have pw27 : ((u2 (u2 I5 (1000) 32 (v17)) (1000) 30 (v21)) (1000) 29).toInt = (I5 (1000) 29 : Int32).toInt := congrArg Int32.toInt ((show (u2 (u2 I5 (1000) 32 (v17)) (1000) 30 (v21)) (1000) 29 = I5 (1000) 29 from by simp [u2_v]))
            have pw28 : ((u2 (u2 I5 (1000) 32 (v17)) (1000) 30 (v21)) (1000) 31).toInt = (Ia0 (1000) 31 : Int32).toInt := congrArg Int32.toInt (((show (u2 (u2 I5 (1000) 32 (v17)) (1000) 30 (v21)) (1000) 31 = I5 (1000) 31 from by simp [u2_v])).trans (hkI5.get (1000) 31 rfl))
            have pw29 : ((u2 (u2 I5 (1000) 32 (v17)) (1000) 30 (v21)) (1000) 32).toInt = (v17 : Int32).toInt := congrArg Int32.toInt ((show (u2 (u2 I5 (1000) 32 (v17)) (1000) 30 (v21)) (1000) 32 = v17 from by simp [u2_v]))
            replace hC := CT.link (I2 := (u2 (u2 I5 (1000) 32 (v17)) (1000) 30 (v21))) hC ((show (u2 (u2 I5 (1000) 32 (v17)) (1000) 30 (v21)) 1035 = I5 1035 from by funext zz; simp [u2_v])) ((show (u2 (u2 I5 (1000) 32 (v17)) (1000) 30 (v21)) 1036 = I5 1036 from by funext zz; simp [u2_v])) (by omega) (fun hz => by have w0 := xeI5 (by omega); omega)
            have w30 := xeI5 (by omega)
            have hpk := pop_k (I := Ia0) (I2 := (u2 (u2 I5 (1000) 32 (v17)) (1000) 30 (v21))) htk.1 htk.2.1 (((show (u2 (u2 I5 (1000) 32 (v17)) (1000) 30 (v21)) 1042 = I5 1042 from by funext zz; simp [u2_v])).trans (hkI5.getA 1042 rfl)) (by omega)
            exact ih0  (u2 (u2 I5 (1000) 32 (v17)) (1000) 30 (v21)) L6 _ _ ls hI hK (by omega) (by rw [show NB (u2 (u2 I5 (1000) 32 (v17)) (1000) 30 (v21)) + 1 = NB Ia0 + 1 - pB a0 from by omega]; exact hC) (by omega) hM hS (lv_sub hl [0, 1] rfl)
          · have hc20 := c20
            have q20 := q_eq hc20
            refine lv_iconst (v := (1)) hx hb dX10_answers_42 (by decide) ?_
            refine lv_goto (tgt := 47) hx hb dX10_answers_43 (by decide) ?_
            refine lv_isub hx hb dX10_answers_47 ?_
            refine lv_topi (fun v31 ev31 => ?_)
            refine m_puti (1000) 30 hx hb hts hown hE oc10 hM hS hJ.1 rfl (by decide) rfl rfl rfl rfl tb_1207 dX10_answers_48 (fun H locs I32 eI32 hM hS => ?_)
            subst eI32
            have hI := hI.putF (n := 1000) (k := 30) (v := v31) rfl
            have hK := hK.put (n := 1000) (k := 30) (v := v31) (by first | rfl | simp [inR])
            refine lv_goto (tgt := 0) hx hb dX10_answers_51 (by decide) ?_
            have pw33 : ((u2 (u2 I5 (1000) 32 (v17)) (1000) 30 (v31)) (1000) 24).toInt = (Ia0 (1000) 24 : Int32).toInt := congrArg Int32.toInt (((show (u2 (u2 I5 (1000) 32 (v17)) (1000) 30 (v31)) (1000) 24 = I5 (1000) 24 from by simp [u2_v])).trans (hkI5.get (1000) 24 rfl))
            have pw34 : ((u2 (u2 I5 (1000) 32 (v17)) (1000) 30 (v31)) (1000) 25).toInt = (Ia0 (1000) 25 : Int32).toInt := congrArg Int32.toInt (((show (u2 (u2 I5 (1000) 32 (v17)) (1000) 30 (v31)) (1000) 25 = I5 (1000) 25 from by simp [u2_v])).trans (hkI5.get (1000) 25 rfl))
            have pw35 : ((u2 (u2 I5 (1000) 32 (v17)) (1000) 30 (v31)) (1000) 26).toInt = (Ia0 (1000) 26 : Int32).toInt := congrArg Int32.toInt (((show (u2 (u2 I5 (1000) 32 (v17)) (1000) 30 (v31)) (1000) 26 = I5 (1000) 26 from by simp [u2_v])).trans (hkI5.get (1000) 26 rfl))
            have pw36 : ((u2 (u2 I5 (1000) 32 (v17)) (1000) 30 (v31)) (1000) 27).toInt = (Ia0 (1000) 27 : Int32).toInt := congrArg Int32.toInt (((show (u2 (u2 I5 (1000) 32 (v17)) (1000) 30 (v31)) (1000) 27 = I5 (1000) 27 from by simp [u2_v])).trans (hkI5.get (1000) 27 rfl))
            have pw37 : ((u2 (u2 I5 (1000) 32 (v17)) (1000) 30 (v31)) (1000) 29).toInt = (I5 (1000) 29 : Int32).toInt := congrArg Int32.toInt ((show (u2 (u2 I5 (1000) 32 (v17)) (1000) 30 (v31)) (1000) 29 = I5 (1000) 29 from by simp [u2_v]))
            have pw38 : ((u2 (u2 I5 (1000) 32 (v17)) (1000) 30 (v31)) (1000) 31).toInt = (Ia0 (1000) 31 : Int32).toInt := congrArg Int32.toInt (((show (u2 (u2 I5 (1000) 32 (v17)) (1000) 30 (v31)) (1000) 31 = I5 (1000) 31 from by simp [u2_v])).trans (hkI5.get (1000) 31 rfl))
            have pw39 : ((u2 (u2 I5 (1000) 32 (v17)) (1000) 30 (v31)) (1000) 32).toInt = (v17 : Int32).toInt := congrArg Int32.toInt ((show (u2 (u2 I5 (1000) 32 (v17)) (1000) 30 (v31)) (1000) 32 = v17 from by simp [u2_v]))
            replace hC := CT.link (I2 := (u2 (u2 I5 (1000) 32 (v17)) (1000) 30 (v31))) hC ((show (u2 (u2 I5 (1000) 32 (v17)) (1000) 30 (v31)) 1035 = I5 1035 from by funext zz; simp [u2_v])) ((show (u2 (u2 I5 (1000) 32 (v17)) (1000) 30 (v31)) 1036 = I5 1036 from by funext zz; simp [u2_v])) (by omega) (fun hz => by have w0 := xeI5 (by omega); omega)
            have w40 := xeI5 (by omega)
            have hpk := pop_k (I := Ia0) (I2 := (u2 (u2 I5 (1000) 32 (v17)) (1000) 30 (v31))) htk.1 htk.2.1 (((show (u2 (u2 I5 (1000) 32 (v17)) (1000) 30 (v31)) 1042 = I5 1042 from by funext zz; simp [u2_v])).trans (hkI5.getA 1042 rfl)) (by omega)
            exact ih0  (u2 (u2 I5 (1000) 32 (v17)) (1000) 30 (v31)) L6 _ _ ls hI hK (by omega) (by rw [show NB (u2 (u2 I5 (1000) 32 (v17)) (1000) 30 (v31)) + 1 = NB Ia0 + 1 - pB a0 from by omega]; exact hC) (by omega) hM hS (lv_sub hl [0, 1] rfl)
  exact loop0 (_ + 1)  I L _ _ ls hI hK (by omega) hC (Nat.lt_succ_self _) hM hS (lv_sub hl [0, 1] rfl)
