set_option maxHeartbeats 4000000 in
set_option maxRecDepth 20000 in
theorem V_X10_opens_h (l : Launch) (D : va_G) (A : Nat → Prop) (ad : Nat → Nat) (ns : List Nat) (I : MI) (L : ML) (G : MG) (a0 : Int32) (hJ : SGM ns G) (hI : INV I) (hk : a0.toInt = 9 ∨ a0.toInt = 10 ∨ a0.toInt = 11 ∨ a0.toInt = 12) (ho : (I 1000 32).toInt ≤ 401) : Met l yX10_opens (wd yX10_opens cX10_opens 2 none) ({ frames := 1, cells := 0, slots := 0, locals := 22 }) (va_Pc [.ref (ad (1000)), .int a0] (PM D A ad ns I L G)) (va_Qv (fun u => ∃ I2 L2, u = (ad, ns, I2, L2, G) ∧ INV I2 ∧ Kp [(1042, 1043)] [(1000, 26), (1000, 30), (1000, 32)] I I2 ∧ (OPX I I2 a0 ∧ Imp ((I2 1000 26).toInt = 0) ((I 1000 26).toInt = 0) ∧ (I2 1000 32).toInt = (I 1000 32).toInt + 1 ∧ NS I2 = NS I + pN a0 ∧ NB I2 = NB I + pB a0)) (BM D A) A) 0 0 A := by
  refine m_ofW (by decide) (Nat.le_of_ble_eq_true rfl) ?_
  intro p e s m below meth c ls args hC hE hM hA hS hl
  obtain ⟨hx, hb, hml, hown, hts, hr, hlocks, hin⟩ := hC
  have k0 : (0 : Int32).toInt = 0 := by decide
  have k1 : (1 : Int32).toInt = 1 := by decide
  have k2 : (2 : Int32).toInt = 2 := by decide
  have k9 : (9 : Int32).toInt = 9 := by decide
  have k10 : (10 : Int32).toInt = 10 := by decide
  have k12 : (12 : Int32).toInt = 12 := by decide
  have gPP := hI.get 1000 25 (lo := 0) (hi := 100000) rfl
  have hK : Kp [(1042, 1043)] [(1000, 26), (1000, 30), (1000, 32)] I I := Kp.rf
  have hl : lv_has ls 2 [(0, .ref (ad (1000))), (1, .int (a0))] := hl
  refine lv_iload_n hx hb dX10_opens_0 rfl (lv_at hl 1 rfl) ?_
  refine lv_bipush (v := (9)) hx hb dX10_opens_1 (by decide) ?_
  refine lv_icmp_eq (tgt := 12) hx hb dX10_opens_3 (by decide) (fun c1 => ?_) (fun c1 => ?_)
  · have hc1 := c1
    have q1 := q_eq hc1
    refine lv_aload_n hx hb dX10_opens_12 rfl (lv_at hl 0 rfl) ?_
    refine m_geti (1000) 30 hx hb hts hown hE oc10 hM hJ.1 rfl (by decide) rfl tb_1207 dX10_opens_13 ?_
    refine lv_bipush (v := (10)) hx hb dX10_opens_16 (by decide) ?_
    refine lv_icmp_ne (tgt := 30) hx hb dX10_opens_18 (by decide) (fun c2 => ?_) (fun c2 => ?_)
    · have hc2 := c2
      have q2 := q_ne hc2
      refine lv_aload_n hx hb dX10_opens_30 rfl (lv_at hl 0 rfl) ?_
      refine lv_dup hx hb dX10_opens_31 rfl ?_
      refine m_geti (1000) 30 hx hb hts hown hE oc10 hM hJ.1 rfl (by decide) rfl tb_1207 dX10_opens_32 ?_
      refine lv_iconst (v := (1)) hx hb dX10_opens_35 (by decide) ?_
      refine lv_iadd hx hb dX10_opens_36 ?_
      refine lv_topi (fun v3 ev3 => ?_)
      refine m_puti (1000) 30 hx hb hts hown hE oc10 hM hS hJ.1 rfl (by decide) rfl rfl rfl rfl tb_1207 dX10_opens_37 (fun H locs I4 eI4 hM hS => ?_)
      subst eI4
      have hI := hI.putF (n := 1000) (k := 30) (v := v3) rfl
      have hK := hK.put (n := 1000) (k := 30) (v := v3) (by first | rfl | simp [inR])
      refine lv_aload_n hx hb dX10_opens_40 rfl (lv_at hl 0 rfl) ?_
      refine m_getr (1000) 42 (1042) hx hb hts hown hE oc10 hM hJ.1 rfl (by decide) rfl (hJ.2 42 (by decide)).2 (by decide) tb_1219 dX10_opens_41 ?_
      refine lv_aload_n hx hb dX10_opens_44 rfl (lv_at hl 0 rfl) ?_
      refine m_geti (1000) 32 hx hb hts hown hE oc10 hM hJ.1 rfl (by decide) rfl tb_1209 dX10_opens_45 ?_
      have g5 := hI.get (1000) 32 (lo := 0) (hi := 402) rfl
      have z6 : (u2 I (1000) 30 (v3)) (1000) 32 = I (1000) 32 := (show (u2 I (1000) 30 (v3)) (1000) 32 = I (1000) 32 from by simp [u2_v])
      rw [z6] at g5 ⊢
      refine lv_iload_n hx hb dX10_opens_48 rfl (lv_at hl 1 rfl) ?_
      refine m_iast (1042) hx hb hE hM hS (hJ.2 42 (by decide)).1 rfl (vp_in_iff.mpr (by omega)) dX10_opens_49 (fun H locs I7 eI7 hM hS => ?_)
      subst eI7
      have hI := hI.putF (n := 1042) (k := ((I (1000) 32).toNatClampNeg)) (v := a0) rfl
      have hK := hK.put (n := 1042) (k := ((I (1000) 32).toNatClampNeg)) (v := a0) (by first | rfl | simp [inR])
      refine lv_aload_n hx hb dX10_opens_50 rfl (lv_at hl 0 rfl) ?_
      refine lv_dup hx hb dX10_opens_51 rfl ?_
      refine m_geti (1000) 32 hx hb hts hown hE oc10 hM hJ.1 rfl (by decide) rfl tb_1209 dX10_opens_52 ?_
      have z8 : (u2 (u2 I (1000) 30 (v3)) (1042) ((I (1000) 32).toNatClampNeg) (a0)) (1000) 32 = I (1000) 32 := (show (u2 (u2 I (1000) 30 (v3)) (1042) ((I (1000) 32).toNatClampNeg) (a0)) (1000) 32 = I (1000) 32 from by simp [u2_v])
      rw [z8]
      refine lv_iconst (v := (1)) hx hb dX10_opens_55 (by decide) ?_
      refine lv_iadd hx hb dX10_opens_56 ?_
      refine lv_topi (fun v9 ev9 => ?_)
      have tv9 := a_add ev9 (by omega) (by omega)
      refine m_puti (1000) 32 hx hb hts hown hE oc10 hM hS hJ.1 rfl (by decide) rfl rfl rfl rfl tb_1209 dX10_opens_57 (fun H locs I10 eI10 hM hS => ?_)
      subst eI10
      have hI := hI.put (n := 1000) (k := 32) (v := v9) (lo := 0) (hi := 402) rfl (by first | omega | decide)
      have hK := hK.put (n := 1000) (k := 32) (v := v9) (by first | rfl | simp [inR])
      have pw11 : ((u2 (u2 (u2 I (1000) 30 (v3)) (1042) ((I (1000) 32).toNatClampNeg) (a0)) (1000) 32 (v9)) (1000) 24).toInt = (I (1000) 24 : Int32).toInt := congrArg Int32.toInt ((show (u2 (u2 (u2 I (1000) 30 (v3)) (1042) ((I (1000) 32).toNatClampNeg) (a0)) (1000) 32 (v9)) (1000) 24 = I (1000) 24 from by simp [u2_v]))
      have pw12 : ((u2 (u2 (u2 I (1000) 30 (v3)) (1042) ((I (1000) 32).toNatClampNeg) (a0)) (1000) 32 (v9)) (1000) 25).toInt = (I (1000) 25 : Int32).toInt := congrArg Int32.toInt ((show (u2 (u2 (u2 I (1000) 30 (v3)) (1042) ((I (1000) 32).toNatClampNeg) (a0)) (1000) 32 (v9)) (1000) 25 = I (1000) 25 from by simp [u2_v]))
      have pw13 : ((u2 (u2 (u2 I (1000) 30 (v3)) (1042) ((I (1000) 32).toNatClampNeg) (a0)) (1000) 32 (v9)) (1000) 26).toInt = (I (1000) 26 : Int32).toInt := congrArg Int32.toInt ((show (u2 (u2 (u2 I (1000) 30 (v3)) (1042) ((I (1000) 32).toNatClampNeg) (a0)) (1000) 32 (v9)) (1000) 26 = I (1000) 26 from by simp [u2_v]))
      have pw14 : ((u2 (u2 (u2 I (1000) 30 (v3)) (1042) ((I (1000) 32).toNatClampNeg) (a0)) (1000) 32 (v9)) (1000) 27).toInt = (I (1000) 27 : Int32).toInt := congrArg Int32.toInt ((show (u2 (u2 (u2 I (1000) 30 (v3)) (1042) ((I (1000) 32).toNatClampNeg) (a0)) (1000) 32 (v9)) (1000) 27 = I (1000) 27 from by simp [u2_v]))
      have pw15 : ((u2 (u2 (u2 I (1000) 30 (v3)) (1042) ((I (1000) 32).toNatClampNeg) (a0)) (1000) 32 (v9)) (1000) 29).toInt = (I (1000) 29 : Int32).toInt := congrArg Int32.toInt ((show (u2 (u2 (u2 I (1000) 30 (v3)) (1042) ((I (1000) 32).toNatClampNeg) (a0)) (1000) 32 (v9)) (1000) 29 = I (1000) 29 from by simp [u2_v]))
      have pw16 : ((u2 (u2 (u2 I (1000) 30 (v3)) (1042) ((I (1000) 32).toNatClampNeg) (a0)) (1000) 32 (v9)) (1000) 30).toInt = (v3 : Int32).toInt := congrArg Int32.toInt ((show (u2 (u2 (u2 I (1000) 30 (v3)) (1042) ((I (1000) 32).toNatClampNeg) (a0)) (1000) 32 (v9)) (1000) 30 = v3 from by simp [u2_v]))
      have pw17 : ((u2 (u2 (u2 I (1000) 30 (v3)) (1042) ((I (1000) 32).toNatClampNeg) (a0)) (1000) 32 (v9)) (1000) 31).toInt = (I (1000) 31 : Int32).toInt := congrArg Int32.toInt ((show (u2 (u2 (u2 I (1000) 30 (v3)) (1042) ((I (1000) 32).toNatClampNeg) (a0)) (1000) 32 (v9)) (1000) 31 = I (1000) 31 from by simp [u2_v]))
      have pw18 : ((u2 (u2 (u2 I (1000) 30 (v3)) (1042) ((I (1000) 32).toNatClampNeg) (a0)) (1000) 32 (v9)) (1000) 32).toInt = (v9 : Int32).toInt := congrArg Int32.toInt ((show (u2 (u2 (u2 I (1000) 30 (v3)) (1042) ((I (1000) 32).toNatClampNeg) (a0)) (1000) 32 (v9)) (1000) 32 = v9 from by simp [u2_v]))
      have z1 := tn (i := I 1000 25) (by omega)
      exact m_vret hx hb hr hlocks hM hS (Nat.le_of_ble_eq_true rfl) (Nat.le_of_ble_eq_true rfl) ⟨_, _, rfl, hI, hK, ⟨⟨RK_pushU ((show (u2 I (1000) 30 (v3)) 1042 = I 1042 from by funext zz; simp [u2_v])) (by omega) (by omega), fun _ => ⟨((show (u2 (u2 (u2 I (1000) 30 (v3)) (1042) ((I (1000) 32).toNatClampNeg) (a0)) (1000) 32 (v9)) (1000) 30 = v3 from by simp [u2_v])).trans ev3, fun hz => ⟨fun h2 => by omega, fun _ => by omega⟩⟩, fun hz => by omega⟩, (fun hz => by omega), by omega, NS_pushU ((show (u2 I (1000) 30 (v3)) 1042 = I 1042 from by funext zz; simp [u2_v])) (by omega) (by omega)⟩⟩ dX10_opens_60
    · have hc2 := c2
      have q2 := q_eq hc2
      refine lv_aload_n hx hb dX10_opens_21 rfl (lv_at hl 0 rfl) ?_
      refine lv_iconst (v := (2)) hx hb dX10_opens_22 (by decide) ?_
      refine lv_aload_n hx hb dX10_opens_23 rfl (lv_at hl 0 rfl) ?_
      refine m_geti (1000) 25 hx hb hts hown hE oc10 hM hJ.1 rfl (by decide) rfl tb_1202 dX10_opens_24 ?_
      have g19 := hI.get (1000) 25 (lo := 0) (hi := 100000) rfl
      refine m_callv (m_runV (1000) (As := [.int (2), .int (I (1000) 25)]) (rest := []) hx hb hml hown hts hE hM hS hA ce_X10_fails tb_1521 (V_X10_fails_h l D A ad ns I L G (2) (I (1000) 25) hJ hI (by first | omega | decide) (by first | omega | decide)) rfl rfl ⟨Nat.le_of_ble_eq_true rfl, Nat.le_of_ble_eq_true rfl⟩ hJ.1 rfl rfl (by decide) rfl hl.1 rfl (Nat.le_of_ble_eq_true rfl) dX10_opens_27 ⟨Nat.le_of_ble_eq_true rfl, Nat.le_of_ble_eq_true rfl⟩) hS (fun u H locs hw hM hS => ?_)
      obtain ⟨I20, L21, rfl, hI, hkI20, xI20⟩ := hw
      have hM : Mem D A ad ns I20 L21 G H := hM
      have hK := hK.trans hkI20 rfl
      have pw22 : (I20 (1000) 24).toInt = (I (1000) 24 : Int32).toInt := congrArg Int32.toInt ((hkI20.get (1000) 24 rfl))
      have pw23 : (I20 (1000) 25).toInt = (I (1000) 25 : Int32).toInt := congrArg Int32.toInt ((hkI20.get (1000) 25 rfl))
      have pw24 : (I20 (1000) 27).toInt = (I (1000) 27 : Int32).toInt := congrArg Int32.toInt ((hkI20.get (1000) 27 rfl))
      have pw25 : (I20 (1000) 29).toInt = (I (1000) 29 : Int32).toInt := congrArg Int32.toInt ((hkI20.get (1000) 29 rfl))
      have pw26 : (I20 (1000) 30).toInt = (I (1000) 30 : Int32).toInt := congrArg Int32.toInt ((hkI20.get (1000) 30 rfl))
      have pw27 : (I20 (1000) 31).toInt = (I (1000) 31 : Int32).toInt := congrArg Int32.toInt ((hkI20.get (1000) 31 rfl))
      have pw28 : (I20 (1000) 32).toInt = (I (1000) 32 : Int32).toInt := congrArg Int32.toInt ((hkI20.get (1000) 32 rfl))
      refine lv_aload_n hx hb dX10_opens_30 rfl (lv_at hl 0 rfl) ?_
      refine lv_dup hx hb dX10_opens_31 rfl ?_
      refine m_geti (1000) 30 hx hb hts hown hE oc10 hM hJ.1 rfl (by decide) rfl tb_1207 dX10_opens_32 ?_
      have z29 : I20 (1000) 30 = I (1000) 30 := (hkI20.get (1000) 30 rfl)
      rw [z29]
      refine lv_iconst (v := (1)) hx hb dX10_opens_35 (by decide) ?_
      refine lv_iadd hx hb dX10_opens_36 ?_
      refine lv_topi (fun v30 ev30 => ?_)
      refine m_puti (1000) 30 hx hb hts hown hE oc10 hM hS hJ.1 rfl (by decide) rfl rfl rfl rfl tb_1207 dX10_opens_37 (fun H locs I31 eI31 hM hS => ?_)
      subst eI31
      have hI := hI.putF (n := 1000) (k := 30) (v := v30) rfl
      have hK := hK.put (n := 1000) (k := 30) (v := v30) (by first | rfl | simp [inR])
      refine lv_aload_n hx hb dX10_opens_40 rfl (lv_at hl 0 rfl) ?_
      refine m_getr (1000) 42 (1042) hx hb hts hown hE oc10 hM hJ.1 rfl (by decide) rfl (hJ.2 42 (by decide)).2 (by decide) tb_1219 dX10_opens_41 ?_
      refine lv_aload_n hx hb dX10_opens_44 rfl (lv_at hl 0 rfl) ?_
      refine m_geti (1000) 32 hx hb hts hown hE oc10 hM hJ.1 rfl (by decide) rfl tb_1209 dX10_opens_45 ?_
      have g32 := hI.get (1000) 32 (lo := 0) (hi := 402) rfl
      have z33 : (u2 I20 (1000) 30 (v30)) (1000) 32 = I (1000) 32 := ((show (u2 I20 (1000) 30 (v30)) (1000) 32 = I20 (1000) 32 from by simp [u2_v])).trans (hkI20.get (1000) 32 rfl)
      rw [z33] at g32 ⊢
      refine lv_iload_n hx hb dX10_opens_48 rfl (lv_at hl 1 rfl) ?_
      refine m_iast (1042) hx hb hE hM hS (hJ.2 42 (by decide)).1 rfl (vp_in_iff.mpr (by omega)) dX10_opens_49 (fun H locs I34 eI34 hM hS => ?_)
      subst eI34
      have hI := hI.putF (n := 1042) (k := ((I (1000) 32).toNatClampNeg)) (v := a0) rfl
      have hK := hK.put (n := 1042) (k := ((I (1000) 32).toNatClampNeg)) (v := a0) (by first | rfl | simp [inR])
      refine lv_aload_n hx hb dX10_opens_50 rfl (lv_at hl 0 rfl) ?_
      refine lv_dup hx hb dX10_opens_51 rfl ?_
      refine m_geti (1000) 32 hx hb hts hown hE oc10 hM hJ.1 rfl (by decide) rfl tb_1209 dX10_opens_52 ?_
      have z35 : (u2 (u2 I20 (1000) 30 (v30)) (1042) ((I (1000) 32).toNatClampNeg) (a0)) (1000) 32 = I (1000) 32 := ((show (u2 (u2 I20 (1000) 30 (v30)) (1042) ((I (1000) 32).toNatClampNeg) (a0)) (1000) 32 = I20 (1000) 32 from by simp [u2_v])).trans (hkI20.get (1000) 32 rfl)
      rw [z35]
      refine lv_iconst (v := (1)) hx hb dX10_opens_55 (by decide) ?_
      refine lv_iadd hx hb dX10_opens_56 ?_
      refine lv_topi (fun v36 ev36 => ?_)
      have tv36 := a_add ev36 (by omega) (by omega)
      refine m_puti (1000) 32 hx hb hts hown hE oc10 hM hS hJ.1 rfl (by decide) rfl rfl rfl rfl tb_1209 dX10_opens_57 (fun H locs I37 eI37 hM hS => ?_)
      subst eI37
      have hI := hI.put (n := 1000) (k := 32) (v := v36) (lo := 0) (hi := 402) rfl (by first | omega | decide)
      have hK := hK.put (n := 1000) (k := 32) (v := v36) (by first | rfl | simp [inR])
      have pw38 : ((u2 (u2 (u2 I20 (1000) 30 (v30)) (1042) ((I (1000) 32).toNatClampNeg) (a0)) (1000) 32 (v36)) (1000) 24).toInt = (I (1000) 24 : Int32).toInt := (congrArg Int32.toInt ((show (u2 (u2 (u2 I20 (1000) 30 (v30)) (1042) ((I (1000) 32).toNatClampNeg) (a0)) (1000) 32 (v36)) (1000) 24 = I20 (1000) 24 from by simp [u2_v]))).trans pw22
      have pw39 : ((u2 (u2 (u2 I20 (1000) 30 (v30)) (1042) ((I (1000) 32).toNatClampNeg) (a0)) (1000) 32 (v36)) (1000) 25).toInt = (I (1000) 25 : Int32).toInt := (congrArg Int32.toInt ((show (u2 (u2 (u2 I20 (1000) 30 (v30)) (1042) ((I (1000) 32).toNatClampNeg) (a0)) (1000) 32 (v36)) (1000) 25 = I20 (1000) 25 from by simp [u2_v]))).trans pw23
      have pw40 : ((u2 (u2 (u2 I20 (1000) 30 (v30)) (1042) ((I (1000) 32).toNatClampNeg) (a0)) (1000) 32 (v36)) (1000) 26).toInt = (I20 (1000) 26 : Int32).toInt := congrArg Int32.toInt ((show (u2 (u2 (u2 I20 (1000) 30 (v30)) (1042) ((I (1000) 32).toNatClampNeg) (a0)) (1000) 32 (v36)) (1000) 26 = I20 (1000) 26 from by simp [u2_v]))
      have pw41 : ((u2 (u2 (u2 I20 (1000) 30 (v30)) (1042) ((I (1000) 32).toNatClampNeg) (a0)) (1000) 32 (v36)) (1000) 27).toInt = (I (1000) 27 : Int32).toInt := (congrArg Int32.toInt ((show (u2 (u2 (u2 I20 (1000) 30 (v30)) (1042) ((I (1000) 32).toNatClampNeg) (a0)) (1000) 32 (v36)) (1000) 27 = I20 (1000) 27 from by simp [u2_v]))).trans pw24
      have pw42 : ((u2 (u2 (u2 I20 (1000) 30 (v30)) (1042) ((I (1000) 32).toNatClampNeg) (a0)) (1000) 32 (v36)) (1000) 29).toInt = (I (1000) 29 : Int32).toInt := (congrArg Int32.toInt ((show (u2 (u2 (u2 I20 (1000) 30 (v30)) (1042) ((I (1000) 32).toNatClampNeg) (a0)) (1000) 32 (v36)) (1000) 29 = I20 (1000) 29 from by simp [u2_v]))).trans pw25
      have pw43 : ((u2 (u2 (u2 I20 (1000) 30 (v30)) (1042) ((I (1000) 32).toNatClampNeg) (a0)) (1000) 32 (v36)) (1000) 30).toInt = (v30 : Int32).toInt := congrArg Int32.toInt ((show (u2 (u2 (u2 I20 (1000) 30 (v30)) (1042) ((I (1000) 32).toNatClampNeg) (a0)) (1000) 32 (v36)) (1000) 30 = v30 from by simp [u2_v]))
      have pw44 : ((u2 (u2 (u2 I20 (1000) 30 (v30)) (1042) ((I (1000) 32).toNatClampNeg) (a0)) (1000) 32 (v36)) (1000) 31).toInt = (I (1000) 31 : Int32).toInt := (congrArg Int32.toInt ((show (u2 (u2 (u2 I20 (1000) 30 (v30)) (1042) ((I (1000) 32).toNatClampNeg) (a0)) (1000) 32 (v36)) (1000) 31 = I20 (1000) 31 from by simp [u2_v]))).trans pw27
      have pw45 : ((u2 (u2 (u2 I20 (1000) 30 (v30)) (1042) ((I (1000) 32).toNatClampNeg) (a0)) (1000) 32 (v36)) (1000) 32).toInt = (v36 : Int32).toInt := congrArg Int32.toInt ((show (u2 (u2 (u2 I20 (1000) 30 (v30)) (1042) ((I (1000) 32).toNatClampNeg) (a0)) (1000) 32 (v36)) (1000) 32 = v36 from by simp [u2_v]))
      have z1 := tn (i := I 1000 25) (by omega)
      exact m_vret hx hb hr hlocks hM hS (Nat.le_of_ble_eq_true rfl) (Nat.le_of_ble_eq_true rfl) ⟨_, _, rfl, hI, hK, ⟨⟨RK_pushU (((show (u2 I20 (1000) 30 (v30)) 1042 = I20 1042 from by funext zz; simp [u2_v])).trans (hkI20.getA 1042 rfl)) (by omega) (by omega), fun _ => ⟨((show (u2 (u2 (u2 I20 (1000) 30 (v30)) (1042) ((I (1000) 32).toNatClampNeg) (a0)) (1000) 32 (v36)) (1000) 30 = v30 from by simp [u2_v])).trans ev30, fun hz => ⟨fun _ => by have w1 := xI20.2.2.1 (by omega); omega, fun h2 => by omega⟩⟩, fun hz => by omega⟩, (fun hz => by have w0 := xI20.2.1 (by omega); exact w0.elim), by omega, NS_pushU (((show (u2 I20 (1000) 30 (v30)) 1042 = I20 1042 from by funext zz; simp [u2_v])).trans (hkI20.getA 1042 rfl)) (by omega) (by omega)⟩⟩ dX10_opens_60
  · have hc1 := c1
    have q1 := q_ne hc1
    refine lv_iload_n hx hb dX10_opens_6 rfl (lv_at hl 1 rfl) ?_
    refine lv_bipush (v := (12)) hx hb dX10_opens_7 (by decide) ?_
    refine lv_icmp_ne (tgt := 40) hx hb dX10_opens_9 (by decide) (fun c46 => ?_) (fun c46 => ?_)
    · have hc46 := c46
      have q46 := q_ne hc46
      refine lv_aload_n hx hb dX10_opens_40 rfl (lv_at hl 0 rfl) ?_
      refine m_getr (1000) 42 (1042) hx hb hts hown hE oc10 hM hJ.1 rfl (by decide) rfl (hJ.2 42 (by decide)).2 (by decide) tb_1219 dX10_opens_41 ?_
      refine lv_aload_n hx hb dX10_opens_44 rfl (lv_at hl 0 rfl) ?_
      refine m_geti (1000) 32 hx hb hts hown hE oc10 hM hJ.1 rfl (by decide) rfl tb_1209 dX10_opens_45 ?_
      have g47 := hI.get (1000) 32 (lo := 0) (hi := 402) rfl
      refine lv_iload_n hx hb dX10_opens_48 rfl (lv_at hl 1 rfl) ?_
      refine m_iast (1042) hx hb hE hM hS (hJ.2 42 (by decide)).1 rfl (vp_in_iff.mpr (by omega)) dX10_opens_49 (fun H locs I48 eI48 hM hS => ?_)
      subst eI48
      have hI := hI.putF (n := 1042) (k := ((I (1000) 32).toNatClampNeg)) (v := a0) rfl
      have hK := hK.put (n := 1042) (k := ((I (1000) 32).toNatClampNeg)) (v := a0) (by first | rfl | simp [inR])
      refine lv_aload_n hx hb dX10_opens_50 rfl (lv_at hl 0 rfl) ?_
      refine lv_dup hx hb dX10_opens_51 rfl ?_
      refine m_geti (1000) 32 hx hb hts hown hE oc10 hM hJ.1 rfl (by decide) rfl tb_1209 dX10_opens_52 ?_
      have z49 : (u2 I (1042) ((I (1000) 32).toNatClampNeg) (a0)) (1000) 32 = I (1000) 32 := (show (u2 I (1042) ((I (1000) 32).toNatClampNeg) (a0)) (1000) 32 = I (1000) 32 from by simp [u2_v])
      rw [z49]
      refine lv_iconst (v := (1)) hx hb dX10_opens_55 (by decide) ?_
      refine lv_iadd hx hb dX10_opens_56 ?_
      refine lv_topi (fun v50 ev50 => ?_)
      have tv50 := a_add ev50 (by omega) (by omega)
      refine m_puti (1000) 32 hx hb hts hown hE oc10 hM hS hJ.1 rfl (by decide) rfl rfl rfl rfl tb_1209 dX10_opens_57 (fun H locs I51 eI51 hM hS => ?_)
      subst eI51
      have hI := hI.put (n := 1000) (k := 32) (v := v50) (lo := 0) (hi := 402) rfl (by first | omega | decide)
      have hK := hK.put (n := 1000) (k := 32) (v := v50) (by first | rfl | simp [inR])
      have pw52 : ((u2 (u2 I (1042) ((I (1000) 32).toNatClampNeg) (a0)) (1000) 32 (v50)) (1000) 24).toInt = (I (1000) 24 : Int32).toInt := congrArg Int32.toInt ((show (u2 (u2 I (1042) ((I (1000) 32).toNatClampNeg) (a0)) (1000) 32 (v50)) (1000) 24 = I (1000) 24 from by simp [u2_v]))
      have pw53 : ((u2 (u2 I (1042) ((I (1000) 32).toNatClampNeg) (a0)) (1000) 32 (v50)) (1000) 25).toInt = (I (1000) 25 : Int32).toInt := congrArg Int32.toInt ((show (u2 (u2 I (1042) ((I (1000) 32).toNatClampNeg) (a0)) (1000) 32 (v50)) (1000) 25 = I (1000) 25 from by simp [u2_v]))
      have pw54 : ((u2 (u2 I (1042) ((I (1000) 32).toNatClampNeg) (a0)) (1000) 32 (v50)) (1000) 26).toInt = (I (1000) 26 : Int32).toInt := congrArg Int32.toInt ((show (u2 (u2 I (1042) ((I (1000) 32).toNatClampNeg) (a0)) (1000) 32 (v50)) (1000) 26 = I (1000) 26 from by simp [u2_v]))
      have pw55 : ((u2 (u2 I (1042) ((I (1000) 32).toNatClampNeg) (a0)) (1000) 32 (v50)) (1000) 27).toInt = (I (1000) 27 : Int32).toInt := congrArg Int32.toInt ((show (u2 (u2 I (1042) ((I (1000) 32).toNatClampNeg) (a0)) (1000) 32 (v50)) (1000) 27 = I (1000) 27 from by simp [u2_v]))
      have pw56 : ((u2 (u2 I (1042) ((I (1000) 32).toNatClampNeg) (a0)) (1000) 32 (v50)) (1000) 29).toInt = (I (1000) 29 : Int32).toInt := congrArg Int32.toInt ((show (u2 (u2 I (1042) ((I (1000) 32).toNatClampNeg) (a0)) (1000) 32 (v50)) (1000) 29 = I (1000) 29 from by simp [u2_v]))
      have pw57 : ((u2 (u2 I (1042) ((I (1000) 32).toNatClampNeg) (a0)) (1000) 32 (v50)) (1000) 30).toInt = (I (1000) 30 : Int32).toInt := congrArg Int32.toInt ((show (u2 (u2 I (1042) ((I (1000) 32).toNatClampNeg) (a0)) (1000) 32 (v50)) (1000) 30 = I (1000) 30 from by simp [u2_v]))
      have pw58 : ((u2 (u2 I (1042) ((I (1000) 32).toNatClampNeg) (a0)) (1000) 32 (v50)) (1000) 31).toInt = (I (1000) 31 : Int32).toInt := congrArg Int32.toInt ((show (u2 (u2 I (1042) ((I (1000) 32).toNatClampNeg) (a0)) (1000) 32 (v50)) (1000) 31 = I (1000) 31 from by simp [u2_v]))
      have pw59 : ((u2 (u2 I (1042) ((I (1000) 32).toNatClampNeg) (a0)) (1000) 32 (v50)) (1000) 32).toInt = (v50 : Int32).toInt := congrArg Int32.toInt ((show (u2 (u2 I (1042) ((I (1000) 32).toNatClampNeg) (a0)) (1000) 32 (v50)) (1000) 32 = v50 from by simp [u2_v]))
      have z1 := tn (i := I 1000 25) (by omega)
      exact m_vret hx hb hr hlocks hM hS (Nat.le_of_ble_eq_true rfl) (Nat.le_of_ble_eq_true rfl) ⟨_, _, rfl, hI, hK, ⟨⟨RK_pushU (rfl) (by omega) (by omega), fun hz => by omega, fun _ => ⟨(show (u2 (u2 I (1042) ((I (1000) 32).toNatClampNeg) (a0)) (1000) 32 (v50)) (1000) 30 = I (1000) 30 from by simp [u2_v]), by omega⟩⟩, (fun hz => by omega), by omega, NS_pushU (rfl) (by omega) (by omega)⟩⟩ dX10_opens_60
    · have hc46 := c46
      have q46 := q_eq hc46
      refine lv_aload_n hx hb dX10_opens_12 rfl (lv_at hl 0 rfl) ?_
      refine m_geti (1000) 30 hx hb hts hown hE oc10 hM hJ.1 rfl (by decide) rfl tb_1207 dX10_opens_13 ?_
      refine lv_bipush (v := (10)) hx hb dX10_opens_16 (by decide) ?_
      refine lv_icmp_ne (tgt := 30) hx hb dX10_opens_18 (by decide) (fun c60 => ?_) (fun c60 => ?_)
      · have hc60 := c60
        have q60 := q_ne hc60
        refine lv_aload_n hx hb dX10_opens_30 rfl (lv_at hl 0 rfl) ?_
        refine lv_dup hx hb dX10_opens_31 rfl ?_
        refine m_geti (1000) 30 hx hb hts hown hE oc10 hM hJ.1 rfl (by decide) rfl tb_1207 dX10_opens_32 ?_
        refine lv_iconst (v := (1)) hx hb dX10_opens_35 (by decide) ?_
        refine lv_iadd hx hb dX10_opens_36 ?_
        refine lv_topi (fun v61 ev61 => ?_)
        refine m_puti (1000) 30 hx hb hts hown hE oc10 hM hS hJ.1 rfl (by decide) rfl rfl rfl rfl tb_1207 dX10_opens_37 (fun H locs I62 eI62 hM hS => ?_)
        subst eI62
        have hI := hI.putF (n := 1000) (k := 30) (v := v61) rfl
        have hK := hK.put (n := 1000) (k := 30) (v := v61) (by first | rfl | simp [inR])
        refine lv_aload_n hx hb dX10_opens_40 rfl (lv_at hl 0 rfl) ?_
        refine m_getr (1000) 42 (1042) hx hb hts hown hE oc10 hM hJ.1 rfl (by decide) rfl (hJ.2 42 (by decide)).2 (by decide) tb_1219 dX10_opens_41 ?_
        refine lv_aload_n hx hb dX10_opens_44 rfl (lv_at hl 0 rfl) ?_
        refine m_geti (1000) 32 hx hb hts hown hE oc10 hM hJ.1 rfl (by decide) rfl tb_1209 dX10_opens_45 ?_
        have g63 := hI.get (1000) 32 (lo := 0) (hi := 402) rfl
        have z64 : (u2 I (1000) 30 (v61)) (1000) 32 = I (1000) 32 := (show (u2 I (1000) 30 (v61)) (1000) 32 = I (1000) 32 from by simp [u2_v])
        rw [z64] at g63 ⊢
        refine lv_iload_n hx hb dX10_opens_48 rfl (lv_at hl 1 rfl) ?_
        refine m_iast (1042) hx hb hE hM hS (hJ.2 42 (by decide)).1 rfl (vp_in_iff.mpr (by omega)) dX10_opens_49 (fun H locs I65 eI65 hM hS => ?_)
        subst eI65
        have hI := hI.putF (n := 1042) (k := ((I (1000) 32).toNatClampNeg)) (v := a0) rfl
        have hK := hK.put (n := 1042) (k := ((I (1000) 32).toNatClampNeg)) (v := a0) (by first | rfl | simp [inR])
        refine lv_aload_n hx hb dX10_opens_50 rfl (lv_at hl 0 rfl) ?_
        refine lv_dup hx hb dX10_opens_51 rfl ?_
        refine m_geti (1000) 32 hx hb hts hown hE oc10 hM hJ.1 rfl (by decide) rfl tb_1209 dX10_opens_52 ?_
        have z66 : (u2 (u2 I (1000) 30 (v61)) (1042) ((I (1000) 32).toNatClampNeg) (a0)) (1000) 32 = I (1000) 32 := (show (u2 (u2 I (1000) 30 (v61)) (1042) ((I (1000) 32).toNatClampNeg) (a0)) (1000) 32 = I (1000) 32 from by simp [u2_v])
        rw [z66]
        refine lv_iconst (v := (1)) hx hb dX10_opens_55 (by decide) ?_
        refine lv_iadd hx hb dX10_opens_56 ?_
        refine lv_topi (fun v67 ev67 => ?_)
        have tv67 := a_add ev67 (by omega) (by omega)
        refine m_puti (1000) 32 hx hb hts hown hE oc10 hM hS hJ.1 rfl (by decide) rfl rfl rfl rfl tb_1209 dX10_opens_57 (fun H locs I68 eI68 hM hS => ?_)
        subst eI68
        have hI := hI.put (n := 1000) (k := 32) (v := v67) (lo := 0) (hi := 402) rfl (by first | omega | decide)
        have hK := hK.put (n := 1000) (k := 32) (v := v67) (by first | rfl | simp [inR])
        have pw69 : ((u2 (u2 (u2 I (1000) 30 (v61)) (1042) ((I (1000) 32).toNatClampNeg) (a0)) (1000) 32 (v67)) (1000) 24).toInt = (I (1000) 24 : Int32).toInt := congrArg Int32.toInt ((show (u2 (u2 (u2 I (1000) 30 (v61)) (1042) ((I (1000) 32).toNatClampNeg) (a0)) (1000) 32 (v67)) (1000) 24 = I (1000) 24 from by simp [u2_v]))
        have pw70 : ((u2 (u2 (u2 I (1000) 30 (v61)) (1042) ((I (1000) 32).toNatClampNeg) (a0)) (1000) 32 (v67)) (1000) 25).toInt = (I (1000) 25 : Int32).toInt := congrArg Int32.toInt ((show (u2 (u2 (u2 I (1000) 30 (v61)) (1042) ((I (1000) 32).toNatClampNeg) (a0)) (1000) 32 (v67)) (1000) 25 = I (1000) 25 from by simp [u2_v]))
        have pw71 : ((u2 (u2 (u2 I (1000) 30 (v61)) (1042) ((I (1000) 32).toNatClampNeg) (a0)) (1000) 32 (v67)) (1000) 26).toInt = (I (1000) 26 : Int32).toInt := congrArg Int32.toInt ((show (u2 (u2 (u2 I (1000) 30 (v61)) (1042) ((I (1000) 32).toNatClampNeg) (a0)) (1000) 32 (v67)) (1000) 26 = I (1000) 26 from by simp [u2_v]))
        have pw72 : ((u2 (u2 (u2 I (1000) 30 (v61)) (1042) ((I (1000) 32).toNatClampNeg) (a0)) (1000) 32 (v67)) (1000) 27).toInt = (I (1000) 27 : Int32).toInt := congrArg Int32.toInt ((show (u2 (u2 (u2 I (1000) 30 (v61)) (1042) ((I (1000) 32).toNatClampNeg) (a0)) (1000) 32 (v67)) (1000) 27 = I (1000) 27 from by simp [u2_v]))
        have pw73 : ((u2 (u2 (u2 I (1000) 30 (v61)) (1042) ((I (1000) 32).toNatClampNeg) (a0)) (1000) 32 (v67)) (1000) 29).toInt = (I (1000) 29 : Int32).toInt := congrArg Int32.toInt ((show (u2 (u2 (u2 I (1000) 30 (v61)) (1042) ((I (1000) 32).toNatClampNeg) (a0)) (1000) 32 (v67)) (1000) 29 = I (1000) 29 from by simp [u2_v]))
        have pw74 : ((u2 (u2 (u2 I (1000) 30 (v61)) (1042) ((I (1000) 32).toNatClampNeg) (a0)) (1000) 32 (v67)) (1000) 30).toInt = (v61 : Int32).toInt := congrArg Int32.toInt ((show (u2 (u2 (u2 I (1000) 30 (v61)) (1042) ((I (1000) 32).toNatClampNeg) (a0)) (1000) 32 (v67)) (1000) 30 = v61 from by simp [u2_v]))
        have pw75 : ((u2 (u2 (u2 I (1000) 30 (v61)) (1042) ((I (1000) 32).toNatClampNeg) (a0)) (1000) 32 (v67)) (1000) 31).toInt = (I (1000) 31 : Int32).toInt := congrArg Int32.toInt ((show (u2 (u2 (u2 I (1000) 30 (v61)) (1042) ((I (1000) 32).toNatClampNeg) (a0)) (1000) 32 (v67)) (1000) 31 = I (1000) 31 from by simp [u2_v]))
        have pw76 : ((u2 (u2 (u2 I (1000) 30 (v61)) (1042) ((I (1000) 32).toNatClampNeg) (a0)) (1000) 32 (v67)) (1000) 32).toInt = (v67 : Int32).toInt := congrArg Int32.toInt ((show (u2 (u2 (u2 I (1000) 30 (v61)) (1042) ((I (1000) 32).toNatClampNeg) (a0)) (1000) 32 (v67)) (1000) 32 = v67 from by simp [u2_v]))
        have z1 := tn (i := I 1000 25) (by omega)
        exact m_vret hx hb hr hlocks hM hS (Nat.le_of_ble_eq_true rfl) (Nat.le_of_ble_eq_true rfl) ⟨_, _, rfl, hI, hK, ⟨⟨RK_pushU ((show (u2 I (1000) 30 (v61)) 1042 = I 1042 from by funext zz; simp [u2_v])) (by omega) (by omega), fun _ => ⟨((show (u2 (u2 (u2 I (1000) 30 (v61)) (1042) ((I (1000) 32).toNatClampNeg) (a0)) (1000) 32 (v67)) (1000) 30 = v61 from by simp [u2_v])).trans ev61, fun hz => ⟨fun h2 => by omega, fun _ => by omega⟩⟩, fun hz => by omega⟩, (fun hz => by omega), by omega, NS_pushU ((show (u2 I (1000) 30 (v61)) 1042 = I 1042 from by funext zz; simp [u2_v])) (by omega) (by omega)⟩⟩ dX10_opens_60
      · have hc60 := c60
        have q60 := q_eq hc60
        refine lv_aload_n hx hb dX10_opens_21 rfl (lv_at hl 0 rfl) ?_
        refine lv_iconst (v := (2)) hx hb dX10_opens_22 (by decide) ?_
        refine lv_aload_n hx hb dX10_opens_23 rfl (lv_at hl 0 rfl) ?_
        refine m_geti (1000) 25 hx hb hts hown hE oc10 hM hJ.1 rfl (by decide) rfl tb_1202 dX10_opens_24 ?_
        have g77 := hI.get (1000) 25 (lo := 0) (hi := 100000) rfl
        refine m_callv (m_runV (1000) (As := [.int (2), .int (I (1000) 25)]) (rest := []) hx hb hml hown hts hE hM hS hA ce_X10_fails tb_1521 (V_X10_fails_h l D A ad ns I L G (2) (I (1000) 25) hJ hI (by first | omega | decide) (by first | omega | decide)) rfl rfl ⟨Nat.le_of_ble_eq_true rfl, Nat.le_of_ble_eq_true rfl⟩ hJ.1 rfl rfl (by decide) rfl hl.1 rfl (Nat.le_of_ble_eq_true rfl) dX10_opens_27 ⟨Nat.le_of_ble_eq_true rfl, Nat.le_of_ble_eq_true rfl⟩) hS (fun u H locs hw hM hS => ?_)
        obtain ⟨I78, L79, rfl, hI, hkI78, xI78⟩ := hw
        have hM : Mem D A ad ns I78 L79 G H := hM
        have hK := hK.trans hkI78 rfl
        have pw80 : (I78 (1000) 24).toInt = (I (1000) 24 : Int32).toInt := congrArg Int32.toInt ((hkI78.get (1000) 24 rfl))
        have pw81 : (I78 (1000) 25).toInt = (I (1000) 25 : Int32).toInt := congrArg Int32.toInt ((hkI78.get (1000) 25 rfl))
        have pw82 : (I78 (1000) 27).toInt = (I (1000) 27 : Int32).toInt := congrArg Int32.toInt ((hkI78.get (1000) 27 rfl))
        have pw83 : (I78 (1000) 29).toInt = (I (1000) 29 : Int32).toInt := congrArg Int32.toInt ((hkI78.get (1000) 29 rfl))
        have pw84 : (I78 (1000) 30).toInt = (I (1000) 30 : Int32).toInt := congrArg Int32.toInt ((hkI78.get (1000) 30 rfl))
        have pw85 : (I78 (1000) 31).toInt = (I (1000) 31 : Int32).toInt := congrArg Int32.toInt ((hkI78.get (1000) 31 rfl))
        have pw86 : (I78 (1000) 32).toInt = (I (1000) 32 : Int32).toInt := congrArg Int32.toInt ((hkI78.get (1000) 32 rfl))
        refine lv_aload_n hx hb dX10_opens_30 rfl (lv_at hl 0 rfl) ?_
        refine lv_dup hx hb dX10_opens_31 rfl ?_
        refine m_geti (1000) 30 hx hb hts hown hE oc10 hM hJ.1 rfl (by decide) rfl tb_1207 dX10_opens_32 ?_
        have z87 : I78 (1000) 30 = I (1000) 30 := (hkI78.get (1000) 30 rfl)
        rw [z87]
        refine lv_iconst (v := (1)) hx hb dX10_opens_35 (by decide) ?_
        refine lv_iadd hx hb dX10_opens_36 ?_
        refine lv_topi (fun v88 ev88 => ?_)
        refine m_puti (1000) 30 hx hb hts hown hE oc10 hM hS hJ.1 rfl (by decide) rfl rfl rfl rfl tb_1207 dX10_opens_37 (fun H locs I89 eI89 hM hS => ?_)
        subst eI89
        have hI := hI.putF (n := 1000) (k := 30) (v := v88) rfl
        have hK := hK.put (n := 1000) (k := 30) (v := v88) (by first | rfl | simp [inR])
        refine lv_aload_n hx hb dX10_opens_40 rfl (lv_at hl 0 rfl) ?_
        refine m_getr (1000) 42 (1042) hx hb hts hown hE oc10 hM hJ.1 rfl (by decide) rfl (hJ.2 42 (by decide)).2 (by decide) tb_1219 dX10_opens_41 ?_
        refine lv_aload_n hx hb dX10_opens_44 rfl (lv_at hl 0 rfl) ?_
        refine m_geti (1000) 32 hx hb hts hown hE oc10 hM hJ.1 rfl (by decide) rfl tb_1209 dX10_opens_45 ?_
        have g90 := hI.get (1000) 32 (lo := 0) (hi := 402) rfl
        have z91 : (u2 I78 (1000) 30 (v88)) (1000) 32 = I (1000) 32 := ((show (u2 I78 (1000) 30 (v88)) (1000) 32 = I78 (1000) 32 from by simp [u2_v])).trans (hkI78.get (1000) 32 rfl)
        rw [z91] at g90 ⊢
        refine lv_iload_n hx hb dX10_opens_48 rfl (lv_at hl 1 rfl) ?_
        refine m_iast (1042) hx hb hE hM hS (hJ.2 42 (by decide)).1 rfl (vp_in_iff.mpr (by omega)) dX10_opens_49 (fun H locs I92 eI92 hM hS => ?_)
        subst eI92
        have hI := hI.putF (n := 1042) (k := ((I (1000) 32).toNatClampNeg)) (v := a0) rfl
        have hK := hK.put (n := 1042) (k := ((I (1000) 32).toNatClampNeg)) (v := a0) (by first | rfl | simp [inR])
        refine lv_aload_n hx hb dX10_opens_50 rfl (lv_at hl 0 rfl) ?_
        refine lv_dup hx hb dX10_opens_51 rfl ?_
        refine m_geti (1000) 32 hx hb hts hown hE oc10 hM hJ.1 rfl (by decide) rfl tb_1209 dX10_opens_52 ?_
        have z93 : (u2 (u2 I78 (1000) 30 (v88)) (1042) ((I (1000) 32).toNatClampNeg) (a0)) (1000) 32 = I (1000) 32 := ((show (u2 (u2 I78 (1000) 30 (v88)) (1042) ((I (1000) 32).toNatClampNeg) (a0)) (1000) 32 = I78 (1000) 32 from by simp [u2_v])).trans (hkI78.get (1000) 32 rfl)
        rw [z93]
        refine lv_iconst (v := (1)) hx hb dX10_opens_55 (by decide) ?_
        refine lv_iadd hx hb dX10_opens_56 ?_
        refine lv_topi (fun v94 ev94 => ?_)
        have tv94 := a_add ev94 (by omega) (by omega)
        refine m_puti (1000) 32 hx hb hts hown hE oc10 hM hS hJ.1 rfl (by decide) rfl rfl rfl rfl tb_1209 dX10_opens_57 (fun H locs I95 eI95 hM hS => ?_)
        subst eI95
        have hI := hI.put (n := 1000) (k := 32) (v := v94) (lo := 0) (hi := 402) rfl (by first | omega | decide)
        have hK := hK.put (n := 1000) (k := 32) (v := v94) (by first | rfl | simp [inR])
        have pw96 : ((u2 (u2 (u2 I78 (1000) 30 (v88)) (1042) ((I (1000) 32).toNatClampNeg) (a0)) (1000) 32 (v94)) (1000) 24).toInt = (I (1000) 24 : Int32).toInt := (congrArg Int32.toInt ((show (u2 (u2 (u2 I78 (1000) 30 (v88)) (1042) ((I (1000) 32).toNatClampNeg) (a0)) (1000) 32 (v94)) (1000) 24 = I78 (1000) 24 from by simp [u2_v]))).trans pw80
        have pw97 : ((u2 (u2 (u2 I78 (1000) 30 (v88)) (1042) ((I (1000) 32).toNatClampNeg) (a0)) (1000) 32 (v94)) (1000) 25).toInt = (I (1000) 25 : Int32).toInt := (congrArg Int32.toInt ((show (u2 (u2 (u2 I78 (1000) 30 (v88)) (1042) ((I (1000) 32).toNatClampNeg) (a0)) (1000) 32 (v94)) (1000) 25 = I78 (1000) 25 from by simp [u2_v]))).trans pw81
        have pw98 : ((u2 (u2 (u2 I78 (1000) 30 (v88)) (1042) ((I (1000) 32).toNatClampNeg) (a0)) (1000) 32 (v94)) (1000) 26).toInt = (I78 (1000) 26 : Int32).toInt := congrArg Int32.toInt ((show (u2 (u2 (u2 I78 (1000) 30 (v88)) (1042) ((I (1000) 32).toNatClampNeg) (a0)) (1000) 32 (v94)) (1000) 26 = I78 (1000) 26 from by simp [u2_v]))
        have pw99 : ((u2 (u2 (u2 I78 (1000) 30 (v88)) (1042) ((I (1000) 32).toNatClampNeg) (a0)) (1000) 32 (v94)) (1000) 27).toInt = (I (1000) 27 : Int32).toInt := (congrArg Int32.toInt ((show (u2 (u2 (u2 I78 (1000) 30 (v88)) (1042) ((I (1000) 32).toNatClampNeg) (a0)) (1000) 32 (v94)) (1000) 27 = I78 (1000) 27 from by simp [u2_v]))).trans pw82
        have pw100 : ((u2 (u2 (u2 I78 (1000) 30 (v88)) (1042) ((I (1000) 32).toNatClampNeg) (a0)) (1000) 32 (v94)) (1000) 29).toInt = (I (1000) 29 : Int32).toInt := (congrArg Int32.toInt ((show (u2 (u2 (u2 I78 (1000) 30 (v88)) (1042) ((I (1000) 32).toNatClampNeg) (a0)) (1000) 32 (v94)) (1000) 29 = I78 (1000) 29 from by simp [u2_v]))).trans pw83
        have pw101 : ((u2 (u2 (u2 I78 (1000) 30 (v88)) (1042) ((I (1000) 32).toNatClampNeg) (a0)) (1000) 32 (v94)) (1000) 30).toInt = (v88 : Int32).toInt := congrArg Int32.toInt ((show (u2 (u2 (u2 I78 (1000) 30 (v88)) (1042) ((I (1000) 32).toNatClampNeg) (a0)) (1000) 32 (v94)) (1000) 30 = v88 from by simp [u2_v]))
        have pw102 : ((u2 (u2 (u2 I78 (1000) 30 (v88)) (1042) ((I (1000) 32).toNatClampNeg) (a0)) (1000) 32 (v94)) (1000) 31).toInt = (I (1000) 31 : Int32).toInt := (congrArg Int32.toInt ((show (u2 (u2 (u2 I78 (1000) 30 (v88)) (1042) ((I (1000) 32).toNatClampNeg) (a0)) (1000) 32 (v94)) (1000) 31 = I78 (1000) 31 from by simp [u2_v]))).trans pw85
        have pw103 : ((u2 (u2 (u2 I78 (1000) 30 (v88)) (1042) ((I (1000) 32).toNatClampNeg) (a0)) (1000) 32 (v94)) (1000) 32).toInt = (v94 : Int32).toInt := congrArg Int32.toInt ((show (u2 (u2 (u2 I78 (1000) 30 (v88)) (1042) ((I (1000) 32).toNatClampNeg) (a0)) (1000) 32 (v94)) (1000) 32 = v94 from by simp [u2_v]))
        have z1 := tn (i := I 1000 25) (by omega)
        exact m_vret hx hb hr hlocks hM hS (Nat.le_of_ble_eq_true rfl) (Nat.le_of_ble_eq_true rfl) ⟨_, _, rfl, hI, hK, ⟨⟨RK_pushU (((show (u2 I78 (1000) 30 (v88)) 1042 = I78 1042 from by funext zz; simp [u2_v])).trans (hkI78.getA 1042 rfl)) (by omega) (by omega), fun _ => ⟨((show (u2 (u2 (u2 I78 (1000) 30 (v88)) (1042) ((I (1000) 32).toNatClampNeg) (a0)) (1000) 32 (v94)) (1000) 30 = v88 from by simp [u2_v])).trans ev88, fun hz => ⟨fun _ => by have w1 := xI78.2.2.1 (by omega); omega, fun h2 => by omega⟩⟩, fun hz => by omega⟩, (fun hz => by have w0 := xI78.2.1 (by omega); exact w0.elim), by omega, NS_pushU (((show (u2 I78 (1000) 30 (v88)) 1042 = I78 1042 from by funext zz; simp [u2_v])).trans (hkI78.getA 1042 rfl)) (by omega) (by omega)⟩⟩ dX10_opens_60
set_option maxHeartbeats 4000000 in
set_option maxRecDepth 20000 in
theorem V_X10_answers_h (l : Launch) (D : va_G) (A : Nat → Prop) (ad : Nat → Nat) (ns : List Nat) (I : MI) (L : ML) (G : MG) (a0 : Int32) (hJ : SGM ns G) (hI : INV I) (hk : (a0.toInt = 9 ∧ pN a0 = 1 ∧ pB a0 = 0) ∨ ((a0.toInt = 10 ∨ a0.toInt = 11) ∧ pN a0 = 1 ∧ pB a0 = 1)) (hAn : Imp ((I 1000 26).toInt = 0) ((I 1000 29).toInt + (NS I : Int) ≤ 299)) : Met l yX10_answers (wd yX10_answers cX10_answers 2 none) ({ frames := 1, cells := 0, slots := 0, locals := 22 }) (va_Pc [.ref (ad (1000)), .int a0] (PM D A ad ns I L G)) (va_Qv (fun u => ∃ I2 L2, u = (ad, ns, I2, L2, G) ∧ INV I2 ∧ Kp [(1035, 1037)] [(1000, 29), (1000, 30), (1000, 32)] I I2 ∧ (ANX I I2 a0 ∧ (I 1000 29).toInt ≤ (I2 1000 29).toInt ∧ (I2 1000 32).toInt ≤ (I 1000 32).toInt ∧ (I2 1000 29).toInt + (NS I2 : Int) = (I 1000 29).toInt + (NS I : Int) ∧ CT I I2 (NB I + 1) (NB I2 + 1))) (BM D A) A) 0 0 A := by
  refine m_ofW (by decide) (Nat.le_of_ble_eq_true rfl) ?_
  intro p e s m below meth c ls args hC hE hM hA hS hl
  obtain ⟨hx, hb, hml, hown, hts, hr, hlocks, hin⟩ := hC
  have k0 : (0 : Int32).toInt = 0 := by decide
  have k1 : (1 : Int32).toInt = 1 := by decide
  have k9 : (9 : Int32).toInt = 9 := by decide
  have hC := CT.rf I (NB I + 1)
  have hI0 := hI
  have hK : Kp [(1035, 1037)] [(1000, 29), (1000, 30), (1000, 32)] I I := Kp.rf
  have hl : lv_has ls 2 [(0, .ref (ad (1000))), (1, .int (a0))] := hl
  have loop0 : ∀ (n : Nat)  (Ia0 : MI) (La0 : ML) (H : Heap) (locs : List Loc) (ls : Array Slot), INV Ia0 → Kp [(1035, 1037)] [(1000, 29), (1000, 30), (1000, 32)] I Ia0 → ((I 1000 29).toInt ≤ (Ia0 1000 29).toInt ∧ (Ia0 1000 32).toInt ≤ (I 1000 32).toInt ∧ (Ia0 1000 29).toInt + (NS Ia0 : Int) = (I 1000 29).toInt + (NS I : Int)) → (CT I Ia0 (NB I + 1) (NB Ia0 + 1)) → (Imp ((I 1000 26).toInt = 0) (apc (encs a0.toInt) (RK Ia0) (Ia0 1000 30) (RC Ia0) = apc (encs a0.toInt) (RK I) (I 1000 30) (RC I))) → (Ia0 1000 32).toInt.toNat < n → Mem D A ad ns Ia0 La0 G H → va_S A s.heap H locs → lv_has ls 2 [(0, .ref (ad (1000))), (1, .int (a0))] → W p l e ({ frames := 1, cells := 0, slots := 0, locals := 22 } : Room) s m args below meth c H locs 0 0 (MQ below (va_Qv (fun u => ∃ I2 L2, u = (ad, ns, I2, L2, G) ∧ INV I2 ∧ Kp [(1035, 1037)] [(1000, 29), (1000, 30), (1000, 32)] I I2 ∧ (ANX I I2 a0 ∧ (I 1000 29).toInt ≤ (I2 1000 29).toInt ∧ (I2 1000 32).toInt ≤ (I 1000 32).toInt ∧ (I2 1000 29).toInt + (NS I2 : Int) = (I 1000 29).toInt + (NS I : Int) ∧ CT I I2 (NB I + 1) (NB I2 + 1))) (BM D A) A) args s 0 0 A) (F0 m 0 ls []) := by
    intro n
    induction n with
    | zero =>
      intro  Ia0 La0 H locs ls hI hK hlin hC hap hmu
      exact absurd hmu (Nat.not_lt_zero _)
    | succ n ih0 =>
      intro  Ia0 La0 H locs ls hI hK hlin hC hap hmu0 hM hS hl
      have ga0 := hI.get 1000 32 (lo := 0) (hi := 402) rfl
      have gb0 := hI0.get 1000 27 (lo := 0) (hi := 5) rfl
      have gc0 := hI0.get 1000 29 (lo := 0) (hi := 300) rfl
      have pk26 := congrArg Int32.toInt (hK.get 1000 26 rfl)
      have pk27 := congrArg Int32.toInt (hK.get 1000 27 rfl)
      refine lv_aload_n hx hb dX10_answers_0 rfl (lv_at hl 0 rfl) ?_
      refine m_calli (m_runV (1000) (As := []) (rest := []) hx hb hml hown hts hE hM hS hA ce_X10_top tb_1598 (V_X10_top l D A ad ns Ia0 La0 G hJ hI) rfl rfl ⟨Nat.le_of_ble_eq_true rfl, Nat.le_of_ble_eq_true rfl⟩ hJ.1 rfl rfl (by decide) rfl hl.1 rfl (Nat.le_of_ble_eq_true rfl) dX10_answers_1 ⟨Nat.le_of_ble_eq_true rfl, Nat.le_of_ble_eq_true rfl⟩) hS (fun r1 u H locs hw hM hS => ?_)
      obtain ⟨rfl, xr1⟩ := hw
      have hM : Mem D A ad ns Ia0 La0 G H := hM
      refine lv_iload_n hx hb dX10_answers_4 rfl (lv_at hl 1 rfl) ?_
      refine lv_icmp_ne (tgt := 54) hx hb dX10_answers_5 (by decide) (fun c2 => ?_) (fun c2 => ?_)
      · have hc2 := c2
        have q2 := q_ne hc2
        have htv := (top_v xr1 (k := a0) (by omega)).2 c2
        exact m_vret hx hb hr hlocks hM hS (Nat.le_of_ble_eq_true rfl) (Nat.le_of_ble_eq_true rfl) ⟨_, _, rfl, hI, hK, ⟨fun hz => (hap hz).symm.trans (apc_n (fun y l h => by have w1 := htv y l h; rw [w1.2.1]; exact encs_ne (by omega) w1.2.2)), by omega, by omega, by omega, hC⟩⟩ dX10_answers_54
      · have hc2 := c2
        have q2 := q_eq hc2
        have htk := top_k xr1 c2 (by omega)
        have htp := htk.2.2
        refine lv_aload_n hx hb dX10_answers_8 rfl (lv_at hl 0 rfl) ?_
        refine m_geti (1000) 26 hx hb hts hown hE oc10 hM hJ.1 rfl (by decide) rfl tb_1203 dX10_answers_9 ?_
        refine lv_if_ne (tgt := 54) hx hb dX10_answers_12 (by decide) (fun c3 => ?_) (fun c3 => ?_)
        · have hc3 := c3
          have q3 := q_ne hc3
          exact m_vret hx hb hr hlocks hM hS (Nat.le_of_ble_eq_true rfl) (Nat.le_of_ble_eq_true rfl) ⟨_, _, rfl, hI, hK, ⟨fun hz => by exfalso; omega, by omega, by omega, by omega, hC⟩⟩ dX10_answers_54
        · have hc3 := c3
          have q3 := q_eq hc3
          have w4 := hAn (by omega)
          refine lv_aload_n hx hb dX10_answers_15 rfl (lv_at hl 0 rfl) ?_
          refine lv_iload_n hx hb dX10_answers_16 rfl (lv_at hl 1 rfl) ?_
          refine lv_iconst (v := (0)) hx hb dX10_answers_17 (by decide) ?_
          refine m_callv (m_runV (1000) (As := [.int (a0), .int (0)]) (rest := []) hx hb hml hown hts hE hM hS hA ce_X10_entry tb_1552 (V_X10_entry_h l D A ad ns Ia0 La0 G (a0) (0) hJ hI (fun hz => by omega)) rfl rfl ⟨Nat.le_of_ble_eq_true rfl, Nat.le_of_ble_eq_true rfl⟩ hJ.1 rfl rfl (by decide) rfl hl.1 rfl (Nat.le_of_ble_eq_true rfl) dX10_answers_18 ⟨Nat.le_of_ble_eq_true rfl, Nat.le_of_ble_eq_true rfl⟩) hS (fun u H locs hw hM hS => ?_)
          obtain ⟨I5, L6, rfl, hI, hkI5, xI5⟩ := hw
          have hM : Mem D A ad ns I5 L6 G H := hM
          have hK := hK.trans hkI5 rfl
          have pw7 : (I5 (1000) 24).toInt = (Ia0 (1000) 24 : Int32).toInt := congrArg Int32.toInt ((hkI5.get (1000) 24 rfl))
          have pw8 : (I5 (1000) 25).toInt = (Ia0 (1000) 25 : Int32).toInt := congrArg Int32.toInt ((hkI5.get (1000) 25 rfl))
          have pw9 : (I5 (1000) 26).toInt = (Ia0 (1000) 26 : Int32).toInt := congrArg Int32.toInt ((hkI5.get (1000) 26 rfl))
          have pw10 : (I5 (1000) 27).toInt = (Ia0 (1000) 27 : Int32).toInt := congrArg Int32.toInt ((hkI5.get (1000) 27 rfl))
          have pw11 : (I5 (1000) 30).toInt = (Ia0 (1000) 30 : Int32).toInt := congrArg Int32.toInt ((hkI5.get (1000) 30 rfl))
          have pw12 : (I5 (1000) 31).toInt = (Ia0 (1000) 31 : Int32).toInt := congrArg Int32.toInt ((hkI5.get (1000) 31 rfl))
          have pw13 : (I5 (1000) 32).toInt = (Ia0 (1000) 32 : Int32).toInt := congrArg Int32.toInt ((hkI5.get (1000) 32 rfl))
          have g14 := hI0.get 1000 27 (lo := 0) (hi := 5) rfl
          have g15 := hI0.get 1000 29 (lo := 0) (hi := 300) rfl
          replace hC := hC.comp (n2 := NB Ia0 + 1 - pB a0) (xI5.2.2.2.2.2.ct (by omega) (by omega) xI5.2.2.2.1 (by omega)) (by omega) (by omega) (by omega) (by omega) (fun hz => by omega)
          have xeI5 : Imp ((I5 1000 26).toInt = 0) ((I5 1000 29).toInt = (Ia0 1000 29).toInt + 1) := fun hz => xI5.2.2.2.1 (by omega)
          have hen16 : Imp ((Ia0 1000 26).toInt = 0) (RC I5 = RC Ia0 ++ [enc (a0 : Int32).toInt (0 : Int32).toInt]) := fun hz => RC_ent xI5.2.2.2.2.2 hz (by omega) (by omega) (xI5.2.2.2.1 hz)
          refine lv_aload_n hx hb dX10_answers_21 rfl (lv_at hl 0 rfl) ?_
          refine lv_dup hx hb dX10_answers_22 rfl ?_
          refine m_geti (1000) 32 hx hb hts hown hE oc10 hM hJ.1 rfl (by decide) rfl tb_1209 dX10_answers_23 ?_
          have g17 := hI.get (1000) 32 (lo := 0) (hi := 402) rfl
          have z18 : I5 (1000) 32 = Ia0 (1000) 32 := (hkI5.get (1000) 32 rfl)
          rw [z18] at g17 ⊢
          refine lv_iconst (v := (1)) hx hb dX10_answers_26 (by decide) ?_
          refine lv_isub hx hb dX10_answers_27 ?_
          refine lv_topi (fun v19 ev19 => ?_)
          have tv19 := a_sub ev19 (by omega) (by omega)
          refine m_puti (1000) 32 hx hb hts hown hE oc10 hM hS hJ.1 rfl (by decide) rfl rfl rfl rfl tb_1209 dX10_answers_28 (fun H locs I20 eI20 hM hS => ?_)
          subst eI20
          have hI := hI.put (n := 1000) (k := 32) (v := v19) (lo := 0) (hi := 402) rfl (by first | omega | decide)
          have hK := hK.put (n := 1000) (k := 32) (v := v19) (by first | rfl | simp [inR])
          refine lv_aload_n hx hb dX10_answers_31 rfl (lv_at hl 0 rfl) ?_
          refine lv_dup hx hb dX10_answers_32 rfl ?_
          refine m_geti (1000) 30 hx hb hts hown hE oc10 hM hJ.1 rfl (by decide) rfl tb_1207 dX10_answers_33 ?_
          have z21 : (u2 I5 (1000) 32 (v19)) (1000) 30 = Ia0 (1000) 30 := ((show (u2 I5 (1000) 32 (v19)) (1000) 30 = I5 (1000) 30 from by simp [u2_v])).trans (hkI5.get (1000) 30 rfl)
          rw [z21]
          refine lv_iload_n hx hb dX10_answers_36 rfl (lv_at hl 1 rfl) ?_
          refine lv_bipush (v := (9)) hx hb dX10_answers_37 (by decide) ?_
          refine lv_icmp_ne (tgt := 46) hx hb dX10_answers_39 (by decide) (fun c22 => ?_) (fun c22 => ?_)
          · have hc22 := c22
            have q22 := q_ne hc22
            refine lv_iconst (v := (0)) hx hb dX10_answers_46 (by decide) ?_
            refine lv_isub hx hb dX10_answers_47 ?_
            refine lv_topi (fun v23 ev23 => ?_)
            refine m_puti (1000) 30 hx hb hts hown hE oc10 hM hS hJ.1 rfl (by decide) rfl rfl rfl rfl tb_1207 dX10_answers_48 (fun H locs I24 eI24 hM hS => ?_)
            subst eI24
            have hI := hI.putF (n := 1000) (k := 30) (v := v23) rfl
            have hK := hK.put (n := 1000) (k := 30) (v := v23) (by first | rfl | simp [inR])
            refine lv_goto (tgt := 0) hx hb dX10_answers_51 (by decide) ?_
            have pw25 : ((u2 (u2 I5 (1000) 32 (v19)) (1000) 30 (v23)) (1000) 24).toInt = (Ia0 (1000) 24 : Int32).toInt := (congrArg Int32.toInt ((show (u2 (u2 I5 (1000) 32 (v19)) (1000) 30 (v23)) (1000) 24 = I5 (1000) 24 from by simp [u2_v]))).trans pw7
            have pw26 : ((u2 (u2 I5 (1000) 32 (v19)) (1000) 30 (v23)) (1000) 25).toInt = (Ia0 (1000) 25 : Int32).toInt := (congrArg Int32.toInt ((show (u2 (u2 I5 (1000) 32 (v19)) (1000) 30 (v23)) (1000) 25 = I5 (1000) 25 from by simp [u2_v]))).trans pw8
            have pw27 : ((u2 (u2 I5 (1000) 32 (v19)) (1000) 30 (v23)) (1000) 26).toInt = (Ia0 (1000) 26 : Int32).toInt := (congrArg Int32.toInt ((show (u2 (u2 I5 (1000) 32 (v19)) (1000) 30 (v23)) (1000) 26 = I5 (1000) 26 from by simp [u2_v]))).trans pw9
            have pw28 : ((u2 (u2 I5 (1000) 32 (v19)) (1000) 30 (v23)) (1000) 27).toInt = (Ia0 (1000) 27 : Int32).toInt := (congrArg Int32.toInt ((show (u2 (u2 I5 (1000) 32 (v19)) (1000) 30 (v23)) (1000) 27 = I5 (1000) 27 from by simp [u2_v]))).trans pw10
            have pw29 : ((u2 (u2 I5 (1000) 32 (v19)) (1000) 30 (v23)) (1000) 29).toInt = (I5 (1000) 29 : Int32).toInt := congrArg Int32.toInt ((show (u2 (u2 I5 (1000) 32 (v19)) (1000) 30 (v23)) (1000) 29 = I5 (1000) 29 from by simp [u2_v]))
            have pw30 : ((u2 (u2 I5 (1000) 32 (v19)) (1000) 30 (v23)) (1000) 31).toInt = (Ia0 (1000) 31 : Int32).toInt := (congrArg Int32.toInt ((show (u2 (u2 I5 (1000) 32 (v19)) (1000) 30 (v23)) (1000) 31 = I5 (1000) 31 from by simp [u2_v]))).trans pw12
            have pw31 : ((u2 (u2 I5 (1000) 32 (v19)) (1000) 30 (v23)) (1000) 32).toInt = (v19 : Int32).toInt := congrArg Int32.toInt ((show (u2 (u2 I5 (1000) 32 (v19)) (1000) 30 (v23)) (1000) 32 = v19 from by simp [u2_v]))
            replace hC := CT.link (I2 := (u2 (u2 I5 (1000) 32 (v19)) (1000) 30 (v23))) hC ((show (u2 (u2 I5 (1000) 32 (v19)) (1000) 30 (v23)) 1035 = I5 1035 from by funext zz; simp [u2_v])) ((show (u2 (u2 I5 (1000) 32 (v19)) (1000) 30 (v23)) 1036 = I5 1036 from by funext zz; simp [u2_v])) (by omega) (fun hz => by have w0 := xeI5 (by omega); omega)
            have w32 := xeI5 (by omega)
            have hpk := pop_k (I := Ia0) (I2 := (u2 (u2 I5 (1000) 32 (v19)) (1000) 30 (v23))) htk.1 htk.2.1 (((show (u2 (u2 I5 (1000) 32 (v19)) (1000) 30 (v23)) 1042 = I5 1042 from by funext zz; simp [u2_v])).trans (hkI5.getA 1042 rfl)) (by omega)
            have hst := RK_pop (J := Ia0) (J2 := (u2 (u2 I5 (1000) 32 (v19)) (1000) 30 (v23))) (((show (u2 (u2 I5 (1000) 32 (v19)) (1000) 30 (v23)) 1042 = I5 1042 from by funext zz; simp [u2_v])).trans (hkI5.getA 1042 rfl)) (by omega) (by omega)
            rw [htk.2.1] at hst
            have hei := encs_i (v := a0.toInt)
            exact ih0  (u2 (u2 I5 (1000) 32 (v19)) (1000) 30 (v23)) L6 _ _ ls hI hK (by omega) (by rw [show NB (u2 (u2 I5 (1000) 32 (v19)) (1000) 30 (v23)) + 1 = NB Ia0 + 1 - pB a0 from by omega]; exact hC) (fun hz => ap_step (hap hz) hst (Or.inr ⟨fun z => absurd (hei.1.mp z) (by omega), ((show (u2 (u2 I5 (1000) 32 (v19)) (1000) 30 (v23)) (1000) 30 = v23 from by simp [u2_v])).trans (ev23.trans (i_sub0 _))⟩) (by rw [(RC_of (J := I5) (J2 := (u2 (u2 I5 (1000) 32 (v19)) (1000) 30 (v23))) ((show (u2 (u2 I5 (1000) 32 (v19)) (1000) 30 (v23)) 1035 = I5 1035 from by funext zz; simp [u2_v])) ((show (u2 (u2 I5 (1000) 32 (v19)) (1000) 30 (v23)) 1036 = I5 1036 from by funext zz; simp [u2_v])) (by omega) (by omega)), hen16 (by omega), enc_encs (by omega)])) (by omega) hM hS (lv_sub hl [0, 1] rfl)
          · have hc22 := c22
            have q22 := q_eq hc22
            refine lv_iconst (v := (1)) hx hb dX10_answers_42 (by decide) ?_
            refine lv_goto (tgt := 47) hx hb dX10_answers_43 (by decide) ?_
            refine lv_isub hx hb dX10_answers_47 ?_
            refine lv_topi (fun v33 ev33 => ?_)
            refine m_puti (1000) 30 hx hb hts hown hE oc10 hM hS hJ.1 rfl (by decide) rfl rfl rfl rfl tb_1207 dX10_answers_48 (fun H locs I34 eI34 hM hS => ?_)
            subst eI34
            have hI := hI.putF (n := 1000) (k := 30) (v := v33) rfl
            have hK := hK.put (n := 1000) (k := 30) (v := v33) (by first | rfl | simp [inR])
            refine lv_goto (tgt := 0) hx hb dX10_answers_51 (by decide) ?_
            have pw35 : ((u2 (u2 I5 (1000) 32 (v19)) (1000) 30 (v33)) (1000) 24).toInt = (Ia0 (1000) 24 : Int32).toInt := (congrArg Int32.toInt ((show (u2 (u2 I5 (1000) 32 (v19)) (1000) 30 (v33)) (1000) 24 = I5 (1000) 24 from by simp [u2_v]))).trans pw7
            have pw36 : ((u2 (u2 I5 (1000) 32 (v19)) (1000) 30 (v33)) (1000) 25).toInt = (Ia0 (1000) 25 : Int32).toInt := (congrArg Int32.toInt ((show (u2 (u2 I5 (1000) 32 (v19)) (1000) 30 (v33)) (1000) 25 = I5 (1000) 25 from by simp [u2_v]))).trans pw8
            have pw37 : ((u2 (u2 I5 (1000) 32 (v19)) (1000) 30 (v33)) (1000) 26).toInt = (Ia0 (1000) 26 : Int32).toInt := (congrArg Int32.toInt ((show (u2 (u2 I5 (1000) 32 (v19)) (1000) 30 (v33)) (1000) 26 = I5 (1000) 26 from by simp [u2_v]))).trans pw9
            have pw38 : ((u2 (u2 I5 (1000) 32 (v19)) (1000) 30 (v33)) (1000) 27).toInt = (Ia0 (1000) 27 : Int32).toInt := (congrArg Int32.toInt ((show (u2 (u2 I5 (1000) 32 (v19)) (1000) 30 (v33)) (1000) 27 = I5 (1000) 27 from by simp [u2_v]))).trans pw10
            have pw39 : ((u2 (u2 I5 (1000) 32 (v19)) (1000) 30 (v33)) (1000) 29).toInt = (I5 (1000) 29 : Int32).toInt := congrArg Int32.toInt ((show (u2 (u2 I5 (1000) 32 (v19)) (1000) 30 (v33)) (1000) 29 = I5 (1000) 29 from by simp [u2_v]))
            have pw40 : ((u2 (u2 I5 (1000) 32 (v19)) (1000) 30 (v33)) (1000) 31).toInt = (Ia0 (1000) 31 : Int32).toInt := (congrArg Int32.toInt ((show (u2 (u2 I5 (1000) 32 (v19)) (1000) 30 (v33)) (1000) 31 = I5 (1000) 31 from by simp [u2_v]))).trans pw12
            have pw41 : ((u2 (u2 I5 (1000) 32 (v19)) (1000) 30 (v33)) (1000) 32).toInt = (v19 : Int32).toInt := congrArg Int32.toInt ((show (u2 (u2 I5 (1000) 32 (v19)) (1000) 30 (v33)) (1000) 32 = v19 from by simp [u2_v]))
            replace hC := CT.link (I2 := (u2 (u2 I5 (1000) 32 (v19)) (1000) 30 (v33))) hC ((show (u2 (u2 I5 (1000) 32 (v19)) (1000) 30 (v33)) 1035 = I5 1035 from by funext zz; simp [u2_v])) ((show (u2 (u2 I5 (1000) 32 (v19)) (1000) 30 (v33)) 1036 = I5 1036 from by funext zz; simp [u2_v])) (by omega) (fun hz => by have w0 := xeI5 (by omega); omega)
            have w42 := xeI5 (by omega)
            have hpk := pop_k (I := Ia0) (I2 := (u2 (u2 I5 (1000) 32 (v19)) (1000) 30 (v33))) htk.1 htk.2.1 (((show (u2 (u2 I5 (1000) 32 (v19)) (1000) 30 (v33)) 1042 = I5 1042 from by funext zz; simp [u2_v])).trans (hkI5.getA 1042 rfl)) (by omega)
            have hst := RK_pop (J := Ia0) (J2 := (u2 (u2 I5 (1000) 32 (v19)) (1000) 30 (v33))) (((show (u2 (u2 I5 (1000) 32 (v19)) (1000) 30 (v33)) 1042 = I5 1042 from by funext zz; simp [u2_v])).trans (hkI5.getA 1042 rfl)) (by omega) (by omega)
            rw [htk.2.1] at hst
            have hei := encs_i (v := a0.toInt)
            exact ih0  (u2 (u2 I5 (1000) 32 (v19)) (1000) 30 (v33)) L6 _ _ ls hI hK (by omega) (by rw [show NB (u2 (u2 I5 (1000) 32 (v19)) (1000) 30 (v33)) + 1 = NB Ia0 + 1 - pB a0 from by omega]; exact hC) (fun hz => ap_step (hap hz) hst (Or.inl ⟨hei.1.mpr (by omega), ((show (u2 (u2 I5 (1000) 32 (v19)) (1000) 30 (v33)) (1000) 30 = v33 from by simp [u2_v])).trans ev33⟩) (by rw [(RC_of (J := I5) (J2 := (u2 (u2 I5 (1000) 32 (v19)) (1000) 30 (v33))) ((show (u2 (u2 I5 (1000) 32 (v19)) (1000) 30 (v33)) 1035 = I5 1035 from by funext zz; simp [u2_v])) ((show (u2 (u2 I5 (1000) 32 (v19)) (1000) 30 (v33)) 1036 = I5 1036 from by funext zz; simp [u2_v])) (by omega) (by omega)), hen16 (by omega), enc_encs (by omega)])) (by omega) hM hS (lv_sub hl [0, 1] rfl)
  exact loop0 (_ + 1)  I L _ _ ls hI hK (by omega) hC (fun _ => rfl) (Nat.lt_succ_self _) hM hS (lv_sub hl [0, 1] rfl)
