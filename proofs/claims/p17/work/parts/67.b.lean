theorem ENT_put {I : MI} {a b v v2 w : Int32} (hf : (I 1000 26).toInt = 0) (hv : v.toInt = 300 * (I 1000 27).toInt + (I 1000 29).toInt ∧ 0 ≤ v.toInt) (hv2 : v2.toInt = v.toInt) (j : Nat) : (u2 (u2 (u2 I 1035 v.toNatClampNeg a) 1036 v2.toNatClampNeg b) 1000 29 w 1035 j = if (I 1000 26).toInt = 0 ∧ (j : Int) = 300 * (I 1000 27).toInt + (I 1000 29).toInt then a else I 1035 j) ∧ (u2 (u2 (u2 I 1035 v.toNatClampNeg a) 1036 v2.toNatClampNeg b) 1000 29 w 1036 j = if (I 1000 26).toInt = 0 ∧ (j : Int) = 300 * (I 1000 27).toInt + (I 1000 29).toInt then b else I 1036 j) := by
  have t1 := tn hv.2
  have t2 := tn (i := v2) (by omega)
  constructor
  · rw [u2_v, u2_v, u2_v]
    by_cases hq : j = v.toNatClampNeg
    · rw [if_neg (by omega), if_neg (by omega), if_pos ⟨rfl, hq⟩, if_pos ⟨hf, by omega⟩]
    · rw [if_neg (by omega), if_neg (by omega), if_neg (by omega), if_neg (by omega)]
  · rw [u2_v, u2_v, u2_v]
    by_cases hq : j = v.toNatClampNeg
    · rw [if_neg (by omega), if_pos ⟨rfl, by omega⟩, if_pos ⟨hf, by omega⟩]
    · rw [if_neg (by omega), if_neg (by omega), if_neg (by omega), if_neg (by omega)]
theorem dX10_entry_0 : decode cX10_entry 0 = .ok (.aload_n 0, 1) := by decide +kernel
theorem dX10_entry_1 : decode cX10_entry 1 = .ok (.getfield 264, 3) := by decide +kernel
theorem dX10_entry_4 : decode cX10_entry 4 = .ok (.ifCond .ne 51, 3) := by decide +kernel
theorem dX10_entry_7 : decode cX10_entry 7 = .ok (.aload_n 0, 1) := by decide +kernel
theorem dX10_entry_8 : decode cX10_entry 8 = .ok (.getfield 87, 3) := by decide +kernel
theorem dX10_entry_11 : decode cX10_entry 11 = .ok (.sipush 300, 3) := by decide +kernel
theorem dX10_entry_14 : decode cX10_entry 14 = .ok (.aload_n 0, 1) := by decide +kernel
theorem dX10_entry_15 : decode cX10_entry 15 = .ok (.getfield 294, 3) := by decide +kernel
theorem dX10_entry_18 : decode cX10_entry 18 = .ok (.imul, 1) := by decide +kernel
theorem dX10_entry_19 : decode cX10_entry 19 = .ok (.aload_n 0, 1) := by decide +kernel
theorem dX10_entry_20 : decode cX10_entry 20 = .ok (.getfield 297, 3) := by decide +kernel
theorem dX10_entry_23 : decode cX10_entry 23 = .ok (.iadd, 1) := by decide +kernel
theorem dX10_entry_24 : decode cX10_entry 24 = .ok (.iload_n 1, 1) := by decide +kernel
theorem dX10_entry_25 : decode cX10_entry 25 = .ok (.iastore, 1) := by decide +kernel
theorem dX10_entry_26 : decode cX10_entry 26 = .ok (.aload_n 0, 1) := by decide +kernel
theorem dX10_entry_27 : decode cX10_entry 27 = .ok (.getfield 90, 3) := by decide +kernel
theorem dX10_entry_30 : decode cX10_entry 30 = .ok (.sipush 300, 3) := by decide +kernel
theorem dX10_entry_33 : decode cX10_entry 33 = .ok (.aload_n 0, 1) := by decide +kernel
theorem dX10_entry_34 : decode cX10_entry 34 = .ok (.getfield 294, 3) := by decide +kernel
theorem dX10_entry_37 : decode cX10_entry 37 = .ok (.imul, 1) := by decide +kernel
theorem dX10_entry_38 : decode cX10_entry 38 = .ok (.aload_n 0, 1) := by decide +kernel
theorem dX10_entry_39 : decode cX10_entry 39 = .ok (.getfield 297, 3) := by decide +kernel
theorem dX10_entry_42 : decode cX10_entry 42 = .ok (.iadd, 1) := by decide +kernel
theorem dX10_entry_43 : decode cX10_entry 43 = .ok (.iload_n 2, 1) := by decide +kernel
theorem dX10_entry_44 : decode cX10_entry 44 = .ok (.iastore, 1) := by decide +kernel
theorem dX10_entry_45 : decode cX10_entry 45 = .ok (.aload_n 0, 1) := by decide +kernel
theorem dX10_entry_46 : decode cX10_entry 46 = .ok (.dup, 1) := by decide +kernel
theorem dX10_entry_47 : decode cX10_entry 47 = .ok (.getfield 297, 3) := by decide +kernel
theorem dX10_entry_50 : decode cX10_entry 50 = .ok (.iconst 1, 1) := by decide +kernel
theorem dX10_entry_51 : decode cX10_entry 51 = .ok (.iadd, 1) := by decide +kernel
theorem dX10_entry_52 : decode cX10_entry 52 = .ok (.putfield 297, 3) := by decide +kernel
theorem dX10_entry_55 : decode cX10_entry 55 = .ok (.return_, 1) := by decide +kernel
theorem ce_X10_entry : CeV RX10 yX10_entry cX10_entry 3 none 2 := ⟨tb_1554, tp_72, tb_11, tb_1555, rfl, by decide, by decide, by decide +kernel⟩
set_option maxHeartbeats 4000000 in
set_option maxRecDepth 20000 in
theorem V_X10_entry (l : Launch) (D : va_G) (A : Nat → Prop) (ad : Nat → Nat) (ns : List Nat) (I : MI) (L : ML) (G : MG) (a0 : Int32) (a1 : Int32) (hJ : SGM ns G) (hI : INV I) (he : Imp ((I 1000 26).toInt = 0) ((I 1000 29).toInt ≤ 299)) : Met l yX10_entry (wd yX10_entry cX10_entry 3 none) ({ frames := 0, cells := 0, slots := 0, locals := 0 }) (va_Pc [.ref (ad (1000)), .int a0, .int a1] (PM D A ad ns I L G)) (va_Qv (fun u => ∃ I2 L2, u = (ad, ns, I2, L2, G) ∧ INV I2 ∧ Kp [(1035, 1037)] [(1000, 29)] I I2 ∧ ((I 1000 29).toInt ≤ (I2 1000 29).toInt ∧ (I2 1000 29).toInt ≤ (I 1000 29).toInt + 1 ∧ Imp ((I 1000 26).toInt = 0) ((I2 1000 29).toInt = (I 1000 29).toInt + 1) ∧ Imp ((I 1000 26).toInt ≠ 0) ((I2 1000 29).toInt = (I 1000 29).toInt) ∧ ENT I I2 a0 a1)) (BM D A) A) 0 0 A := by
  refine m_ofW (by decide) (Nat.le_of_ble_eq_true rfl) ?_
  intro p e s m below meth c ls args hC hE hM hA hS hl
  obtain ⟨hx, hb, hml, hown, hts, hr, hlocks, hin⟩ := hC
  have k0 : (0 : Int32).toInt = 0 := by decide
  have k1 : (1 : Int32).toInt = 1 := by decide
  have k300 : (300 : Int32).toInt = 300 := by decide
  have hK : Kp [(1035, 1037)] [(1000, 29)] I I := Kp.rf
  have hl : lv_has ls 3 [(0, .ref (ad (1000))), (1, .int (a0)), (2, .int (a1))] := hl
  refine lv_aload_n hx hb dX10_entry_0 rfl (lv_at hl 0 rfl) ?_
  refine m_geti (1000) 26 hx hb hts hown hE oc10 hM hJ.1 rfl (by decide) rfl tb_1203 dX10_entry_1 ?_
  refine lv_if_ne (tgt := 55) hx hb dX10_entry_4 (by decide) (fun c1 => ?_) (fun c1 => ?_)
  · have hc1 := c1
    have q1 := q_ne hc1
    exact m_vret hx hb hr hlocks hM hS (Nat.le_of_ble_eq_true rfl) (Nat.le_of_ble_eq_true rfl) ⟨_, _, rfl, hI, hK, ⟨by omega, by omega, fun hz => by omega, fun hz => by omega, fun j => ⟨by rw [if_neg (by omega)], by rw [if_neg (by omega)]⟩⟩⟩ dX10_entry_55
  · have hc1 := c1
    have q1 := q_eq hc1
    have w2 := he (by omega)
    refine lv_aload_n hx hb dX10_entry_7 rfl (lv_at hl 0 rfl) ?_
    refine m_getr (1000) 35 (1035) hx hb hts hown hE oc10 hM hJ.1 rfl (by decide) rfl (hJ.2 35 (by decide)).2 (by decide) tb_1212 dX10_entry_8 ?_
    refine lv_sipush (v := (300)) hx hb dX10_entry_11 (by decide) ?_
    refine lv_aload_n hx hb dX10_entry_14 rfl (lv_at hl 0 rfl) ?_
    refine m_geti (1000) 27 hx hb hts hown hE oc10 hM hJ.1 rfl (by decide) rfl tb_1204 dX10_entry_15 ?_
    have g3 := hI.get (1000) 27 (lo := 0) (hi := 5) rfl
    refine lv_imul hx hb dX10_entry_18 ?_
    refine lv_topi (fun v4 ev4 => ?_)
    have tv4 := a_mulL (c := 300) ev4 (by decide) (by omega) (by omega)
    refine lv_aload_n hx hb dX10_entry_19 rfl (lv_at hl 0 rfl) ?_
    refine m_geti (1000) 29 hx hb hts hown hE oc10 hM hJ.1 rfl (by decide) rfl tb_1206 dX10_entry_20 ?_
    have g5 := hI.get (1000) 29 (lo := 0) (hi := 300) rfl
    refine lv_iadd hx hb dX10_entry_23 ?_
    refine lv_topi (fun v6 ev6 => ?_)
    have tv6 := a_add ev6 (by omega) (by omega)
    refine lv_iload_n hx hb dX10_entry_24 rfl (lv_at hl 1 rfl) ?_
    refine m_iast (1035) hx hb hE hM hS (hJ.2 35 (by decide)).1 rfl (vp_in_iff.mpr (by omega)) dX10_entry_25 (fun H locs I7 eI7 hM hS => ?_)
    subst eI7
    have hI := hI.putF (n := 1035) (k := ((v6).toNatClampNeg)) (v := a0) rfl
    have hK := hK.put (n := 1035) (k := ((v6).toNatClampNeg)) (v := a0) (by first | rfl | simp [inR])
    refine lv_aload_n hx hb dX10_entry_26 rfl (lv_at hl 0 rfl) ?_
    refine m_getr (1000) 36 (1036) hx hb hts hown hE oc10 hM hJ.1 rfl (by decide) rfl (hJ.2 36 (by decide)).2 (by decide) tb_1213 dX10_entry_27 ?_
    refine lv_sipush (v := (300)) hx hb dX10_entry_30 (by decide) ?_
    refine lv_aload_n hx hb dX10_entry_33 rfl (lv_at hl 0 rfl) ?_
    refine m_geti (1000) 27 hx hb hts hown hE oc10 hM hJ.1 rfl (by decide) rfl tb_1204 dX10_entry_34 ?_
    have z8 : (u2 I (1035) ((v6).toNatClampNeg) (a0)) (1000) 27 = I (1000) 27 := (show (u2 I (1035) ((v6).toNatClampNeg) (a0)) (1000) 27 = I (1000) 27 from by simp [u2_v])
    rw [z8]
    refine lv_imul hx hb dX10_entry_37 ?_
    refine lv_topi (fun v9 ev9 => ?_)
    have tv9 := a_mulL (c := 300) ev9 (by decide) (by omega) (by omega)
    refine lv_aload_n hx hb dX10_entry_38 rfl (lv_at hl 0 rfl) ?_
    refine m_geti (1000) 29 hx hb hts hown hE oc10 hM hJ.1 rfl (by decide) rfl tb_1206 dX10_entry_39 ?_
    have z10 : (u2 I (1035) ((v6).toNatClampNeg) (a0)) (1000) 29 = I (1000) 29 := (show (u2 I (1035) ((v6).toNatClampNeg) (a0)) (1000) 29 = I (1000) 29 from by simp [u2_v])
    rw [z10]
    refine lv_iadd hx hb dX10_entry_42 ?_
    refine lv_topi (fun v11 ev11 => ?_)
    have tv11 := a_add ev11 (by omega) (by omega)
    refine lv_iload_n hx hb dX10_entry_43 rfl (lv_at hl 2 rfl) ?_
    refine m_iast (1036) hx hb hE hM hS (hJ.2 36 (by decide)).1 rfl (vp_in_iff.mpr (by omega)) dX10_entry_44 (fun H locs I12 eI12 hM hS => ?_)
    subst eI12
    have hI := hI.putF (n := 1036) (k := ((v11).toNatClampNeg)) (v := a1) rfl
    have hK := hK.put (n := 1036) (k := ((v11).toNatClampNeg)) (v := a1) (by first | rfl | simp [inR])
    refine lv_aload_n hx hb dX10_entry_45 rfl (lv_at hl 0 rfl) ?_
    refine lv_dup hx hb dX10_entry_46 rfl ?_
    refine m_geti (1000) 29 hx hb hts hown hE oc10 hM hJ.1 rfl (by decide) rfl tb_1206 dX10_entry_47 ?_
    have z13 : (u2 (u2 I (1035) ((v6).toNatClampNeg) (a0)) (1036) ((v11).toNatClampNeg) (a1)) (1000) 29 = I (1000) 29 := (show (u2 (u2 I (1035) ((v6).toNatClampNeg) (a0)) (1036) ((v11).toNatClampNeg) (a1)) (1000) 29 = I (1000) 29 from by simp [u2_v])
    rw [z13]
    refine lv_iconst (v := (1)) hx hb dX10_entry_50 (by decide) ?_
    refine lv_iadd hx hb dX10_entry_51 ?_
    refine lv_topi (fun v14 ev14 => ?_)
    have tv14 := a_add ev14 (by omega) (by omega)
    refine m_puti (1000) 29 hx hb hts hown hE oc10 hM hS hJ.1 rfl (by decide) rfl rfl rfl rfl tb_1206 dX10_entry_52 (fun H locs I15 eI15 hM hS => ?_)
    subst eI15
    have hI := hI.put (n := 1000) (k := 29) (v := v14) (lo := 0) (hi := 300) rfl (by first | omega | decide)
    have hK := hK.put (n := 1000) (k := 29) (v := v14) (by first | rfl | simp [inR])
    have pw16 : ((u2 (u2 (u2 I (1035) ((v6).toNatClampNeg) (a0)) (1036) ((v11).toNatClampNeg) (a1)) (1000) 29 (v14)) (1000) 24).toInt = (I (1000) 24 : Int32).toInt := congrArg Int32.toInt ((show (u2 (u2 (u2 I (1035) ((v6).toNatClampNeg) (a0)) (1036) ((v11).toNatClampNeg) (a1)) (1000) 29 (v14)) (1000) 24 = I (1000) 24 from by simp [u2_v]))
    have pw17 : ((u2 (u2 (u2 I (1035) ((v6).toNatClampNeg) (a0)) (1036) ((v11).toNatClampNeg) (a1)) (1000) 29 (v14)) (1000) 25).toInt = (I (1000) 25 : Int32).toInt := congrArg Int32.toInt ((show (u2 (u2 (u2 I (1035) ((v6).toNatClampNeg) (a0)) (1036) ((v11).toNatClampNeg) (a1)) (1000) 29 (v14)) (1000) 25 = I (1000) 25 from by simp [u2_v]))
    have pw18 : ((u2 (u2 (u2 I (1035) ((v6).toNatClampNeg) (a0)) (1036) ((v11).toNatClampNeg) (a1)) (1000) 29 (v14)) (1000) 26).toInt = (I (1000) 26 : Int32).toInt := congrArg Int32.toInt ((show (u2 (u2 (u2 I (1035) ((v6).toNatClampNeg) (a0)) (1036) ((v11).toNatClampNeg) (a1)) (1000) 29 (v14)) (1000) 26 = I (1000) 26 from by simp [u2_v]))
    have pw19 : ((u2 (u2 (u2 I (1035) ((v6).toNatClampNeg) (a0)) (1036) ((v11).toNatClampNeg) (a1)) (1000) 29 (v14)) (1000) 27).toInt = (I (1000) 27 : Int32).toInt := congrArg Int32.toInt ((show (u2 (u2 (u2 I (1035) ((v6).toNatClampNeg) (a0)) (1036) ((v11).toNatClampNeg) (a1)) (1000) 29 (v14)) (1000) 27 = I (1000) 27 from by simp [u2_v]))
    have pw20 : ((u2 (u2 (u2 I (1035) ((v6).toNatClampNeg) (a0)) (1036) ((v11).toNatClampNeg) (a1)) (1000) 29 (v14)) (1000) 29).toInt = (v14 : Int32).toInt := congrArg Int32.toInt ((show (u2 (u2 (u2 I (1035) ((v6).toNatClampNeg) (a0)) (1036) ((v11).toNatClampNeg) (a1)) (1000) 29 (v14)) (1000) 29 = v14 from by simp [u2_v]))
    have pw21 : ((u2 (u2 (u2 I (1035) ((v6).toNatClampNeg) (a0)) (1036) ((v11).toNatClampNeg) (a1)) (1000) 29 (v14)) (1000) 31).toInt = (I (1000) 31 : Int32).toInt := congrArg Int32.toInt ((show (u2 (u2 (u2 I (1035) ((v6).toNatClampNeg) (a0)) (1036) ((v11).toNatClampNeg) (a1)) (1000) 29 (v14)) (1000) 31 = I (1000) 31 from by simp [u2_v]))
    have pw22 : ((u2 (u2 (u2 I (1035) ((v6).toNatClampNeg) (a0)) (1036) ((v11).toNatClampNeg) (a1)) (1000) 29 (v14)) (1000) 32).toInt = (I (1000) 32 : Int32).toInt := congrArg Int32.toInt ((show (u2 (u2 (u2 I (1035) ((v6).toNatClampNeg) (a0)) (1036) ((v11).toNatClampNeg) (a1)) (1000) 29 (v14)) (1000) 32 = I (1000) 32 from by simp [u2_v]))
    exact m_vret hx hb hr hlocks hM hS (Nat.le_of_ble_eq_true rfl) (Nat.le_of_ble_eq_true rfl) ⟨_, _, rfl, hI, hK, ⟨by omega, by omega, fun hz => by omega, fun hz => by omega, fun j => ENT_put (by omega) (by omega) (by omega) j⟩⟩ dX10_entry_55
theorem CT.bad {I I2 : MI} {n n2 : Nat} (h35 : I2 1035 = I 1035) (h36 : I2 1036 = I 1036) (h29 : (I2 1000 29).toInt = (I 1000 29).toInt) (hf : (I2 1000 26).toInt = 0 → False) : CT I I2 n n2 := ⟨fun j hj => by rw [h35, h36]; exact ⟨rfl, rfl⟩, fun q => (hf q).elim⟩
theorem dX10_value_0 : decode cX10_value 0 = .ok (.aload_n 0, 1) := by decide +kernel
theorem dX10_value_1 : decode cX10_value 1 = .ok (.invokevirtual 287, 3) := by decide +kernel
theorem dX10_value_4 : decode cX10_value 4 = .ok (.aload_n 0, 1) := by decide +kernel
theorem dX10_value_5 : decode cX10_value 5 = .ok (.getfield 267, 3) := by decide +kernel
theorem dX10_value_8 : decode cX10_value 8 = .ok (.istore_n 1, 1) := by decide +kernel
theorem dX10_value_9 : decode cX10_value 9 = .ok (.aload_n 0, 1) := by decide +kernel
theorem dX10_value_10 : decode cX10_value 10 = .ok (.invokevirtual 307, 3) := by decide +kernel
theorem dX10_value_13 : decode cX10_value 13 = .ok (.ifCond .eq 23, 3) := by decide +kernel
theorem dX10_value_16 : decode cX10_value 16 = .ok (.aload_n 0, 1) := by decide +kernel
theorem dX10_value_17 : decode cX10_value 17 = .ok (.ldc_w 310, 3) := by decide +kernel
theorem dX10_value_20 : decode cX10_value 20 = .ok (.invokevirtual 311, 3) := by decide +kernel
theorem dX10_value_23 : decode cX10_value 23 = .ok (.istore_n 2, 1) := by decide +kernel
theorem dX10_value_24 : decode cX10_value 24 = .ok (.aload_n 0, 1) := by decide +kernel
theorem dX10_value_25 : decode cX10_value 25 = .ok (.iload_n 1, 1) := by decide +kernel
theorem dX10_value_26 : decode cX10_value 26 = .ok (.invokevirtual 315, 3) := by decide +kernel
theorem dX10_value_29 : decode cX10_value 29 = .ok (.aload_n 0, 1) := by decide +kernel
theorem dX10_value_30 : decode cX10_value 30 = .ok (.iconst 0, 1) := by decide +kernel
theorem dX10_value_31 : decode cX10_value 31 = .ok (.iload_n 2, 1) := by decide +kernel
theorem dX10_value_32 : decode cX10_value 32 = .ok (.invokevirtual 318, 3) := by decide +kernel
theorem dX10_value_35 : decode cX10_value 35 = .ok (.return_, 1) := by decide +kernel
theorem dX10_value_36 : decode cX10_value 36 = .ok (.iconst 0, 1) := by decide +kernel
theorem dX10_value_37 : decode cX10_value 37 = .ok (.istore_n 2, 1) := by decide +kernel
theorem dX10_value_38 : decode cX10_value 38 = .ok (.iload_n 2, 1) := by decide +kernel
theorem dX10_value_39 : decode cX10_value 39 = .ok (.aload_n 0, 1) := by decide +kernel
theorem dX10_value_40 : decode cX10_value 40 = .ok (.getfield 79, 3) := by decide +kernel
theorem dX10_value_43 : decode cX10_value 43 = .ok (.if_icmp .ge 20, 3) := by decide +kernel
theorem dX10_value_46 : decode cX10_value 46 = .ok (.aload_n 0, 1) := by decide +kernel
theorem dX10_value_47 : decode cX10_value 47 = .ok (.iload_n 2, 1) := by decide +kernel
theorem dX10_value_48 : decode cX10_value 48 = .ok (.invokestatic 321, 3) := by decide +kernel
theorem dX10_value_51 : decode cX10_value 51 = .ok (.invokevirtual 290, 3) := by decide +kernel
theorem dX10_value_54 : decode cX10_value 54 = .ok (.ifCond .ne 9, 3) := by decide +kernel
theorem dX10_value_57 : decode cX10_value 57 = .ok (.iinc 2 1, 3) := by decide +kernel
theorem dX10_value_60 : decode cX10_value 60 = .ok (.goto (-22), 3) := by decide +kernel
theorem dX10_value_63 : decode cX10_value 63 = .ok (.iload_n 2, 1) := by decide +kernel
theorem dX10_value_64 : decode cX10_value 64 = .ok (.aload_n 0, 1) := by decide +kernel
theorem dX10_value_65 : decode cX10_value 65 = .ok (.getfield 79, 3) := by decide +kernel
theorem dX10_value_68 : decode cX10_value 68 = .ok (.if_icmp .ne 10, 3) := by decide +kernel
theorem dX10_value_71 : decode cX10_value 71 = .ok (.aload_n 0, 1) := by decide +kernel
theorem dX10_value_72 : decode cX10_value 72 = .ok (.iconst 0, 1) := by decide +kernel
theorem dX10_value_73 : decode cX10_value 73 = .ok (.iload_n 1, 1) := by decide +kernel
theorem dX10_value_74 : decode cX10_value 74 = .ok (.invokevirtual 303, 3) := by decide +kernel
theorem dX10_value_77 : decode cX10_value 77 = .ok (.return_, 1) := by decide +kernel
theorem dX10_value_78 : decode cX10_value 78 = .ok (.aload_n 0, 1) := by decide +kernel
theorem dX10_value_79 : decode cX10_value 79 = .ok (.iload_n 1, 1) := by decide +kernel
theorem dX10_value_80 : decode cX10_value 80 = .ok (.invokevirtual 315, 3) := by decide +kernel
theorem dX10_value_83 : decode cX10_value 83 = .ok (.aload_n 0, 1) := by decide +kernel
theorem dX10_value_84 : decode cX10_value 84 = .ok (.dup, 1) := by decide +kernel
theorem dX10_value_85 : decode cX10_value 85 = .ok (.getfield 267, 3) := by decide +kernel
theorem dX10_value_88 : decode cX10_value 88 = .ok (.iload_n 2, 1) := by decide +kernel
theorem dX10_value_89 : decode cX10_value 89 = .ok (.invokestatic 321, 3) := by decide +kernel
theorem dX10_value_92 : decode cX10_value 92 = .ok (.invokevirtual 278, 3) := by decide +kernel
theorem dX10_value_95 : decode cX10_value 95 = .ok (.iadd, 1) := by decide +kernel
theorem dX10_value_96 : decode cX10_value 96 = .ok (.putfield 267, 3) := by decide +kernel
theorem dX10_value_99 : decode cX10_value 99 = .ok (.aload_n 0, 1) := by decide +kernel
theorem dX10_value_100 : decode cX10_value 100 = .ok (.iconst 1, 1) := by decide +kernel
theorem dX10_value_101 : decode cX10_value 101 = .ok (.iload_n 2, 1) := by decide +kernel
theorem dX10_value_102 : decode cX10_value 102 = .ok (.invokevirtual 318, 3) := by decide +kernel
theorem dX10_value_105 : decode cX10_value 105 = .ok (.return_, 1) := by decide +kernel
theorem ce_X10_value : CeV RX10 yX10_value cX10_value 3 none 0 := ⟨tb_1545, tp_70, tb_11, tb_1546, rfl, by decide, by decide, by decide +kernel⟩
set_option maxHeartbeats 4000000 in
set_option maxRecDepth 20000 in
theorem V_X10_value (l : Launch) (D : va_G) (A : Nat → Prop) (ad : Nat → Nat) (ns : List Nat) (I : MI) (L : ML) (G : MG) (hJ : SGM ns G) (hI : INV I) (hp : (I 1000 25).toInt ≤ 400) (hPI : Imp ((I 1000 26).toInt = 0) (0 ≤ (I 1000 31).toInt ∧ (I 1000 31).toInt ≤ 60 ∧ 3 * (I 1000 29).toInt ≤ 6 * (I 1000 31).toInt + (I 1000 25).toInt)) : Met l yX10_value (wd yX10_value cX10_value 3 none) ({ frames := 5, cells := 0, slots := 0, locals := 109 }) (va_Pc [.ref (ad (1000))] (PM D A ad ns I L G)) (va_Qv (fun u => ∃ I2 L2, u = (ad, ns, I2, L2, G) ∧ INV I2 ∧ Kp [(1035, 1037)] [(1000, 25), (1000, 26), (1000, 29), (1000, 31)] I I2 ∧ ((I 1000 25).toInt ≤ (I2 1000 25).toInt ∧ (I2 1000 25).toInt ≤ 400 ∧ (I 1000 29).toInt ≤ (I2 1000 29).toInt ∧ Imp ((I2 1000 26).toInt = 0) ((I 1000 26).toInt = 0 ∧ (I2 1000 31).toInt = (I 1000 31).toInt + 1 ∧ (I2 1000 31).toInt ≤ 60 ∧ (I2 1000 29).toInt = (I 1000 29).toInt + 1) ∧ CT I I2 0 1)) (BM D A) A) 0 0 A := by
  refine m_ofW (by decide) (Nat.le_of_ble_eq_true rfl) ?_
  intro p e s m below meth c ls args hC hE hM hA hS hl
  obtain ⟨hx, hb, hml, hown, hts, hr, hlocks, hin⟩ := hC
  have k0 : (0 : Int32).toInt = 0 := by decide
  have k1 : (1 : Int32).toInt = 1 := by decide
  have k99999 : (99999 : Int32).toInt = 99999 := by decide
  have hC := CT.rf I 0
  have hI0 := hI
  have hK : Kp [(1035, 1037)] [(1000, 25), (1000, 26), (1000, 29), (1000, 31)] I I := Kp.rf
  have hl : lv_has ls 3 [(0, .ref (ad (1000)))] := hl
  refine lv_aload_n hx hb dX10_value_0 rfl (lv_at hl 0 rfl) ?_
  refine m_callv (m_runV (1000) (As := []) (rest := []) hx hb hml hown hts hE hM hS hA ce_X10_blanks tb_1506 (V_X10_blanks l D A ad ns I L G hJ hI (by omega)) rfl rfl ⟨Nat.le_of_ble_eq_true rfl, Nat.le_of_ble_eq_true rfl⟩ hJ.1 rfl rfl (by decide) rfl hl.1 rfl (Nat.le_of_ble_eq_true rfl) dX10_value_1 ⟨Nat.le_of_ble_eq_true rfl, Nat.le_of_ble_eq_true rfl⟩) hS (fun u H locs hw hM hS => ?_)
  obtain ⟨I1, L2, rfl, hI, hkI1, xI1⟩ := hw
  have hM : Mem D A ad ns I1 L2 G H := hM
  have hK := hK.trans hkI1 rfl
  have pw3 : (I1 (1000) 24).toInt = (I (1000) 24 : Int32).toInt := congrArg Int32.toInt ((hkI1.get (1000) 24 rfl))
  have pw4 : (I1 (1000) 26).toInt = (I (1000) 26 : Int32).toInt := congrArg Int32.toInt ((hkI1.get (1000) 26 rfl))
  have pw5 : (I1 (1000) 27).toInt = (I (1000) 27 : Int32).toInt := congrArg Int32.toInt ((hkI1.get (1000) 27 rfl))
  have pw6 : (I1 (1000) 29).toInt = (I (1000) 29 : Int32).toInt := congrArg Int32.toInt ((hkI1.get (1000) 29 rfl))
  have pw7 : (I1 (1000) 31).toInt = (I (1000) 31 : Int32).toInt := congrArg Int32.toInt ((hkI1.get (1000) 31 rfl))
  have pw8 : (I1 (1000) 32).toInt = (I (1000) 32 : Int32).toInt := congrArg Int32.toInt ((hkI1.get (1000) 32 rfl))
  refine lv_aload_n hx hb dX10_value_4 rfl (lv_at hl 0 rfl) ?_
  refine m_geti (1000) 25 hx hb hts hown hE oc10 hM hJ.1 rfl (by decide) rfl tb_1202 dX10_value_5 ?_
  have g9 := hI.get (1000) 25 (lo := 0) (hi := 100000) rfl
  refine lv_istore_n (lv' := [(1, .int (I1 (1000) 25)), (0, .ref (ad (1000)))]) hx hb dX10_value_8 rfl hl (by decide) rfl (fun ls hl => ?_)
  refine lv_aload_n hx hb dX10_value_9 rfl (lv_at hl 1 rfl) ?_
  refine m_calli (m_runV (1000) (As := []) (rest := []) hx hb hml hown hts hE hM hS hA ce_X10_isDigit tb_1529 (V_X10_isDigit l D A ad ns I1 L2 G hJ hI) rfl rfl ⟨Nat.le_of_ble_eq_true rfl, Nat.le_of_ble_eq_true rfl⟩ hJ.1 rfl rfl (by decide) rfl hl.1 rfl (Nat.le_of_ble_eq_true rfl) dX10_value_10 ⟨Nat.le_of_ble_eq_true rfl, Nat.le_of_ble_eq_true rfl⟩) hS (fun r10 u H locs hw hM hS => ?_)
  obtain ⟨rfl, xr10⟩ := hw
  have hM : Mem D A ad ns I1 L2 G H := hM
  have g11 := hI.get 1000 24 (lo := 0) (hi := 400) rfl
  have g12 := hI.get 1000 25 (lo := 0) (hi := 100000) rfl
  refine lv_if_eq (tgt := 36) hx hb dX10_value_13 (by decide) (fun c13 => ?_) (fun c13 => ?_)
  · have hc13 := c13
    have q13 := q_eq hc13
    refine lv_iconst (v := (0)) hx hb dX10_value_36 (by decide) ?_
    refine lv_istore_n (lv' := [(2, .int (0)), (1, .int (I1 (1000) 25)), (0, .ref (ad (1000)))]) hx hb dX10_value_37 rfl hl (by decide) rfl (fun ls hl => ?_)
    have loop38 : ∀ (n : Nat) (x2_38 : Int32) (H : Heap) (locs : List Loc) (ls : Array Slot), (0 ≤ x2_38.toInt ∧ x2_38.toInt ≤ 13) → (13 - x2_38.toInt).toNat < n → Mem D A ad ns I1 L2 G H → va_S A s.heap H locs → lv_has ls 3 [(2, .int (x2_38)), (1, .int (I1 (1000) 25)), (0, .ref (ad (1000)))] → W p l e ({ frames := 5, cells := 0, slots := 0, locals := 109 } : Room) s m args below meth c H locs 0 0 (MQ below (va_Qv (fun u => ∃ I2 L2, u = (ad, ns, I2, L2, G) ∧ INV I2 ∧ Kp [(1035, 1037)] [(1000, 25), (1000, 26), (1000, 29), (1000, 31)] I I2 ∧ ((I 1000 25).toInt ≤ (I2 1000 25).toInt ∧ (I2 1000 25).toInt ≤ 400 ∧ (I 1000 29).toInt ≤ (I2 1000 29).toInt ∧ Imp ((I2 1000 26).toInt = 0) ((I 1000 26).toInt = 0 ∧ (I2 1000 31).toInt = (I 1000 31).toInt + 1 ∧ (I2 1000 31).toInt ≤ 60 ∧ (I2 1000 29).toInt = (I 1000 29).toInt + 1) ∧ CT I I2 0 1)) (BM D A) A) args s 0 0 A) (F0 m 38 ls []) := by
      intro n
      induction n with
      | zero =>
        intro x2_38 H locs ls hr2_38 hmu
        exact absurd hmu (Nat.not_lt_zero _)
      | succ n ih38 =>
        intro x2_38 H locs ls hr2_38 hmu38 hM hS hl
        refine lv_iload_n hx hb dX10_value_38 rfl (lv_at hl 0 rfl) ?_
        refine lv_aload_n hx hb dX10_value_39 rfl (lv_at hl 2 rfl) ?_
        refine m_geti (1000) 33 hx hb hts hown hE oc10 hM hJ.1 rfl (by decide) rfl tb_1210 dX10_value_40 ?_
        have g14 := hI.get (1000) 33 (lo := 13) (hi := 13) rfl
        have z15 : I1 (1000) 33 = I (1000) 33 := (hkI1.get (1000) 33 rfl)
        rw [z15] at g14 ⊢
        refine lv_icmp_ge (tgt := 63) hx hb dX10_value_43 (by decide) (fun c16 => ?_) (fun c16 => ?_)
        · have hc16 := c16
          have q16 := q_le hc16
          refine lv_iload_n hx hb dX10_value_63 rfl (lv_at hl 0 rfl) ?_
          refine lv_aload_n hx hb dX10_value_64 rfl (lv_at hl 2 rfl) ?_
          refine m_geti (1000) 33 hx hb hts hown hE oc10 hM hJ.1 rfl (by decide) rfl tb_1210 dX10_value_65 ?_
          have z17 : I1 (1000) 33 = I (1000) 33 := (hkI1.get (1000) 33 rfl)
          rw [z17]
          refine lv_icmp_ne (tgt := 78) hx hb dX10_value_68 (by decide) (fun c18 => ?_) (fun c18 => ?_)
          · exact absurd (q_ne c18) (by omega)
          · have hc18 := c18
            have q18 := q_eq hc18
            refine lv_aload_n hx hb dX10_value_71 rfl (lv_at hl 2 rfl) ?_
            refine lv_iconst (v := (0)) hx hb dX10_value_72 (by decide) ?_
            refine lv_iload_n hx hb dX10_value_73 rfl (lv_at hl 1 rfl) ?_
            refine m_callv (m_runV (1000) (As := [.int (0), .int (I1 (1000) 25)]) (rest := []) hx hb hml hown hts hE hM hS hA ce_X10_fails tb_1521 (V_X10_fails l D A ad ns I1 L2 G (0) (I1 (1000) 25) hJ hI (by first | omega | decide) (by first | omega | decide)) rfl rfl ⟨Nat.le_of_ble_eq_true rfl, Nat.le_of_ble_eq_true rfl⟩ hJ.1 rfl rfl (by decide) rfl hl.1 rfl (Nat.le_of_ble_eq_true rfl) dX10_value_74 ⟨Nat.le_of_ble_eq_true rfl, Nat.le_of_ble_eq_true rfl⟩) hS (fun u H locs hw hM hS => ?_)
            obtain ⟨I19, L20, rfl, hI, hkI19, xI19⟩ := hw
            have hM : Mem D A ad ns I19 L20 G H := hM
            have hK := hK.trans hkI19 rfl
            have pw21 : (I19 (1000) 24).toInt = (I (1000) 24 : Int32).toInt := congrArg Int32.toInt (((hkI19.get (1000) 24 rfl)).trans (hkI1.get (1000) 24 rfl))
            have pw22 : (I19 (1000) 25).toInt = (I1 (1000) 25 : Int32).toInt := congrArg Int32.toInt ((hkI19.get (1000) 25 rfl))
            have pw23 : (I19 (1000) 27).toInt = (I (1000) 27 : Int32).toInt := congrArg Int32.toInt (((hkI19.get (1000) 27 rfl)).trans (hkI1.get (1000) 27 rfl))
            have pw24 : (I19 (1000) 29).toInt = (I (1000) 29 : Int32).toInt := congrArg Int32.toInt (((hkI19.get (1000) 29 rfl)).trans (hkI1.get (1000) 29 rfl))
            have pw25 : (I19 (1000) 31).toInt = (I (1000) 31 : Int32).toInt := congrArg Int32.toInt (((hkI19.get (1000) 31 rfl)).trans (hkI1.get (1000) 31 rfl))
            have pw26 : (I19 (1000) 32).toInt = (I (1000) 32 : Int32).toInt := congrArg Int32.toInt (((hkI19.get (1000) 32 rfl)).trans (hkI1.get (1000) 32 rfl))
            exact m_vret hx hb hr hlocks hM hS (Nat.le_of_ble_eq_true rfl) (Nat.le_of_ble_eq_true rfl) ⟨_, _, rfl, hI, hK, ⟨by omega, by omega, by omega, (fun hz => by have w0 := xI19.1 (by omega); exact w0.elim), CT.bad (((hkI19.getA 1035 rfl)).trans (hkI1.getA 1035 rfl)) (((hkI19.getA 1036 rfl)).trans (hkI1.getA 1036 rfl)) (by omega) (fun hz => by have w0 := xI19.1 (by omega); exact w0.elim)⟩⟩ dX10_value_77
        · have hc16 := c16
          have q16 := q_nle hc16
          refine lv_aload_n hx hb dX10_value_46 rfl (lv_at hl 2 rfl) ?_
          refine lv_iload_n hx hb dX10_value_47 rfl (lv_at hl 0 rfl) ?_
          refine m_callq (m_runS (As := [.int (x2_38)]) (rest := [.ref (ad (1000))]) hx hb hml hown hts hE hM hS hA ce_X10_wordOf tb_1556 (V_X10_wordOf l D A ad ns I1 L2 G (x2_38) hI (by first | omega | decide)) rfl rfl ⟨Nat.le_of_ble_eq_true rfl, Nat.le_of_ble_eq_true rfl⟩  rfl hl.1 rfl (Nat.le_of_ble_eq_true rfl) dX10_value_48 ⟨Nat.le_of_ble_eq_true rfl, Nat.le_of_ble_eq_true rfl⟩) hS (fun r27 u H locs hw hM hS => ?_)
          obtain ⟨rfl, xr27⟩ := hw
          have hM : Mem D A ad ns I1 L2 G H := hM
          obtain ⟨q, rfl, hq, hn1, hn5⟩ := xr27
          have hn : q.2.2.2.length < 16 := by omega
          have kN : (Int32.ofNat q.2.2.2.length).toInt = q.2.2.2.length := nI_toInt (by omega)
          refine m_calli (m_runV (1000) (As := [.ref (D.2 100 (wi (x2_38).toNatClampNeg))]) (rest := []) hx hb hml hown hts hE hM hS hA ce_X10_stands tb_1515 (V_X10_stands l D A ad ns I1 L2 G (wi (x2_38).toNatClampNeg) _ hJ hI hq hn hn1) rfl rfl ⟨Nat.le_of_ble_eq_true rfl, Nat.le_of_ble_eq_true rfl⟩ hJ.1 rfl rfl (by decide) rfl hl.1 rfl (Nat.le_of_ble_eq_true rfl) dX10_value_51 ⟨Nat.le_of_ble_eq_true rfl, Nat.le_of_ble_eq_true rfl⟩) hS (fun r28 u H locs hw hM hS => ?_)
          obtain ⟨rfl, xr28⟩ := hw
          have hM : Mem D A ad ns I1 L2 G H := hM
          have g29 := hI.get 1000 24 (lo := 0) (hi := 400) rfl
          have g30 := hI.get 1000 25 (lo := 0) (hi := 100000) rfl
          refine lv_if_ne (tgt := 63) hx hb dX10_value_54 (by decide) (fun c31 => ?_) (fun c31 => ?_)
          · have hc31 := c31
            have q31 := q_ne hc31
            have sg32 := xr28.2.2 (by omega)
            refine lv_iload_n hx hb dX10_value_63 rfl (lv_at hl 0 rfl) ?_
            refine lv_aload_n hx hb dX10_value_64 rfl (lv_at hl 2 rfl) ?_
            refine m_geti (1000) 33 hx hb hts hown hE oc10 hM hJ.1 rfl (by decide) rfl tb_1210 dX10_value_65 ?_
            have z33 : I1 (1000) 33 = I (1000) 33 := (hkI1.get (1000) 33 rfl)
            rw [z33]
            refine lv_icmp_ne (tgt := 78) hx hb dX10_value_68 (by decide) (fun c34 => ?_) (fun c34 => ?_)
            · have hc34 := c34
              have q34 := q_ne hc34
              refine lv_aload_n hx hb dX10_value_78 rfl (lv_at hl 2 rfl) ?_
              refine lv_iload_n hx hb dX10_value_79 rfl (lv_at hl 1 rfl) ?_
              refine m_callv (m_runV (1000) (As := [.int (I1 (1000) 25)]) (rest := []) hx hb hml hown hts hE hM hS hA ce_X10_isCounted tb_1548 (V_X10_isCounted l D A ad ns I1 L2 G (I1 (1000) 25) hJ hI (fun hz => by have w0 := hPI (by omega); omega) (by first | omega | decide)) rfl rfl ⟨Nat.le_of_ble_eq_true rfl, Nat.le_of_ble_eq_true rfl⟩ hJ.1 rfl rfl (by decide) rfl hl.1 rfl (Nat.le_of_ble_eq_true rfl) dX10_value_80 ⟨Nat.le_of_ble_eq_true rfl, Nat.le_of_ble_eq_true rfl⟩) hS (fun u H locs hw hM hS => ?_)
              obtain ⟨I35, L36, rfl, hI, hkI35, xI35⟩ := hw
              have hM : Mem D A ad ns I35 L36 G H := hM
              have hK := hK.trans hkI35 rfl
              have pw37 : (I35 (1000) 24).toInt = (I (1000) 24 : Int32).toInt := congrArg Int32.toInt (((hkI35.get (1000) 24 rfl)).trans (hkI1.get (1000) 24 rfl))
              have pw38 : (I35 (1000) 25).toInt = (I1 (1000) 25 : Int32).toInt := congrArg Int32.toInt ((hkI35.get (1000) 25 rfl))
              have pw39 : (I35 (1000) 27).toInt = (I (1000) 27 : Int32).toInt := congrArg Int32.toInt (((hkI35.get (1000) 27 rfl)).trans (hkI1.get (1000) 27 rfl))
              have pw40 : (I35 (1000) 29).toInt = (I (1000) 29 : Int32).toInt := congrArg Int32.toInt (((hkI35.get (1000) 29 rfl)).trans (hkI1.get (1000) 29 rfl))
              have pw41 : (I35 (1000) 32).toInt = (I (1000) 32 : Int32).toInt := congrArg Int32.toInt (((hkI35.get (1000) 32 rfl)).trans (hkI1.get (1000) 32 rfl))
              refine lv_aload_n hx hb dX10_value_83 rfl (lv_at hl 2 rfl) ?_
              refine lv_dup hx hb dX10_value_84 rfl ?_
              refine m_geti (1000) 25 hx hb hts hown hE oc10 hM hJ.1 rfl (by decide) rfl tb_1202 dX10_value_85 ?_
              have g42 := hI.get (1000) 25 (lo := 0) (hi := 100000) rfl
              have z43 : I35 (1000) 25 = I1 (1000) 25 := (hkI35.get (1000) 25 rfl)
              rw [z43] at g42 ⊢
              refine lv_iload_n hx hb dX10_value_88 rfl (lv_at hl 0 rfl) ?_
              refine m_callq (m_runS (As := [.int (x2_38)]) (rest := [.int (I1 (1000) 25), .ref (ad (1000))]) hx hb hml hown hts hE hM hS hA ce_X10_wordOf tb_1556 (V_X10_wordOf l D A ad ns I35 L36 G (x2_38) hI (by first | omega | decide)) rfl rfl ⟨Nat.le_of_ble_eq_true rfl, Nat.le_of_ble_eq_true rfl⟩  rfl hl.1 rfl (Nat.le_of_ble_eq_true rfl) dX10_value_89 ⟨Nat.le_of_ble_eq_true rfl, Nat.le_of_ble_eq_true rfl⟩) hS (fun r44 u H locs hw hM hS => ?_)
              obtain ⟨rfl, xr44⟩ := hw
              have hM : Mem D A ad ns I35 L36 G H := hM
              obtain ⟨q2, rfl, hq2, -, -⟩ := xr44
              refine m_calli (m_runVA (D.2 100 (wi (x2_38).toNatClampNeg)) (As := []) (rest := [.int (I1 (1000) 25), .ref (ad (1000))]) hx hb hml hown hts hE hM hS hA ce_J0_length_8abf5 tb_1519 (C_J0_length_8abf5 l D A ad ns I35 L36 G (wi (x2_38).toNatClampNeg) _ hq hn) rfl rfl ⟨Nat.le_of_ble_eq_true rfl, Nat.le_of_ble_eq_true rfl⟩ (m_strr hE hS (wi (x2_38).toNatClampNeg) hq) rfl hl.1 rfl (Nat.le_of_ble_eq_true rfl) dX10_value_92 ⟨Nat.le_of_ble_eq_true rfl, Nat.le_of_ble_eq_true rfl⟩) hS (fun r45 u H locs hw hM hS => ?_)
              obtain ⟨rfl, rfl⟩ := hw
              have hM : Mem D A ad ns I35 L36 G H := hM
              refine lv_iadd hx hb dX10_value_95 ?_
              refine lv_topi (fun v46 ev46 => ?_)
              have tv46 := a_add ev46 (by omega) (by omega)
              refine m_puti (1000) 25 hx hb hts hown hE oc10 hM hS hJ.1 rfl (by decide) rfl rfl rfl rfl tb_1202 dX10_value_96 (fun H locs I47 eI47 hM hS => ?_)
              subst eI47
              have hI := hI.put (n := 1000) (k := 25) (v := v46) (lo := 0) (hi := 100000) rfl (by first | omega | decide)
              have hK := hK.put (n := 1000) (k := 25) (v := v46) (by first | rfl | simp [inR])
              refine lv_aload_n hx hb dX10_value_99 rfl (lv_at hl 2 rfl) ?_
              refine lv_iconst (v := (1)) hx hb dX10_value_100 (by decide) ?_
              refine lv_iload_n hx hb dX10_value_101 rfl (lv_at hl 0 rfl) ?_
              have pw48 : ((u2 I35 (1000) 25 (v46)) (1000) 24).toInt = (I (1000) 24 : Int32).toInt := congrArg Int32.toInt ((((show (u2 I35 (1000) 25 (v46)) (1000) 24 = I35 (1000) 24 from by simp [u2_v])).trans (hkI35.get (1000) 24 rfl)).trans (hkI1.get (1000) 24 rfl))
              have pw49 : ((u2 I35 (1000) 25 (v46)) (1000) 25).toInt = (v46 : Int32).toInt := congrArg Int32.toInt ((show (u2 I35 (1000) 25 (v46)) (1000) 25 = v46 from by simp [u2_v]))
              have pw50 : ((u2 I35 (1000) 25 (v46)) (1000) 26).toInt = (I35 (1000) 26 : Int32).toInt := congrArg Int32.toInt ((show (u2 I35 (1000) 25 (v46)) (1000) 26 = I35 (1000) 26 from by simp [u2_v]))
              have pw51 : ((u2 I35 (1000) 25 (v46)) (1000) 27).toInt = (I (1000) 27 : Int32).toInt := congrArg Int32.toInt ((((show (u2 I35 (1000) 25 (v46)) (1000) 27 = I35 (1000) 27 from by simp [u2_v])).trans (hkI35.get (1000) 27 rfl)).trans (hkI1.get (1000) 27 rfl))
              have pw52 : ((u2 I35 (1000) 25 (v46)) (1000) 29).toInt = (I (1000) 29 : Int32).toInt := congrArg Int32.toInt ((((show (u2 I35 (1000) 25 (v46)) (1000) 29 = I35 (1000) 29 from by simp [u2_v])).trans (hkI35.get (1000) 29 rfl)).trans (hkI1.get (1000) 29 rfl))
              have pw53 : ((u2 I35 (1000) 25 (v46)) (1000) 31).toInt = (I35 (1000) 31 : Int32).toInt := congrArg Int32.toInt ((show (u2 I35 (1000) 25 (v46)) (1000) 31 = I35 (1000) 31 from by simp [u2_v]))
              have pw54 : ((u2 I35 (1000) 25 (v46)) (1000) 32).toInt = (I (1000) 32 : Int32).toInt := congrArg Int32.toInt ((((show (u2 I35 (1000) 25 (v46)) (1000) 32 = I35 (1000) 32 from by simp [u2_v])).trans (hkI35.get (1000) 32 rfl)).trans (hkI1.get (1000) 32 rfl))
              refine m_callv (m_runV (1000) (As := [.int (1), .int (x2_38)]) (rest := []) hx hb hml hown hts hE hM hS hA ce_X10_entry tb_1552 (V_X10_entry l D A ad ns (u2 I35 (1000) 25 (v46)) L36 G (1) (x2_38) hJ hI (fun hz => by have w0 := xI35 (by omega); have w1 := hPI (by omega); omega)) rfl rfl ⟨Nat.le_of_ble_eq_true rfl, Nat.le_of_ble_eq_true rfl⟩ hJ.1 rfl rfl (by decide) rfl hl.1 rfl (Nat.le_of_ble_eq_true rfl) dX10_value_102 ⟨Nat.le_of_ble_eq_true rfl, Nat.le_of_ble_eq_true rfl⟩) hS (fun u H locs hw hM hS => ?_)
              obtain ⟨I55, L56, rfl, hI, hkI55, xI55⟩ := hw
              have hM : Mem D A ad ns I55 L56 G H := hM
              have hK := hK.trans hkI55 rfl
              replace hC := CT.link (I2 := (u2 I35 (1000) 25 (v46))) hC ((((show (u2 I35 (1000) 25 (v46)) 1035 = I35 1035 from by funext zz; simp [u2_v])).trans (hkI35.getA 1035 rfl)).trans (hkI1.getA 1035 rfl)) ((((show (u2 I35 (1000) 25 (v46)) 1036 = I35 1036 from by funext zz; simp [u2_v])).trans (hkI35.getA 1036 rfl)).trans (hkI1.getA 1036 rfl)) (by omega) (fun hz => by have w0 := xI35 (by omega); have w1 := hPI (by omega); omega)
              have pw57 : (I55 (1000) 24).toInt = (I (1000) 24 : Int32).toInt := congrArg Int32.toInt (((((hkI55.get (1000) 24 rfl)).trans (show (u2 I35 (1000) 25 (v46)) (1000) 24 = I35 (1000) 24 from by simp [u2_v])).trans (hkI35.get (1000) 24 rfl)).trans (hkI1.get (1000) 24 rfl))
              have pw58 : (I55 (1000) 25).toInt = (v46 : Int32).toInt := congrArg Int32.toInt (((hkI55.get (1000) 25 rfl)).trans (show (u2 I35 (1000) 25 (v46)) (1000) 25 = v46 from by simp [u2_v]))
              have pw59 : (I55 (1000) 26).toInt = (I35 (1000) 26 : Int32).toInt := congrArg Int32.toInt (((hkI55.get (1000) 26 rfl)).trans (show (u2 I35 (1000) 25 (v46)) (1000) 26 = I35 (1000) 26 from by simp [u2_v]))
              have pw60 : (I55 (1000) 27).toInt = (I (1000) 27 : Int32).toInt := congrArg Int32.toInt (((((hkI55.get (1000) 27 rfl)).trans (show (u2 I35 (1000) 25 (v46)) (1000) 27 = I35 (1000) 27 from by simp [u2_v])).trans (hkI35.get (1000) 27 rfl)).trans (hkI1.get (1000) 27 rfl))
              have pw61 : (I55 (1000) 31).toInt = (I35 (1000) 31 : Int32).toInt := congrArg Int32.toInt (((hkI55.get (1000) 31 rfl)).trans (show (u2 I35 (1000) 25 (v46)) (1000) 31 = I35 (1000) 31 from by simp [u2_v]))
              have pw62 : (I55 (1000) 32).toInt = (I (1000) 32 : Int32).toInt := congrArg Int32.toInt (((((hkI55.get (1000) 32 rfl)).trans (show (u2 I35 (1000) 25 (v46)) (1000) 32 = I35 (1000) 32 from by simp [u2_v])).trans (hkI35.get (1000) 32 rfl)).trans (hkI1.get (1000) 32 rfl))
              have g63 := hI0.get 1000 27 (lo := 0) (hi := 5) rfl
              have g64 := hI0.get 1000 29 (lo := 0) (hi := 300) rfl
              replace hC := hC.comp (n2 := 1) (xI55.2.2.2.2.ct (by omega) (by omega) xI55.2.2.1 (by omega)) (by omega) (by omega) (by omega) (by omega) (fun hz => by omega)
              have xeI55 : Imp ((I55 1000 26).toInt = 0) ((I55 1000 29).toInt = ((u2 I35 (1000) 25 (v46)) 1000 29).toInt + 1) := fun hz => xI55.2.2.1 (by omega)
              exact m_vret hx hb hr hlocks hM hS (Nat.le_of_ble_eq_true rfl) (Nat.le_of_ble_eq_true rfl) ⟨_, _, rfl, hI, hK, ⟨by omega, by omega, by omega, (fun hz => by have w0 := xeI55 (by omega); have w1 := xI35 (by omega); have w2 := hPI (by omega); omega), hC⟩⟩ dX10_value_105
            · exact absurd (q_eq c34) (by omega)
          · have hc31 := c31
            have q31 := q_eq hc31
            obtain ⟨v65, ev65⟩ : ∃ z : Int32, z = x2_38 + Int32.ofInt (1) := ⟨_, rfl⟩
            have tv65 := a_inc ev65 (by decide) (by omega) (by omega)
            refine lv_iinc (v := v65) (lv' := [(2, .int (v65)), (1, .int (I1 (1000) 25)), (0, .ref (ad (1000)))]) hx hb dX10_value_57 hl (k := 0) rfl ev65.symm (by decide) rfl (fun ls hl => ?_)
            refine lv_goto (tgt := 38) hx hb dX10_value_60 (by decide) ?_
            exact ih38 (v65) _ _ ls (by first | omega | decide) (by omega) hM hS (lv_sub hl [0, 1, 2] rfl)
    exact loop38 (_ + 1) (0) _ _ ls (by first | omega | decide) (Nat.lt_succ_self _) hM hS (lv_sub hl [0, 1, 2] rfl)
  · have hc13 := c13
    have q13 := q_ne hc13
    have sg66 := xr10.2.2 (by omega)
    refine lv_aload_n hx hb dX10_value_16 rfl (lv_at hl 1 rfl) ?_
    refine lv_ldcw (v := (99999)) hx hb hown (hts _ tb_1547) dX10_value_17 ?_
    refine m_calli (m_runV (1000) (As := [.int (99999)]) (rest := []) hx hb hml hown hts hE hM hS hA ce_X10_digits tb_1525 (V_X10_digits l D A ad ns I1 L2 G (99999) hJ hI (by omega)) rfl rfl ⟨Nat.le_of_ble_eq_true rfl, Nat.le_of_ble_eq_true rfl⟩ hJ.1 rfl rfl (by decide) rfl hl.1 rfl (Nat.le_of_ble_eq_true rfl) dX10_value_20 ⟨Nat.le_of_ble_eq_true rfl, Nat.le_of_ble_eq_true rfl⟩) hS (fun r67 u H locs hw hM hS => ?_)
    obtain ⟨I68, L69, rfl, hI, hkI68, xr67⟩ := hw
    have hM : Mem D A ad ns I68 L69 G H := hM
    have hK := hK.trans hkI68 rfl
    have pw70 : (I68 (1000) 24).toInt = (I (1000) 24 : Int32).toInt := congrArg Int32.toInt (((hkI68.get (1000) 24 rfl)).trans (hkI1.get (1000) 24 rfl))
    have pw71 : (I68 (1000) 27).toInt = (I (1000) 27 : Int32).toInt := congrArg Int32.toInt (((hkI68.get (1000) 27 rfl)).trans (hkI1.get (1000) 27 rfl))
    have pw72 : (I68 (1000) 29).toInt = (I (1000) 29 : Int32).toInt := congrArg Int32.toInt (((hkI68.get (1000) 29 rfl)).trans (hkI1.get (1000) 29 rfl))
    have pw73 : (I68 (1000) 31).toInt = (I (1000) 31 : Int32).toInt := congrArg Int32.toInt (((hkI68.get (1000) 31 rfl)).trans (hkI1.get (1000) 31 rfl))
    have pw74 : (I68 (1000) 32).toInt = (I (1000) 32 : Int32).toInt := congrArg Int32.toInt (((hkI68.get (1000) 32 rfl)).trans (hkI1.get (1000) 32 rfl))
    refine lv_istore_n (lv' := [(2, .int (r67)), (1, .int (I1 (1000) 25)), (0, .ref (ad (1000)))]) hx hb dX10_value_23 rfl hl (by decide) rfl (fun ls hl => ?_)
    refine lv_aload_n hx hb dX10_value_24 rfl (lv_at hl 2 rfl) ?_
    refine lv_iload_n hx hb dX10_value_25 rfl (lv_at hl 1 rfl) ?_
    refine m_callv (m_runV (1000) (As := [.int (I1 (1000) 25)]) (rest := []) hx hb hml hown hts hE hM hS hA ce_X10_isCounted tb_1548 (V_X10_isCounted l D A ad ns I68 L69 G (I1 (1000) 25) hJ hI (fun hz => by have w0 := xr67.2.2 (by omega); have w1 := hPI (by omega); omega) (by first | omega | decide)) rfl rfl ⟨Nat.le_of_ble_eq_true rfl, Nat.le_of_ble_eq_true rfl⟩ hJ.1 rfl rfl (by decide) rfl hl.1 rfl (Nat.le_of_ble_eq_true rfl) dX10_value_26 ⟨Nat.le_of_ble_eq_true rfl, Nat.le_of_ble_eq_true rfl⟩) hS (fun u H locs hw hM hS => ?_)
    obtain ⟨I75, L76, rfl, hI, hkI75, xI75⟩ := hw
    have hM : Mem D A ad ns I75 L76 G H := hM
    have hK := hK.trans hkI75 rfl
    have pw77 : (I75 (1000) 24).toInt = (I (1000) 24 : Int32).toInt := congrArg Int32.toInt ((((hkI75.get (1000) 24 rfl)).trans (hkI68.get (1000) 24 rfl)).trans (hkI1.get (1000) 24 rfl))
    have pw78 : (I75 (1000) 25).toInt = (I68 (1000) 25 : Int32).toInt := congrArg Int32.toInt ((hkI75.get (1000) 25 rfl))
    have pw79 : (I75 (1000) 27).toInt = (I (1000) 27 : Int32).toInt := congrArg Int32.toInt ((((hkI75.get (1000) 27 rfl)).trans (hkI68.get (1000) 27 rfl)).trans (hkI1.get (1000) 27 rfl))
    have pw80 : (I75 (1000) 29).toInt = (I (1000) 29 : Int32).toInt := congrArg Int32.toInt ((((hkI75.get (1000) 29 rfl)).trans (hkI68.get (1000) 29 rfl)).trans (hkI1.get (1000) 29 rfl))
    have pw81 : (I75 (1000) 32).toInt = (I (1000) 32 : Int32).toInt := congrArg Int32.toInt ((((hkI75.get (1000) 32 rfl)).trans (hkI68.get (1000) 32 rfl)).trans (hkI1.get (1000) 32 rfl))
    refine lv_aload_n hx hb dX10_value_29 rfl (lv_at hl 2 rfl) ?_
    refine lv_iconst (v := (0)) hx hb dX10_value_30 (by decide) ?_
    refine lv_iload_n hx hb dX10_value_31 rfl (lv_at hl 0 rfl) ?_
    refine m_callv (m_runV (1000) (As := [.int (0), .int (r67)]) (rest := []) hx hb hml hown hts hE hM hS hA ce_X10_entry tb_1552 (V_X10_entry l D A ad ns I75 L76 G (0) (r67) hJ hI (fun hz => by have w0 := xI75 (by omega); have w1 := xr67.2.2 (by omega); have w2 := hPI (by omega); omega)) rfl rfl ⟨Nat.le_of_ble_eq_true rfl, Nat.le_of_ble_eq_true rfl⟩ hJ.1 rfl rfl (by decide) rfl hl.1 rfl (Nat.le_of_ble_eq_true rfl) dX10_value_32 ⟨Nat.le_of_ble_eq_true rfl, Nat.le_of_ble_eq_true rfl⟩) hS (fun u H locs hw hM hS => ?_)
    obtain ⟨I82, L83, rfl, hI, hkI82, xI82⟩ := hw
    have hM : Mem D A ad ns I82 L83 G H := hM
    have hK := hK.trans hkI82 rfl
    replace hC := CT.link (I2 := I75) hC ((((hkI75.getA 1035 rfl)).trans (hkI68.getA 1035 rfl)).trans (hkI1.getA 1035 rfl)) ((((hkI75.getA 1036 rfl)).trans (hkI68.getA 1036 rfl)).trans (hkI1.getA 1036 rfl)) (by omega) (fun hz => by have w0 := xI75 (by omega); have w1 := xr67.2.2 (by omega); have w2 := hPI (by omega); omega)
    have pw84 : (I82 (1000) 24).toInt = (I (1000) 24 : Int32).toInt := congrArg Int32.toInt (((((hkI82.get (1000) 24 rfl)).trans (hkI75.get (1000) 24 rfl)).trans (hkI68.get (1000) 24 rfl)).trans (hkI1.get (1000) 24 rfl))
    have pw85 : (I82 (1000) 25).toInt = (I68 (1000) 25 : Int32).toInt := congrArg Int32.toInt (((hkI82.get (1000) 25 rfl)).trans (hkI75.get (1000) 25 rfl))
    have pw86 : (I82 (1000) 26).toInt = (I75 (1000) 26 : Int32).toInt := congrArg Int32.toInt ((hkI82.get (1000) 26 rfl))
    have pw87 : (I82 (1000) 27).toInt = (I (1000) 27 : Int32).toInt := congrArg Int32.toInt (((((hkI82.get (1000) 27 rfl)).trans (hkI75.get (1000) 27 rfl)).trans (hkI68.get (1000) 27 rfl)).trans (hkI1.get (1000) 27 rfl))
    have pw88 : (I82 (1000) 31).toInt = (I75 (1000) 31 : Int32).toInt := congrArg Int32.toInt ((hkI82.get (1000) 31 rfl))
    have pw89 : (I82 (1000) 32).toInt = (I (1000) 32 : Int32).toInt := congrArg Int32.toInt (((((hkI82.get (1000) 32 rfl)).trans (hkI75.get (1000) 32 rfl)).trans (hkI68.get (1000) 32 rfl)).trans (hkI1.get (1000) 32 rfl))
    have g90 := hI0.get 1000 27 (lo := 0) (hi := 5) rfl
    have g91 := hI0.get 1000 29 (lo := 0) (hi := 300) rfl
    replace hC := hC.comp (n2 := 1) (xI82.2.2.2.2.ct (by omega) (by omega) xI82.2.2.1 (by omega)) (by omega) (by omega) (by omega) (by omega) (fun hz => by omega)
    have xeI82 : Imp ((I82 1000 26).toInt = 0) ((I82 1000 29).toInt = (I75 1000 29).toInt + 1) := fun hz => xI82.2.2.1 (by omega)
    exact m_vret hx hb hr hlocks hM hS (Nat.le_of_ble_eq_true rfl) (Nat.le_of_ble_eq_true rfl) ⟨_, _, rfl, hI, hK, ⟨by omega, by omega, by omega, (fun hz => by have w0 := xeI82 (by omega); have w1 := xI75 (by omega); have w2 := xr67.2.2 (by omega); have w3 := hPI (by omega); omega), hC⟩⟩ dX10_value_35
