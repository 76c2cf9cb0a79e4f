set_option maxHeartbeats 4000000 in
set_option maxRecDepth 20000 in
theorem V_X10_compared_h (l : Launch) (D : va_G) (A : Nat → Prop) (ad : Nat → Nat) (ns : List Nat) (I : MI) (L : ML) (G : MG) (hJ : SGM ns G) (hI : INV I) (hp : (I 1000 25).toInt ≤ 400) (hPI : Imp ((I 1000 26).toInt = 0) (0 ≤ (I 1000 31).toInt ∧ (I 1000 31).toInt ≤ 60 ∧ 3 * (I 1000 29).toInt ≤ 6 * (I 1000 31).toInt + (I 1000 25).toInt)) (hbt : BTM I) : Met l yX10_compared (wd yX10_compared cX10_compared 3 none) ({ frames := 8, cells := 0, slots := 0, locals := 173 }) (va_Pc [.ref (ad (1000))] (PM D A ad ns I L G)) (va_Qv (fun u => ∃ I2 L2, u = (ad, ns, I2, L2, G) ∧ INV I2 ∧ Kp [(1035, 1037)] [(1000, 25), (1000, 26), (1000, 29), (1000, 31)] I I2 ∧ ((CMP (TM I) I I2 ∧ NX5 (TM I) I2) ∧ (I 1000 25).toInt ≤ (I2 1000 25).toInt ∧ (I2 1000 25).toInt ≤ 400 ∧ (I 1000 29).toInt ≤ (I2 1000 29).toInt ∧ Imp ((I2 1000 26).toInt = 0) ((I 1000 26).toInt = 0 ∧ 0 ≤ (I2 1000 31).toInt ∧ (I2 1000 31).toInt ≤ 60 ∧ (I2 1000 29).toInt + 3 ≤ (I 1000 29).toInt + 2 * ((I2 1000 31).toInt - (I 1000 31).toInt)) ∧ CT I I2 0 1)) (BM D A) A) 0 0 A := by
  refine m_ofW (by decide) (Nat.le_of_ble_eq_true rfl) ?_
  intro p e s m below meth c ls args hC hE hM hA hS hl
  obtain ⟨hx, hb, hml, hown, hts, hr, hlocks, hin⟩ := hC
  have k0 : (0 : Int32).toInt = 0 := by decide
  have k1 : (1 : Int32).toInt = 1 := by decide
  have k4 : (4 : Int32).toInt = 4 := by decide
  have k5 : (5 : Int32).toInt = 5 := by decide
  have k6 : (6 : Int32).toInt = 6 := by decide
  have k7 : (7 : Int32).toInt = 7 := by decide
  have k8 : (8 : Int32).toInt = 8 := by decide
  have k60 : (60 : Int32).toInt = 60 := by decide
  have k61 : (61 : Int32).toInt = 61 := by decide
  have k62 : (62 : Int32).toInt = 62 := by decide
  have hC := CT.rf I 0
  have hI0 := hI
  have hT := TM_ok hI
  have gRL := hI.get 1000 29 (lo := 0) (hi := 300) rfl
  have hRL := RC_len (J := I) gRL.1
  have gPP := hI.get 1000 25 (lo := 0) (hi := 100000) rfl
  have hK : Kp [(1035, 1037)] [(1000, 25), (1000, 26), (1000, 29), (1000, 31)] I I := Kp.rf
  have hl : lv_has ls 3 [(0, .ref (ad (1000)))] := hl
  refine lv_aload_n hx hb dX10_compared_0 rfl (lv_at hl 0 rfl) ?_
  refine m_callv (m_runV (1000) (As := []) (rest := []) hx hb hml hown hts hE hM hS hA ce_X10_sum tb_1535 (V_X10_sum_h l D A ad ns I L G hJ hI (by omega) (fun hz => by have w0 := hPI (by omega); omega) hbt) rfl rfl ⟨Nat.le_of_ble_eq_true rfl, Nat.le_of_ble_eq_true rfl⟩ hJ.1 rfl rfl (by decide) rfl hl.1 rfl (Nat.le_of_ble_eq_true rfl) dX10_compared_1 ⟨Nat.le_of_ble_eq_true rfl, Nat.le_of_ble_eq_true rfl⟩) hS (fun u H locs hw hM hS => ?_)
  obtain ⟨I1, L2, rfl, hI, hkI1, xI1⟩ := hw
  have hM : Mem D A ad ns I1 L2 G H := hM
  have hK := hK.trans hkI1 rfl
  have pw3 : (I1 (1000) 24).toInt = (I (1000) 24 : Int32).toInt := congrArg Int32.toInt ((hkI1.get (1000) 24 rfl))
  have pw4 : (I1 (1000) 27).toInt = (I (1000) 27 : Int32).toInt := congrArg Int32.toInt ((hkI1.get (1000) 27 rfl))
  have pw5 : (I1 (1000) 30).toInt = (I (1000) 30 : Int32).toInt := congrArg Int32.toInt ((hkI1.get (1000) 30 rfl))
  have pw6 : (I1 (1000) 32).toInt = (I (1000) 32 : Int32).toInt := congrArg Int32.toInt ((hkI1.get (1000) 32 rfl))
  have g7 := hI0.get 1000 27 (lo := 0) (hi := 5) rfl
  have g8 := hI0.get 1000 29 (lo := 0) (hi := 300) rfl
  replace hC := hC.comp ((xI1.2.2.2.2.2).mono0 (0)) (by omega) (by omega) (by omega) (by omega) (fun hz => (xI1.2.2.2.2.1 hz).1)
  have nw9 := xI1.1
  have hIs10 := hI
  refine lv_aload_n hx hb dX10_compared_4 rfl (lv_at hl 0 rfl) ?_
  refine m_calli (m_runV (1000) (As := []) (rest := []) hx hb hml hown hts hE hM hS hA ce_X10_sign tb_1510 (V_X10_sign_h l D A ad ns I1 L2 G hJ hI) rfl rfl ⟨Nat.le_of_ble_eq_true rfl, Nat.le_of_ble_eq_true rfl⟩ hJ.1 rfl rfl (by decide) rfl hl.1 rfl (Nat.le_of_ble_eq_true rfl) dX10_compared_5 ⟨Nat.le_of_ble_eq_true rfl, Nat.le_of_ble_eq_true rfl⟩) hS (fun r11 u H locs hw hM hS => ?_)
  obtain ⟨rfl, xr11⟩ := hw
  have hM : Mem D A ad ns I1 L2 G H := hM
  have g12 := hI.get 1000 24 (lo := 0) (hi := 400) rfl
  have g13 := hI.get 1000 25 (lo := 0) (hi := 100000) rfl
  have sx14 := xr11.1
  rw [show TM I1 = TM I from (TM_of (hK.getA 1034 rfl) (hK.get 1000 24 rfl))] at sx14
  refine lv_istore_n (lv' := [(1, .int (r11)), (0, .ref (ad (1000)))]) hx hb dX10_compared_8 rfl hl (by decide) rfl (fun ls hl => ?_)
  refine lv_iload_n hx hb dX10_compared_9 rfl (lv_at hl 0 rfl) ?_
  refine lv_bipush (v := (60)) hx hb dX10_compared_10 (by decide) ?_
  refine lv_icmp_eq (tgt := 37) hx hb dX10_compared_12 (by decide) (fun c15 => ?_) (fun c15 => ?_)
  · have hc15 := c15
    have q15 := q_eq hc15
    have sg16 := xr11.2.2.2 (by omega)
    have sc17 := sx14.y (k := 60) (by omega) (by decide)
    refine lv_aload_n hx hb dX10_compared_37 rfl (lv_at hl 1 rfl) ?_
    refine lv_aload_n hx hb dX10_compared_38 rfl (lv_at hl 1 rfl) ?_
    refine m_geti (1000) 25 hx hb hts hown hE oc10 hM hJ.1 rfl (by decide) rfl tb_1202 dX10_compared_39 ?_
    have g18 := hI.get (1000) 25 (lo := 0) (hi := 100000) rfl
    refine m_callv (m_runV (1000) (As := [.int (I1 (1000) 25)]) (rest := []) hx hb hml hown hts hE hM hS hA ce_X10_isCounted tb_1548 (V_X10_isCounted_h l D A ad ns I1 L2 G (I1 (1000) 25) hJ hI (fun hz => by have w0 := xI1.2.2.2.2.1 (by omega); have w1 := hPI (by omega); omega) (by first | omega | decide)) rfl rfl ⟨Nat.le_of_ble_eq_true rfl, Nat.le_of_ble_eq_true rfl⟩ hJ.1 rfl rfl (by decide) rfl hl.1 rfl (Nat.le_of_ble_eq_true rfl) dX10_compared_42 ⟨Nat.le_of_ble_eq_true rfl, Nat.le_of_ble_eq_true rfl⟩) hS (fun u H locs hw hM hS => ?_)
    obtain ⟨I19, L20, rfl, hI, hkI19, xI19⟩ := hw
    have hM : Mem D A ad ns I19 L20 G H := hM
    have hK := hK.trans hkI19 rfl
    have pw21 : (I19 (1000) 24).toInt = (I (1000) 24 : Int32).toInt := (congrArg Int32.toInt ((hkI19.get (1000) 24 rfl))).trans pw3
    have pw22 : (I19 (1000) 25).toInt = (I1 (1000) 25 : Int32).toInt := congrArg Int32.toInt ((hkI19.get (1000) 25 rfl))
    have pw23 : (I19 (1000) 27).toInt = (I (1000) 27 : Int32).toInt := (congrArg Int32.toInt ((hkI19.get (1000) 27 rfl))).trans pw4
    have pw24 : (I19 (1000) 29).toInt = (I1 (1000) 29 : Int32).toInt := congrArg Int32.toInt ((hkI19.get (1000) 29 rfl))
    have pw25 : (I19 (1000) 30).toInt = (I (1000) 30 : Int32).toInt := (congrArg Int32.toInt ((hkI19.get (1000) 30 rfl))).trans pw5
    have pw26 : (I19 (1000) 32).toInt = (I (1000) 32 : Int32).toInt := (congrArg Int32.toInt ((hkI19.get (1000) 32 rfl))).trans pw6
    refine lv_aload_n hx hb dX10_compared_45 rfl (lv_at hl 1 rfl) ?_
    refine lv_dup hx hb dX10_compared_46 rfl ?_
    refine m_geti (1000) 25 hx hb hts hown hE oc10 hM hJ.1 rfl (by decide) rfl tb_1202 dX10_compared_47 ?_
    have g27 := hI.get (1000) 25 (lo := 0) (hi := 100000) rfl
    have z28 : I19 (1000) 25 = I1 (1000) 25 := (hkI19.get (1000) 25 rfl)
    rw [z28] at g27 ⊢
    refine lv_iconst (v := (1)) hx hb dX10_compared_50 (by decide) ?_
    refine lv_iadd hx hb dX10_compared_51 ?_
    refine lv_topi (fun v29 ev29 => ?_)
    have tv29 := a_add ev29 (by omega) (by omega)
    refine m_puti (1000) 25 hx hb hts hown hE oc10 hM hS hJ.1 rfl (by decide) rfl rfl rfl rfl tb_1202 dX10_compared_52 (fun H locs I30 eI30 hM hS => ?_)
    subst eI30
    have hI := hI.put (n := 1000) (k := 25) (v := v29) (lo := 0) (hi := 100000) rfl (by first | omega | decide)
    have hK := hK.put (n := 1000) (k := 25) (v := v29) (by first | rfl | simp [inR])
    refine lv_iload_n hx hb dX10_compared_55 rfl (lv_at hl 0 rfl) ?_
    refine lv_bipush (v := (61)) hx hb dX10_compared_56 (by decide) ?_
    refine lv_icmp_eq (tgt := 74) hx hb dX10_compared_58 (by decide) (fun c31 => ?_) (fun c31 => ?_)
    · have hc31 := c31
      have q31 := q_eq hc31
      have sg32 := xr11.2.2.2 (by omega)
      have sc33 := sx14.y (k := 61) (by omega) (by decide)
      refine lv_iconst (v := (0)) hx hb dX10_compared_74 (by decide) ?_
      refine lv_istore_n (lv' := [(2, .int (0)), (1, .int (r11)), (0, .ref (ad (1000)))]) hx hb dX10_compared_75 rfl hl (by decide) rfl (fun ls hl => ?_)
      refine lv_aload_n hx hb dX10_compared_76 rfl (lv_at hl 2 rfl) ?_
      refine lv_dup hx hb dX10_compared_77 rfl ?_
      refine m_geti (1000) 25 hx hb hts hown hE oc10 hM hJ.1 rfl (by decide) rfl tb_1202 dX10_compared_78 ?_
      have g34 := hI.get (1000) 25 (lo := 0) (hi := 100000) rfl
      have z35 : (u2 I19 (1000) 25 (v29)) (1000) 25 = v29 := (show (u2 I19 (1000) 25 (v29)) (1000) 25 = v29 from by simp [u2_v])
      rw [z35] at g34 ⊢
      refine lv_iload_n hx hb dX10_compared_81 rfl (lv_at hl 0 rfl) ?_
      refine lv_if_eq (tgt := 89) hx hb dX10_compared_82 (by decide) (fun c36 => ?_) (fun c36 => ?_)
      · have hc36 := c36
        have q36 := q_eq hc36
        refine lv_iconst (v := (0)) hx hb dX10_compared_89 (by decide) ?_
        refine lv_iadd hx hb dX10_compared_90 ?_
        refine lv_topi (fun v37 ev37 => ?_)
        have tv37 := a_add ev37 (by omega) (by omega)
        refine m_puti (1000) 25 hx hb hts hown hE oc10 hM hS hJ.1 rfl (by decide) rfl rfl rfl rfl tb_1202 dX10_compared_91 (fun H locs I38 eI38 hM hS => ?_)
        subst eI38
        have hI := hI.put (n := 1000) (k := 25) (v := v37) (lo := 0) (hi := 100000) rfl (by first | omega | decide)
        have hK := hK.put (n := 1000) (k := 25) (v := v37) (by first | rfl | simp [inR])
        refine lv_aload_n hx hb dX10_compared_94 rfl (lv_at hl 2 rfl) ?_
        have pw39 : ((u2 (u2 I19 (1000) 25 (v29)) (1000) 25 (v37)) (1000) 24).toInt = (I (1000) 24 : Int32).toInt := (congrArg Int32.toInt ((show (u2 (u2 I19 (1000) 25 (v29)) (1000) 25 (v37)) (1000) 24 = I19 (1000) 24 from by simp [u2_v]))).trans pw21
        have pw40 : ((u2 (u2 I19 (1000) 25 (v29)) (1000) 25 (v37)) (1000) 25).toInt = (v37 : Int32).toInt := congrArg Int32.toInt ((show (u2 (u2 I19 (1000) 25 (v29)) (1000) 25 (v37)) (1000) 25 = v37 from by simp [u2_v]))
        have pw41 : ((u2 (u2 I19 (1000) 25 (v29)) (1000) 25 (v37)) (1000) 26).toInt = (I19 (1000) 26 : Int32).toInt := congrArg Int32.toInt ((show (u2 (u2 I19 (1000) 25 (v29)) (1000) 25 (v37)) (1000) 26 = I19 (1000) 26 from by simp [u2_v]))
        have pw42 : ((u2 (u2 I19 (1000) 25 (v29)) (1000) 25 (v37)) (1000) 27).toInt = (I (1000) 27 : Int32).toInt := (congrArg Int32.toInt ((show (u2 (u2 I19 (1000) 25 (v29)) (1000) 25 (v37)) (1000) 27 = I19 (1000) 27 from by simp [u2_v]))).trans pw23
        have pw43 : ((u2 (u2 I19 (1000) 25 (v29)) (1000) 25 (v37)) (1000) 29).toInt = (I1 (1000) 29 : Int32).toInt := (congrArg Int32.toInt ((show (u2 (u2 I19 (1000) 25 (v29)) (1000) 25 (v37)) (1000) 29 = I19 (1000) 29 from by simp [u2_v]))).trans pw24
        have pw44 : ((u2 (u2 I19 (1000) 25 (v29)) (1000) 25 (v37)) (1000) 30).toInt = (I (1000) 30 : Int32).toInt := (congrArg Int32.toInt ((show (u2 (u2 I19 (1000) 25 (v29)) (1000) 25 (v37)) (1000) 30 = I19 (1000) 30 from by simp [u2_v]))).trans pw25
        have pw45 : ((u2 (u2 I19 (1000) 25 (v29)) (1000) 25 (v37)) (1000) 31).toInt = (I19 (1000) 31 : Int32).toInt := congrArg Int32.toInt ((show (u2 (u2 I19 (1000) 25 (v29)) (1000) 25 (v37)) (1000) 31 = I19 (1000) 31 from by simp [u2_v]))
        have pw46 : ((u2 (u2 I19 (1000) 25 (v29)) (1000) 25 (v37)) (1000) 32).toInt = (I (1000) 32 : Int32).toInt := (congrArg Int32.toInt ((show (u2 (u2 I19 (1000) 25 (v29)) (1000) 25 (v37)) (1000) 32 = I19 (1000) 32 from by simp [u2_v]))).trans pw26
        refine m_callv (m_runV (1000) (As := []) (rest := []) hx hb hml hown hts hE hM hS hA ce_X10_sum tb_1535 (V_X10_sum_h l D A ad ns (u2 (u2 I19 (1000) 25 (v29)) (1000) 25 (v37)) L20 G hJ hI (by omega) (fun hz => by have w0 := xI19.2 (by omega); have w1 := xI1.2.2.2.2.1 (by omega); have w2 := hPI (by omega); omega) (hbt.of (hK.getA 1034 rfl) (hK.get 1000 24 rfl))) rfl rfl ⟨Nat.le_of_ble_eq_true rfl, Nat.le_of_ble_eq_true rfl⟩ hJ.1 rfl rfl (by decide) rfl hl.1 rfl (Nat.le_of_ble_eq_true rfl) dX10_compared_95 ⟨Nat.le_of_ble_eq_true rfl, Nat.le_of_ble_eq_true rfl⟩) hS (fun u H locs hw hM hS => ?_)
        obtain ⟨I47, L48, rfl, hI, hkI47, xI47⟩ := hw
        have hM : Mem D A ad ns I47 L48 G H := hM
        have hK := hK.trans hkI47 rfl
        replace hC := CT.link (I2 := (u2 (u2 I19 (1000) 25 (v29)) (1000) 25 (v37))) hC (((show (u2 (u2 I19 (1000) 25 (v29)) (1000) 25 (v37)) 1035 = I19 1035 from by funext zz; simp [u2_v])).trans (hkI19.getA 1035 rfl)) (((show (u2 (u2 I19 (1000) 25 (v29)) (1000) 25 (v37)) 1036 = I19 1036 from by funext zz; simp [u2_v])).trans (hkI19.getA 1036 rfl)) (by omega) (fun hz => by have w0 := xI19.2 (by omega); have w1 := xI1.2.2.2.2.1 (by omega); have w2 := hPI (by omega); omega)
        have pw49 : (I47 (1000) 24).toInt = (I (1000) 24 : Int32).toInt := (congrArg Int32.toInt ((hkI47.get (1000) 24 rfl))).trans pw39
        have pw50 : (I47 (1000) 27).toInt = (I (1000) 27 : Int32).toInt := (congrArg Int32.toInt ((hkI47.get (1000) 27 rfl))).trans pw42
        have pw51 : (I47 (1000) 30).toInt = (I (1000) 30 : Int32).toInt := (congrArg Int32.toInt ((hkI47.get (1000) 30 rfl))).trans pw44
        have pw52 : (I47 (1000) 32).toInt = (I (1000) 32 : Int32).toInt := (congrArg Int32.toInt ((hkI47.get (1000) 32 rfl))).trans pw46
        replace hC := hC.comp ((xI47.2.2.2.2.2).mono0 (1 + (0))) (by omega) (by omega) (by omega) (by omega) (fun hz => (xI47.2.2.2.2.1 hz).1)
        have nw53 := xI47.1
        rw [show TM (u2 (u2 I19 (1000) 25 (v29)) (1000) 25 (v37)) = TM I from (TM_of (hkI47.getA 1034 rfl) (hkI47.get 1000 24 rfl)).symm.trans (TM_of (hK.getA 1034 rfl) (hK.get 1000 24 rfl))] at nw53
        have hIs54 := hI
        refine lv_aload_n hx hb dX10_compared_98 rfl (lv_at hl 2 rfl) ?_
        refine lv_iload_n hx hb dX10_compared_99 rfl (lv_at hl 1 rfl) ?_
        refine lv_bipush (v := (61)) hx hb dX10_compared_100 (by decide) ?_
        refine lv_icmp_ne (tgt := 110) hx hb dX10_compared_102 (by decide) (fun c55 => ?_) (fun c55 => ?_)
        · have hc55 := c55
          have q55 := q_ne hc55
          have sc56 := sx14.n (k := 61) (by omega) (by decide)
          refine lv_iload_n hx hb dX10_compared_110 rfl (lv_at hl 1 rfl) ?_
          refine lv_bipush (v := (60)) hx hb dX10_compared_111 (by decide) ?_
          refine lv_icmp_ne (tgt := 128) hx hb dX10_compared_113 (by decide) (fun c57 => ?_) (fun c57 => ?_)
          · have hc57 := c57
            have q57 := q_ne hc57
            have sc58 := sx14.n (k := 60) (by omega) (by decide)
            refine lv_iload_n hx hb dX10_compared_128 rfl (lv_at hl 0 rfl) ?_
            refine lv_if_eq (tgt := 137) hx hb dX10_compared_129 (by decide) (fun c59 => ?_) (fun c59 => ?_)
            · have hc59 := c59
              have q59 := q_eq hc59
              refine lv_bipush (v := (8)) hx hb dX10_compared_137 (by decide) ?_
              refine lv_iconst (v := (0)) hx hb dX10_compared_139 (by decide) ?_
              refine m_callv (m_runV (1000) (As := [.int (8), .int (0)]) (rest := []) hx hb hml hown hts hE hM hS hA ce_X10_entry tb_1552 (V_X10_entry_h l D A ad ns I47 L48 G (8) (0) hJ hI (fun hz => by have w0 := xI47.2.2.2.2.1 (by omega); have w1 := xI19.2 (by omega); have w2 := xI1.2.2.2.2.1 (by omega); have w3 := hPI (by omega); omega)) rfl rfl ⟨Nat.le_of_ble_eq_true rfl, Nat.le_of_ble_eq_true rfl⟩ hJ.1 rfl rfl (by decide) rfl hl.1 rfl (Nat.le_of_ble_eq_true rfl) dX10_compared_140 ⟨Nat.le_of_ble_eq_true rfl, Nat.le_of_ble_eq_true rfl⟩) hS (fun u H locs hw hM hS => ?_)
              obtain ⟨I60, L61, rfl, hI, hkI60, xI60⟩ := hw
              have hM : Mem D A ad ns I60 L61 G H := hM
              have hK := hK.trans hkI60 rfl
              have pw62 : (I60 (1000) 24).toInt = (I (1000) 24 : Int32).toInt := (congrArg Int32.toInt ((hkI60.get (1000) 24 rfl))).trans pw49
              have pw63 : (I60 (1000) 25).toInt = (I47 (1000) 25 : Int32).toInt := congrArg Int32.toInt ((hkI60.get (1000) 25 rfl))
              have pw64 : (I60 (1000) 26).toInt = (I47 (1000) 26 : Int32).toInt := congrArg Int32.toInt ((hkI60.get (1000) 26 rfl))
              have pw65 : (I60 (1000) 27).toInt = (I (1000) 27 : Int32).toInt := (congrArg Int32.toInt ((hkI60.get (1000) 27 rfl))).trans pw50
              have pw66 : (I60 (1000) 30).toInt = (I (1000) 30 : Int32).toInt := (congrArg Int32.toInt ((hkI60.get (1000) 30 rfl))).trans pw51
              have pw67 : (I60 (1000) 31).toInt = (I47 (1000) 31 : Int32).toInt := congrArg Int32.toInt ((hkI60.get (1000) 31 rfl))
              have pw68 : (I60 (1000) 32).toInt = (I (1000) 32 : Int32).toInt := (congrArg Int32.toInt ((hkI60.get (1000) 32 rfl))).trans pw52
              replace hC := hC.comp (n2 := 1) (xI60.2.2.2.2.2.ct (by omega) (by omega) xI60.2.2.2.1 (by omega)) (by omega) (by omega) (by omega) (by omega) (fun hz => by omega)
              have xeI60 : Imp ((I60 1000 26).toInt = 0) ((I60 1000 29).toInt = (I47 1000 29).toInt + 1) := fun hz => xI60.2.2.2.1 (by omega)
              have hen69 : Imp ((I47 1000 26).toInt = 0) (RC I60 = RC I47 ++ [enc (8 : Int32).toInt (0 : Int32).toInt]) := fun hz => RC_ent xI60.2.2.2.2.2 hz (by omega) (by omega) (xI60.2.2.2.1 hz)
              have z1 := tn (i := I1 1000 25) (by omega)
              have gR5 := RC_len (J := I1) (hIs10.get 1000 29 (lo := 0) (hi := 300) rfl).1
              have gR6 := hIs10.get 1000 29 (lo := 0) (hi := 300) rfl
              have hcm : CMP (TM I) I I60 := by
                by_cases hz : (I1 1000 26).toInt = 0
                · have w0 := nw9.2.na hz; have w3 := xI19.1.1 hz; have w4 := nw53.1.2
                  have htk := tk_cm2 (T := TM I) (q := (I1 1000 25).toNatClampNeg) (by omega)
                  by_cases hc6 : (I1 1000 31).toInt = 60
                  · have w5 := w3.1 hc6; have w6 := w4 (by omega); exact cmp_many hT nw9.1.1 hz (by rw [w0.1]; omega) hc6 (by rw [w0.1]; omega)
                  · have w5 := w3.2 hc6; have w6 := xI19.2 w5; have z5 := tn (i := (u2 (u2 I19 (1000) 25 (v29)) (1000) 25 (v37)) 1000 25) (by omega); exact cmp_ok (o := -23) (J2 := (u2 (u2 I19 (1000) 25 (v29)) (1000) 25 (v37))) (J3 := I47) hT nw9.1.1 hz (by rw [w0.1]; omega) (by rw [w0.1]; omega) (by omega) (by omega) (by rw [w0.1]; omega) (by omega) (RC_of (J := I1) (J2 := (u2 (u2 I19 (1000) 25 (v29)) (1000) 25 (v37))) (((show (u2 (u2 I19 (1000) 25 (v29)) (1000) 25 (v37)) 1035 = I19 1035 from by funext zz; simp [u2_v])).trans (hkI19.getA 1035 rfl)) (((show (u2 (u2 I19 (1000) 25 (v29)) (1000) 25 (v37)) 1036 = I19 1036 from by funext zz; simp [u2_v])).trans (hkI19.getA 1036 rfl)) (by omega) (by omega)) (by omega) nw53.1.1 (by omega) (fun hy => ⟨by rw [show (I60 1000 25).toNatClampNeg = (I47 1000 25).toNatClampNeg from cl_eq (by omega)], by omega, by rw [hen69 hy, enc_v (v := -23) (Or.inr (Or.inr (Or.inr (Or.inr (Or.inr (Or.inr (Or.inr (Or.inr (Or.inr (Or.inl ⟨by omega, rfl⟩))))))))))]⟩)
                · have w3 := xI19.1.2 hz; have w4 := nw53.1.2 (by omega); exact cmp_bad1 nw9.1.1 hz (by omega)
              exact m_vret hx hb hr hlocks hM hS (Nat.le_of_ble_eq_true rfl) (Nat.le_of_ble_eq_true rfl) ⟨_, _, rfl, hI, hK, ⟨⟨hcm, fun hz => by rw [show (I60 1000 25).toNatClampNeg = (I47 1000 25).toNatClampNeg from cl_eq (by omega)]; exact nw53.2 (by omega)⟩, by omega, by omega, by omega, (fun hz => by have w0 := xeI60 (by omega); have w1 := xI47.2.2.2.2.1 (by omega); have w2 := xI19.2 (by omega); have w3 := xI1.2.2.2.2.1 (by omega); have w4 := hPI (by omega); omega), hC⟩⟩ dX10_compared_143
            · exact absurd c59 (by decide)
          · have hc57 := c57
            have q57 := q_eq hc57
            have sg70 := xr11.2.2.2 (by omega)
            have sc71 := sx14.y (k := 60) (by omega) (by decide)
            refine lv_iload_n hx hb dX10_compared_116 rfl (lv_at hl 0 rfl) ?_
            refine lv_if_eq (tgt := 124) hx hb dX10_compared_117 (by decide) (fun c72 => ?_) (fun c72 => ?_)
            · have hc72 := c72
              have q72 := q_eq hc72
              refine lv_iconst (v := (4)) hx hb dX10_compared_124 (by decide) ?_
              refine lv_goto (tgt := 139) hx hb dX10_compared_125 (by decide) ?_
              refine lv_iconst (v := (0)) hx hb dX10_compared_139 (by decide) ?_
              refine m_callv (m_runV (1000) (As := [.int (4), .int (0)]) (rest := []) hx hb hml hown hts hE hM hS hA ce_X10_entry tb_1552 (V_X10_entry_h l D A ad ns I47 L48 G (4) (0) hJ hI (fun hz => by have w0 := xI47.2.2.2.2.1 (by omega); have w1 := xI19.2 (by omega); have w2 := xI1.2.2.2.2.1 (by omega); have w3 := hPI (by omega); omega)) rfl rfl ⟨Nat.le_of_ble_eq_true rfl, Nat.le_of_ble_eq_true rfl⟩ hJ.1 rfl rfl (by decide) rfl hl.1 rfl (Nat.le_of_ble_eq_true rfl) dX10_compared_140 ⟨Nat.le_of_ble_eq_true rfl, Nat.le_of_ble_eq_true rfl⟩) hS (fun u H locs hw hM hS => ?_)
              obtain ⟨I73, L74, rfl, hI, hkI73, xI73⟩ := hw
              have hM : Mem D A ad ns I73 L74 G H := hM
              have hK := hK.trans hkI73 rfl
              have pw75 : (I73 (1000) 24).toInt = (I (1000) 24 : Int32).toInt := (congrArg Int32.toInt ((hkI73.get (1000) 24 rfl))).trans pw49
              have pw76 : (I73 (1000) 25).toInt = (I47 (1000) 25 : Int32).toInt := congrArg Int32.toInt ((hkI73.get (1000) 25 rfl))
              have pw77 : (I73 (1000) 26).toInt = (I47 (1000) 26 : Int32).toInt := congrArg Int32.toInt ((hkI73.get (1000) 26 rfl))
              have pw78 : (I73 (1000) 27).toInt = (I (1000) 27 : Int32).toInt := (congrArg Int32.toInt ((hkI73.get (1000) 27 rfl))).trans pw50
              have pw79 : (I73 (1000) 30).toInt = (I (1000) 30 : Int32).toInt := (congrArg Int32.toInt ((hkI73.get (1000) 30 rfl))).trans pw51
              have pw80 : (I73 (1000) 31).toInt = (I47 (1000) 31 : Int32).toInt := congrArg Int32.toInt ((hkI73.get (1000) 31 rfl))
              have pw81 : (I73 (1000) 32).toInt = (I (1000) 32 : Int32).toInt := (congrArg Int32.toInt ((hkI73.get (1000) 32 rfl))).trans pw52
              replace hC := hC.comp (n2 := 1) (xI73.2.2.2.2.2.ct (by omega) (by omega) xI73.2.2.2.1 (by omega)) (by omega) (by omega) (by omega) (by omega) (fun hz => by omega)
              have xeI73 : Imp ((I73 1000 26).toInt = 0) ((I73 1000 29).toInt = (I47 1000 29).toInt + 1) := fun hz => xI73.2.2.2.1 (by omega)
              have hen82 : Imp ((I47 1000 26).toInt = 0) (RC I73 = RC I47 ++ [enc (4 : Int32).toInt (0 : Int32).toInt]) := fun hz => RC_ent xI73.2.2.2.2.2 hz (by omega) (by omega) (xI73.2.2.2.1 hz)
              have z1 := tn (i := I1 1000 25) (by omega)
              have gR5 := RC_len (J := I1) (hIs10.get 1000 29 (lo := 0) (hi := 300) rfl).1
              have gR6 := hIs10.get 1000 29 (lo := 0) (hi := 300) rfl
              have hcm : CMP (TM I) I I73 := by
                by_cases hz : (I1 1000 26).toInt = 0
                · have w0 := nw9.2.na hz; have w3 := xI19.1.1 hz; have w4 := nw53.1.2
                  have htk := tk_cm2 (T := TM I) (q := (I1 1000 25).toNatClampNeg) (by omega)
                  by_cases hc6 : (I1 1000 31).toInt = 60
                  · have w5 := w3.1 hc6; have w6 := w4 (by omega); exact cmp_many hT nw9.1.1 hz (by rw [w0.1]; omega) hc6 (by rw [w0.1]; omega)
                  · have w5 := w3.2 hc6; have w6 := xI19.2 w5; have z5 := tn (i := (u2 (u2 I19 (1000) 25 (v29)) (1000) 25 (v37)) 1000 25) (by omega); exact cmp_ok (o := -19) (J2 := (u2 (u2 I19 (1000) 25 (v29)) (1000) 25 (v37))) (J3 := I47) hT nw9.1.1 hz (by rw [w0.1]; omega) (by rw [w0.1]; omega) (by omega) (by omega) (by rw [w0.1]; omega) (by omega) (RC_of (J := I1) (J2 := (u2 (u2 I19 (1000) 25 (v29)) (1000) 25 (v37))) (((show (u2 (u2 I19 (1000) 25 (v29)) (1000) 25 (v37)) 1035 = I19 1035 from by funext zz; simp [u2_v])).trans (hkI19.getA 1035 rfl)) (((show (u2 (u2 I19 (1000) 25 (v29)) (1000) 25 (v37)) 1036 = I19 1036 from by funext zz; simp [u2_v])).trans (hkI19.getA 1036 rfl)) (by omega) (by omega)) (by omega) nw53.1.1 (by omega) (fun hy => ⟨by rw [show (I73 1000 25).toNatClampNeg = (I47 1000 25).toNatClampNeg from cl_eq (by omega)], by omega, by rw [hen82 hy, enc_v (v := -19) (Or.inr (Or.inr (Or.inr (Or.inr (Or.inr (Or.inl ⟨by omega, rfl⟩))))))]⟩)
                · have w3 := xI19.1.2 hz; have w4 := nw53.1.2 (by omega); exact cmp_bad1 nw9.1.1 hz (by omega)
              exact m_vret hx hb hr hlocks hM hS (Nat.le_of_ble_eq_true rfl) (Nat.le_of_ble_eq_true rfl) ⟨_, _, rfl, hI, hK, ⟨⟨hcm, fun hz => by rw [show (I73 1000 25).toNatClampNeg = (I47 1000 25).toNatClampNeg from cl_eq (by omega)]; exact nw53.2 (by omega)⟩, by omega, by omega, by omega, (fun hz => by have w0 := xeI73 (by omega); have w1 := xI47.2.2.2.2.1 (by omega); have w2 := xI19.2 (by omega); have w3 := xI1.2.2.2.2.1 (by omega); have w4 := hPI (by omega); omega), hC⟩⟩ dX10_compared_143
            · exact absurd c72 (by decide)
        · have hc55 := c55
          have q55 := q_eq hc55
          have sg83 := xr11.2.2.2 (by omega)
          have sc84 := sx14.y (k := 61) (by omega) (by decide)
          refine lv_bipush (v := (6)) hx hb dX10_compared_105 (by decide) ?_
          refine lv_goto (tgt := 139) hx hb dX10_compared_107 (by decide) ?_
          refine lv_iconst (v := (0)) hx hb dX10_compared_139 (by decide) ?_
          refine m_callv (m_runV (1000) (As := [.int (6), .int (0)]) (rest := []) hx hb hml hown hts hE hM hS hA ce_X10_entry tb_1552 (V_X10_entry_h l D A ad ns I47 L48 G (6) (0) hJ hI (fun hz => by have w0 := xI47.2.2.2.2.1 (by omega); have w1 := xI19.2 (by omega); have w2 := xI1.2.2.2.2.1 (by omega); have w3 := hPI (by omega); omega)) rfl rfl ⟨Nat.le_of_ble_eq_true rfl, Nat.le_of_ble_eq_true rfl⟩ hJ.1 rfl rfl (by decide) rfl hl.1 rfl (Nat.le_of_ble_eq_true rfl) dX10_compared_140 ⟨Nat.le_of_ble_eq_true rfl, Nat.le_of_ble_eq_true rfl⟩) hS (fun u H locs hw hM hS => ?_)
          obtain ⟨I85, L86, rfl, hI, hkI85, xI85⟩ := hw
          have hM : Mem D A ad ns I85 L86 G H := hM
          have hK := hK.trans hkI85 rfl
          have pw87 : (I85 (1000) 24).toInt = (I (1000) 24 : Int32).toInt := (congrArg Int32.toInt ((hkI85.get (1000) 24 rfl))).trans pw49
          have pw88 : (I85 (1000) 25).toInt = (I47 (1000) 25 : Int32).toInt := congrArg Int32.toInt ((hkI85.get (1000) 25 rfl))
          have pw89 : (I85 (1000) 26).toInt = (I47 (1000) 26 : Int32).toInt := congrArg Int32.toInt ((hkI85.get (1000) 26 rfl))
          have pw90 : (I85 (1000) 27).toInt = (I (1000) 27 : Int32).toInt := (congrArg Int32.toInt ((hkI85.get (1000) 27 rfl))).trans pw50
          have pw91 : (I85 (1000) 30).toInt = (I (1000) 30 : Int32).toInt := (congrArg Int32.toInt ((hkI85.get (1000) 30 rfl))).trans pw51
          have pw92 : (I85 (1000) 31).toInt = (I47 (1000) 31 : Int32).toInt := congrArg Int32.toInt ((hkI85.get (1000) 31 rfl))
          have pw93 : (I85 (1000) 32).toInt = (I (1000) 32 : Int32).toInt := (congrArg Int32.toInt ((hkI85.get (1000) 32 rfl))).trans pw52
          replace hC := hC.comp (n2 := 1) (xI85.2.2.2.2.2.ct (by omega) (by omega) xI85.2.2.2.1 (by omega)) (by omega) (by omega) (by omega) (by omega) (fun hz => by omega)
          have xeI85 : Imp ((I85 1000 26).toInt = 0) ((I85 1000 29).toInt = (I47 1000 29).toInt + 1) := fun hz => xI85.2.2.2.1 (by omega)
          have hen94 : Imp ((I47 1000 26).toInt = 0) (RC I85 = RC I47 ++ [enc (6 : Int32).toInt (0 : Int32).toInt]) := fun hz => RC_ent xI85.2.2.2.2.2 hz (by omega) (by omega) (xI85.2.2.2.1 hz)
          have z1 := tn (i := I1 1000 25) (by omega)
          have gR5 := RC_len (J := I1) (hIs10.get 1000 29 (lo := 0) (hi := 300) rfl).1
          have gR6 := hIs10.get 1000 29 (lo := 0) (hi := 300) rfl
          have hcm : CMP (TM I) I I85 := by
            by_cases hz : (I1 1000 26).toInt = 0
            · have w0 := nw9.2.na hz; have w3 := xI19.1.1 hz; have w4 := nw53.1.2
              have htk := tk_cm2 (T := TM I) (q := (I1 1000 25).toNatClampNeg) (by omega)
              by_cases hc6 : (I1 1000 31).toInt = 60
              · have w5 := w3.1 hc6; have w6 := w4 (by omega); exact cmp_many hT nw9.1.1 hz (by rw [w0.1]; omega) hc6 (by rw [w0.1]; omega)
              · have w5 := w3.2 hc6; have w6 := xI19.2 w5; have z5 := tn (i := (u2 (u2 I19 (1000) 25 (v29)) (1000) 25 (v37)) 1000 25) (by omega); exact cmp_ok (o := -21) (J2 := (u2 (u2 I19 (1000) 25 (v29)) (1000) 25 (v37))) (J3 := I47) hT nw9.1.1 hz (by rw [w0.1]; omega) (by rw [w0.1]; omega) (by omega) (by omega) (by rw [w0.1]; omega) (by omega) (RC_of (J := I1) (J2 := (u2 (u2 I19 (1000) 25 (v29)) (1000) 25 (v37))) (((show (u2 (u2 I19 (1000) 25 (v29)) (1000) 25 (v37)) 1035 = I19 1035 from by funext zz; simp [u2_v])).trans (hkI19.getA 1035 rfl)) (((show (u2 (u2 I19 (1000) 25 (v29)) (1000) 25 (v37)) 1036 = I19 1036 from by funext zz; simp [u2_v])).trans (hkI19.getA 1036 rfl)) (by omega) (by omega)) (by omega) nw53.1.1 (by omega) (fun hy => ⟨by rw [show (I85 1000 25).toNatClampNeg = (I47 1000 25).toNatClampNeg from cl_eq (by omega)], by omega, by rw [hen94 hy, enc_v (v := -21) (Or.inr (Or.inr (Or.inr (Or.inr (Or.inr (Or.inr (Or.inr (Or.inl ⟨by omega, rfl⟩))))))))]⟩)
            · have w3 := xI19.1.2 hz; have w4 := nw53.1.2 (by omega); exact cmp_bad1 nw9.1.1 hz (by omega)
          exact m_vret hx hb hr hlocks hM hS (Nat.le_of_ble_eq_true rfl) (Nat.le_of_ble_eq_true rfl) ⟨_, _, rfl, hI, hK, ⟨⟨hcm, fun hz => by rw [show (I85 1000 25).toNatClampNeg = (I47 1000 25).toNatClampNeg from cl_eq (by omega)]; exact nw53.2 (by omega)⟩, by omega, by omega, by omega, (fun hz => by have w0 := xeI85 (by omega); have w1 := xI47.2.2.2.2.1 (by omega); have w2 := xI19.2 (by omega); have w3 := xI1.2.2.2.2.1 (by omega); have w4 := hPI (by omega); omega), hC⟩⟩ dX10_compared_143
      · exact absurd c36 (by decide)
    · have hc31 := c31
      have q31 := q_ne hc31
      have sc95 := sx14.n (k := 61) (by omega) (by decide)
      refine lv_aload_n hx hb dX10_compared_61 rfl (lv_at hl 1 rfl) ?_
      have pw96 : ((u2 I19 (1000) 25 (v29)) (1000) 24).toInt = (I (1000) 24 : Int32).toInt := (congrArg Int32.toInt ((show (u2 I19 (1000) 25 (v29)) (1000) 24 = I19 (1000) 24 from by simp [u2_v]))).trans pw21
      have pw97 : ((u2 I19 (1000) 25 (v29)) (1000) 25).toInt = (v29 : Int32).toInt := congrArg Int32.toInt ((show (u2 I19 (1000) 25 (v29)) (1000) 25 = v29 from by simp [u2_v]))
      have pw98 : ((u2 I19 (1000) 25 (v29)) (1000) 26).toInt = (I19 (1000) 26 : Int32).toInt := congrArg Int32.toInt ((show (u2 I19 (1000) 25 (v29)) (1000) 26 = I19 (1000) 26 from by simp [u2_v]))
      have pw99 : ((u2 I19 (1000) 25 (v29)) (1000) 27).toInt = (I (1000) 27 : Int32).toInt := (congrArg Int32.toInt ((show (u2 I19 (1000) 25 (v29)) (1000) 27 = I19 (1000) 27 from by simp [u2_v]))).trans pw23
      have pw100 : ((u2 I19 (1000) 25 (v29)) (1000) 29).toInt = (I1 (1000) 29 : Int32).toInt := (congrArg Int32.toInt ((show (u2 I19 (1000) 25 (v29)) (1000) 29 = I19 (1000) 29 from by simp [u2_v]))).trans pw24
      have pw101 : ((u2 I19 (1000) 25 (v29)) (1000) 30).toInt = (I (1000) 30 : Int32).toInt := (congrArg Int32.toInt ((show (u2 I19 (1000) 25 (v29)) (1000) 30 = I19 (1000) 30 from by simp [u2_v]))).trans pw25
      have pw102 : ((u2 I19 (1000) 25 (v29)) (1000) 31).toInt = (I19 (1000) 31 : Int32).toInt := congrArg Int32.toInt ((show (u2 I19 (1000) 25 (v29)) (1000) 31 = I19 (1000) 31 from by simp [u2_v]))
      have pw103 : ((u2 I19 (1000) 25 (v29)) (1000) 32).toInt = (I (1000) 32 : Int32).toInt := (congrArg Int32.toInt ((show (u2 I19 (1000) 25 (v29)) (1000) 32 = I19 (1000) 32 from by simp [u2_v]))).trans pw26
      refine m_calli (m_runV (1000) (As := []) (rest := []) hx hb hml hown hts hE hM hS hA ce_X10_sign tb_1510 (V_X10_sign_h l D A ad ns (u2 I19 (1000) 25 (v29)) L20 G hJ hI) rfl rfl ⟨Nat.le_of_ble_eq_true rfl, Nat.le_of_ble_eq_true rfl⟩ hJ.1 rfl rfl (by decide) rfl hl.1 rfl (Nat.le_of_ble_eq_true rfl) dX10_compared_62 ⟨Nat.le_of_ble_eq_true rfl, Nat.le_of_ble_eq_true rfl⟩) hS (fun r104 u H locs hw hM hS => ?_)
      obtain ⟨rfl, xr104⟩ := hw
      have hM : Mem D A ad ns (u2 I19 (1000) 25 (v29)) L20 G H := hM
      have g105 := hI.get 1000 24 (lo := 0) (hi := 400) rfl
      have g106 := hI.get 1000 25 (lo := 0) (hi := 100000) rfl
      have sx107 := xr104.1
      rw [show TM (u2 I19 (1000) 25 (v29)) = TM I from (TM_of (hK.getA 1034 rfl) (hK.get 1000 24 rfl))] at sx107
      refine lv_bipush (v := (61)) hx hb dX10_compared_65 (by decide) ?_
      refine lv_icmp_ne (tgt := 74) hx hb dX10_compared_67 (by decide) (fun c108 => ?_) (fun c108 => ?_)
      · have hc108 := c108
        have q108 := q_ne hc108
        have sc109 := sx107.n (k := 61) (by omega) (by decide)
        refine lv_iconst (v := (0)) hx hb dX10_compared_74 (by decide) ?_
        refine lv_istore_n (lv' := [(2, .int (0)), (1, .int (r11)), (0, .ref (ad (1000)))]) hx hb dX10_compared_75 rfl hl (by decide) rfl (fun ls hl => ?_)
        refine lv_aload_n hx hb dX10_compared_76 rfl (lv_at hl 2 rfl) ?_
        refine lv_dup hx hb dX10_compared_77 rfl ?_
        refine m_geti (1000) 25 hx hb hts hown hE oc10 hM hJ.1 rfl (by decide) rfl tb_1202 dX10_compared_78 ?_
        have g110 := hI.get (1000) 25 (lo := 0) (hi := 100000) rfl
        have z111 : (u2 I19 (1000) 25 (v29)) (1000) 25 = v29 := (show (u2 I19 (1000) 25 (v29)) (1000) 25 = v29 from by simp [u2_v])
        rw [z111] at g110 ⊢
        refine lv_iload_n hx hb dX10_compared_81 rfl (lv_at hl 0 rfl) ?_
        refine lv_if_eq (tgt := 89) hx hb dX10_compared_82 (by decide) (fun c112 => ?_) (fun c112 => ?_)
        · have hc112 := c112
          have q112 := q_eq hc112
          refine lv_iconst (v := (0)) hx hb dX10_compared_89 (by decide) ?_
          refine lv_iadd hx hb dX10_compared_90 ?_
          refine lv_topi (fun v113 ev113 => ?_)
          have tv113 := a_add ev113 (by omega) (by omega)
          refine m_puti (1000) 25 hx hb hts hown hE oc10 hM hS hJ.1 rfl (by decide) rfl rfl rfl rfl tb_1202 dX10_compared_91 (fun H locs I114 eI114 hM hS => ?_)
          subst eI114
          have hI := hI.put (n := 1000) (k := 25) (v := v113) (lo := 0) (hi := 100000) rfl (by first | omega | decide)
          have hK := hK.put (n := 1000) (k := 25) (v := v113) (by first | rfl | simp [inR])
          refine lv_aload_n hx hb dX10_compared_94 rfl (lv_at hl 2 rfl) ?_
          have pw115 : ((u2 (u2 I19 (1000) 25 (v29)) (1000) 25 (v113)) (1000) 24).toInt = (I (1000) 24 : Int32).toInt := (congrArg Int32.toInt ((show (u2 (u2 I19 (1000) 25 (v29)) (1000) 25 (v113)) (1000) 24 = (u2 I19 (1000) 25 (v29)) (1000) 24 from by simp [u2_v]))).trans pw96
          have pw116 : ((u2 (u2 I19 (1000) 25 (v29)) (1000) 25 (v113)) (1000) 25).toInt = (v113 : Int32).toInt := congrArg Int32.toInt ((show (u2 (u2 I19 (1000) 25 (v29)) (1000) 25 (v113)) (1000) 25 = v113 from by simp [u2_v]))
          have pw117 : ((u2 (u2 I19 (1000) 25 (v29)) (1000) 25 (v113)) (1000) 26).toInt = (I19 (1000) 26 : Int32).toInt := (congrArg Int32.toInt ((show (u2 (u2 I19 (1000) 25 (v29)) (1000) 25 (v113)) (1000) 26 = (u2 I19 (1000) 25 (v29)) (1000) 26 from by simp [u2_v]))).trans pw98
          have pw118 : ((u2 (u2 I19 (1000) 25 (v29)) (1000) 25 (v113)) (1000) 27).toInt = (I (1000) 27 : Int32).toInt := (congrArg Int32.toInt ((show (u2 (u2 I19 (1000) 25 (v29)) (1000) 25 (v113)) (1000) 27 = (u2 I19 (1000) 25 (v29)) (1000) 27 from by simp [u2_v]))).trans pw99
          have pw119 : ((u2 (u2 I19 (1000) 25 (v29)) (1000) 25 (v113)) (1000) 29).toInt = (I1 (1000) 29 : Int32).toInt := (congrArg Int32.toInt ((show (u2 (u2 I19 (1000) 25 (v29)) (1000) 25 (v113)) (1000) 29 = (u2 I19 (1000) 25 (v29)) (1000) 29 from by simp [u2_v]))).trans pw100
          have pw120 : ((u2 (u2 I19 (1000) 25 (v29)) (1000) 25 (v113)) (1000) 30).toInt = (I (1000) 30 : Int32).toInt := (congrArg Int32.toInt ((show (u2 (u2 I19 (1000) 25 (v29)) (1000) 25 (v113)) (1000) 30 = (u2 I19 (1000) 25 (v29)) (1000) 30 from by simp [u2_v]))).trans pw101
          have pw121 : ((u2 (u2 I19 (1000) 25 (v29)) (1000) 25 (v113)) (1000) 31).toInt = (I19 (1000) 31 : Int32).toInt := (congrArg Int32.toInt ((show (u2 (u2 I19 (1000) 25 (v29)) (1000) 25 (v113)) (1000) 31 = (u2 I19 (1000) 25 (v29)) (1000) 31 from by simp [u2_v]))).trans pw102
          have pw122 : ((u2 (u2 I19 (1000) 25 (v29)) (1000) 25 (v113)) (1000) 32).toInt = (I (1000) 32 : Int32).toInt := (congrArg Int32.toInt ((show (u2 (u2 I19 (1000) 25 (v29)) (1000) 25 (v113)) (1000) 32 = (u2 I19 (1000) 25 (v29)) (1000) 32 from by simp [u2_v]))).trans pw103
          refine m_callv (m_runV (1000) (As := []) (rest := []) hx hb hml hown hts hE hM hS hA ce_X10_sum tb_1535 (V_X10_sum_h l D A ad ns (u2 (u2 I19 (1000) 25 (v29)) (1000) 25 (v113)) L20 G hJ hI (by omega) (fun hz => by have w0 := xI19.2 (by omega); have w1 := xI1.2.2.2.2.1 (by omega); have w2 := hPI (by omega); omega) (hbt.of (hK.getA 1034 rfl) (hK.get 1000 24 rfl))) rfl rfl ⟨Nat.le_of_ble_eq_true rfl, Nat.le_of_ble_eq_true rfl⟩ hJ.1 rfl rfl (by decide) rfl hl.1 rfl (Nat.le_of_ble_eq_true rfl) dX10_compared_95 ⟨Nat.le_of_ble_eq_true rfl, Nat.le_of_ble_eq_true rfl⟩) hS (fun u H locs hw hM hS => ?_)
          obtain ⟨I123, L124, rfl, hI, hkI123, xI123⟩ := hw
          have hM : Mem D A ad ns I123 L124 G H := hM
          have hK := hK.trans hkI123 rfl
          replace hC := CT.link (I2 := (u2 (u2 I19 (1000) 25 (v29)) (1000) 25 (v113))) hC (((show (u2 (u2 I19 (1000) 25 (v29)) (1000) 25 (v113)) 1035 = I19 1035 from by funext zz; simp [u2_v])).trans (hkI19.getA 1035 rfl)) (((show (u2 (u2 I19 (1000) 25 (v29)) (1000) 25 (v113)) 1036 = I19 1036 from by funext zz; simp [u2_v])).trans (hkI19.getA 1036 rfl)) (by omega) (fun hz => by have w0 := xI19.2 (by omega); have w1 := xI1.2.2.2.2.1 (by omega); have w2 := hPI (by omega); omega)
          have pw125 : (I123 (1000) 24).toInt = (I (1000) 24 : Int32).toInt := (congrArg Int32.toInt ((hkI123.get (1000) 24 rfl))).trans pw115
          have pw126 : (I123 (1000) 27).toInt = (I (1000) 27 : Int32).toInt := (congrArg Int32.toInt ((hkI123.get (1000) 27 rfl))).trans pw118
          have pw127 : (I123 (1000) 30).toInt = (I (1000) 30 : Int32).toInt := (congrArg Int32.toInt ((hkI123.get (1000) 30 rfl))).trans pw120
          have pw128 : (I123 (1000) 32).toInt = (I (1000) 32 : Int32).toInt := (congrArg Int32.toInt ((hkI123.get (1000) 32 rfl))).trans pw122
          replace hC := hC.comp ((xI123.2.2.2.2.2).mono0 (1 + (0))) (by omega) (by omega) (by omega) (by omega) (fun hz => (xI123.2.2.2.2.1 hz).1)
          have nw129 := xI123.1
          rw [show TM (u2 (u2 I19 (1000) 25 (v29)) (1000) 25 (v113)) = TM I from (TM_of (hkI123.getA 1034 rfl) (hkI123.get 1000 24 rfl)).symm.trans (TM_of (hK.getA 1034 rfl) (hK.get 1000 24 rfl))] at nw129
          have hIs130 := hI
          refine lv_aload_n hx hb dX10_compared_98 rfl (lv_at hl 2 rfl) ?_
          refine lv_iload_n hx hb dX10_compared_99 rfl (lv_at hl 1 rfl) ?_
          refine lv_bipush (v := (61)) hx hb dX10_compared_100 (by decide) ?_
          refine lv_icmp_ne (tgt := 110) hx hb dX10_compared_102 (by decide) (fun c131 => ?_) (fun c131 => ?_)
          · have hc131 := c131
            have q131 := q_ne hc131
            have sc132 := sx14.n (k := 61) (by omega) (by decide)
            refine lv_iload_n hx hb dX10_compared_110 rfl (lv_at hl 1 rfl) ?_
            refine lv_bipush (v := (60)) hx hb dX10_compared_111 (by decide) ?_
            refine lv_icmp_ne (tgt := 128) hx hb dX10_compared_113 (by decide) (fun c133 => ?_) (fun c133 => ?_)
            · have hc133 := c133
              have q133 := q_ne hc133
              have sc134 := sx14.n (k := 60) (by omega) (by decide)
              refine lv_iload_n hx hb dX10_compared_128 rfl (lv_at hl 0 rfl) ?_
              refine lv_if_eq (tgt := 137) hx hb dX10_compared_129 (by decide) (fun c135 => ?_) (fun c135 => ?_)
              · have hc135 := c135
                have q135 := q_eq hc135
                refine lv_bipush (v := (8)) hx hb dX10_compared_137 (by decide) ?_
                refine lv_iconst (v := (0)) hx hb dX10_compared_139 (by decide) ?_
                refine m_callv (m_runV (1000) (As := [.int (8), .int (0)]) (rest := []) hx hb hml hown hts hE hM hS hA ce_X10_entry tb_1552 (V_X10_entry_h l D A ad ns I123 L124 G (8) (0) hJ hI (fun hz => by have w0 := xI123.2.2.2.2.1 (by omega); have w1 := xI19.2 (by omega); have w2 := xI1.2.2.2.2.1 (by omega); have w3 := hPI (by omega); omega)) rfl rfl ⟨Nat.le_of_ble_eq_true rfl, Nat.le_of_ble_eq_true rfl⟩ hJ.1 rfl rfl (by decide) rfl hl.1 rfl (Nat.le_of_ble_eq_true rfl) dX10_compared_140 ⟨Nat.le_of_ble_eq_true rfl, Nat.le_of_ble_eq_true rfl⟩) hS (fun u H locs hw hM hS => ?_)
                obtain ⟨I136, L137, rfl, hI, hkI136, xI136⟩ := hw
                have hM : Mem D A ad ns I136 L137 G H := hM
                have hK := hK.trans hkI136 rfl
                have pw138 : (I136 (1000) 24).toInt = (I (1000) 24 : Int32).toInt := (congrArg Int32.toInt ((hkI136.get (1000) 24 rfl))).trans pw125
                have pw139 : (I136 (1000) 25).toInt = (I123 (1000) 25 : Int32).toInt := congrArg Int32.toInt ((hkI136.get (1000) 25 rfl))
                have pw140 : (I136 (1000) 26).toInt = (I123 (1000) 26 : Int32).toInt := congrArg Int32.toInt ((hkI136.get (1000) 26 rfl))
                have pw141 : (I136 (1000) 27).toInt = (I (1000) 27 : Int32).toInt := (congrArg Int32.toInt ((hkI136.get (1000) 27 rfl))).trans pw126
                have pw142 : (I136 (1000) 30).toInt = (I (1000) 30 : Int32).toInt := (congrArg Int32.toInt ((hkI136.get (1000) 30 rfl))).trans pw127
                have pw143 : (I136 (1000) 31).toInt = (I123 (1000) 31 : Int32).toInt := congrArg Int32.toInt ((hkI136.get (1000) 31 rfl))
                have pw144 : (I136 (1000) 32).toInt = (I (1000) 32 : Int32).toInt := (congrArg Int32.toInt ((hkI136.get (1000) 32 rfl))).trans pw128
                replace hC := hC.comp (n2 := 1) (xI136.2.2.2.2.2.ct (by omega) (by omega) xI136.2.2.2.1 (by omega)) (by omega) (by omega) (by omega) (by omega) (fun hz => by omega)
                have xeI136 : Imp ((I136 1000 26).toInt = 0) ((I136 1000 29).toInt = (I123 1000 29).toInt + 1) := fun hz => xI136.2.2.2.1 (by omega)
                have hen145 : Imp ((I123 1000 26).toInt = 0) (RC I136 = RC I123 ++ [enc (8 : Int32).toInt (0 : Int32).toInt]) := fun hz => RC_ent xI136.2.2.2.2.2 hz (by omega) (by omega) (xI136.2.2.2.1 hz)
                have z1 := tn (i := I1 1000 25) (by omega)
                have gR5 := RC_len (J := I1) (hIs10.get 1000 29 (lo := 0) (hi := 300) rfl).1
                have gR6 := hIs10.get 1000 29 (lo := 0) (hi := 300) rfl
                have hs67 := sc109
                rw [show ((u2 I19 (1000) 25 (v29)) 1000 25).toNatClampNeg = (I1 1000 25).toNatClampNeg + 1 from by have z6 := tn (i := (u2 I19 (1000) 25 (v29)) 1000 25) (by omega); omega] at hs67
                have hcm : CMP (TM I) I I136 := by
                  by_cases hz : (I1 1000 26).toInt = 0
                  · have w0 := nw9.2.na hz; have w3 := xI19.1.1 hz; have w4 := nw129.1.2
                    have htk := tk_cm2 (T := TM I) (q := (I1 1000 25).toNatClampNeg) (by omega)
                    by_cases hc6 : (I1 1000 31).toInt = 60
                    · have w5 := w3.1 hc6; have w6 := w4 (by omega); exact cmp_many hT nw9.1.1 hz (by rw [w0.1]; omega) hc6 (by rw [w0.1]; omega)
                    · have w5 := w3.2 hc6; have w6 := xI19.2 w5; have z5 := tn (i := (u2 (u2 I19 (1000) 25 (v29)) (1000) 25 (v113)) 1000 25) (by omega); exact cmp_ok (o := -23) (J2 := (u2 (u2 I19 (1000) 25 (v29)) (1000) 25 (v113))) (J3 := I123) hT nw9.1.1 hz (by rw [w0.1]; omega) (by rw [w0.1]; omega) (by omega) (by omega) (by rw [w0.1]; omega) (by omega) (RC_of (J := I1) (J2 := (u2 (u2 I19 (1000) 25 (v29)) (1000) 25 (v113))) (((show (u2 (u2 I19 (1000) 25 (v29)) (1000) 25 (v113)) 1035 = I19 1035 from by funext zz; simp [u2_v])).trans (hkI19.getA 1035 rfl)) (((show (u2 (u2 I19 (1000) 25 (v29)) (1000) 25 (v113)) 1036 = I19 1036 from by funext zz; simp [u2_v])).trans (hkI19.getA 1036 rfl)) (by omega) (by omega)) (by omega) nw129.1.1 (by omega) (fun hy => ⟨by rw [show (I136 1000 25).toNatClampNeg = (I123 1000 25).toNatClampNeg from cl_eq (by omega)], by omega, by rw [hen145 hy, enc_v (v := -23) (Or.inr (Or.inr (Or.inr (Or.inr (Or.inr (Or.inr (Or.inr (Or.inr (Or.inr (Or.inl ⟨by omega, rfl⟩))))))))))]⟩)
                  · have w3 := xI19.1.2 hz; have w4 := nw129.1.2 (by omega); exact cmp_bad1 nw9.1.1 hz (by omega)
                exact m_vret hx hb hr hlocks hM hS (Nat.le_of_ble_eq_true rfl) (Nat.le_of_ble_eq_true rfl) ⟨_, _, rfl, hI, hK, ⟨⟨hcm, fun hz => by rw [show (I136 1000 25).toNatClampNeg = (I123 1000 25).toNatClampNeg from cl_eq (by omega)]; exact nw129.2 (by omega)⟩, by omega, by omega, by omega, (fun hz => by have w0 := xeI136 (by omega); have w1 := xI123.2.2.2.2.1 (by omega); have w2 := xI19.2 (by omega); have w3 := xI1.2.2.2.2.1 (by omega); have w4 := hPI (by omega); omega), hC⟩⟩ dX10_compared_143
              · exact absurd c135 (by decide)
            · have hc133 := c133
              have q133 := q_eq hc133
              have sg146 := xr11.2.2.2 (by omega)
              have sc147 := sx14.y (k := 60) (by omega) (by decide)
              refine lv_iload_n hx hb dX10_compared_116 rfl (lv_at hl 0 rfl) ?_
              refine lv_if_eq (tgt := 124) hx hb dX10_compared_117 (by decide) (fun c148 => ?_) (fun c148 => ?_)
              · have hc148 := c148
                have q148 := q_eq hc148
                refine lv_iconst (v := (4)) hx hb dX10_compared_124 (by decide) ?_
                refine lv_goto (tgt := 139) hx hb dX10_compared_125 (by decide) ?_
                refine lv_iconst (v := (0)) hx hb dX10_compared_139 (by decide) ?_
                refine m_callv (m_runV (1000) (As := [.int (4), .int (0)]) (rest := []) hx hb hml hown hts hE hM hS hA ce_X10_entry tb_1552 (V_X10_entry_h l D A ad ns I123 L124 G (4) (0) hJ hI (fun hz => by have w0 := xI123.2.2.2.2.1 (by omega); have w1 := xI19.2 (by omega); have w2 := xI1.2.2.2.2.1 (by omega); have w3 := hPI (by omega); omega)) rfl rfl ⟨Nat.le_of_ble_eq_true rfl, Nat.le_of_ble_eq_true rfl⟩ hJ.1 rfl rfl (by decide) rfl hl.1 rfl (Nat.le_of_ble_eq_true rfl) dX10_compared_140 ⟨Nat.le_of_ble_eq_true rfl, Nat.le_of_ble_eq_true rfl⟩) hS (fun u H locs hw hM hS => ?_)
                obtain ⟨I149, L150, rfl, hI, hkI149, xI149⟩ := hw
                have hM : Mem D A ad ns I149 L150 G H := hM
                have hK := hK.trans hkI149 rfl
                have pw151 : (I149 (1000) 24).toInt = (I (1000) 24 : Int32).toInt := (congrArg Int32.toInt ((hkI149.get (1000) 24 rfl))).trans pw125
                have pw152 : (I149 (1000) 25).toInt = (I123 (1000) 25 : Int32).toInt := congrArg Int32.toInt ((hkI149.get (1000) 25 rfl))
                have pw153 : (I149 (1000) 26).toInt = (I123 (1000) 26 : Int32).toInt := congrArg Int32.toInt ((hkI149.get (1000) 26 rfl))
                have pw154 : (I149 (1000) 27).toInt = (I (1000) 27 : Int32).toInt := (congrArg Int32.toInt ((hkI149.get (1000) 27 rfl))).trans pw126
                have pw155 : (I149 (1000) 30).toInt = (I (1000) 30 : Int32).toInt := (congrArg Int32.toInt ((hkI149.get (1000) 30 rfl))).trans pw127
                have pw156 : (I149 (1000) 31).toInt = (I123 (1000) 31 : Int32).toInt := congrArg Int32.toInt ((hkI149.get (1000) 31 rfl))
                have pw157 : (I149 (1000) 32).toInt = (I (1000) 32 : Int32).toInt := (congrArg Int32.toInt ((hkI149.get (1000) 32 rfl))).trans pw128
                replace hC := hC.comp (n2 := 1) (xI149.2.2.2.2.2.ct (by omega) (by omega) xI149.2.2.2.1 (by omega)) (by omega) (by omega) (by omega) (by omega) (fun hz => by omega)
                have xeI149 : Imp ((I149 1000 26).toInt = 0) ((I149 1000 29).toInt = (I123 1000 29).toInt + 1) := fun hz => xI149.2.2.2.1 (by omega)
                have hen158 : Imp ((I123 1000 26).toInt = 0) (RC I149 = RC I123 ++ [enc (4 : Int32).toInt (0 : Int32).toInt]) := fun hz => RC_ent xI149.2.2.2.2.2 hz (by omega) (by omega) (xI149.2.2.2.1 hz)
                have z1 := tn (i := I1 1000 25) (by omega)
                have gR5 := RC_len (J := I1) (hIs10.get 1000 29 (lo := 0) (hi := 300) rfl).1
                have gR6 := hIs10.get 1000 29 (lo := 0) (hi := 300) rfl
                have hs67 := sc109
                rw [show ((u2 I19 (1000) 25 (v29)) 1000 25).toNatClampNeg = (I1 1000 25).toNatClampNeg + 1 from by have z6 := tn (i := (u2 I19 (1000) 25 (v29)) 1000 25) (by omega); omega] at hs67
                have hcm : CMP (TM I) I I149 := by
                  by_cases hz : (I1 1000 26).toInt = 0
                  · have w0 := nw9.2.na hz; have w3 := xI19.1.1 hz; have w4 := nw129.1.2
                    have htk := tk_cm2 (T := TM I) (q := (I1 1000 25).toNatClampNeg) (by omega)
                    by_cases hc6 : (I1 1000 31).toInt = 60
                    · have w5 := w3.1 hc6; have w6 := w4 (by omega); exact cmp_many hT nw9.1.1 hz (by rw [w0.1]; omega) hc6 (by rw [w0.1]; omega)
                    · have w5 := w3.2 hc6; have w6 := xI19.2 w5; have z5 := tn (i := (u2 (u2 I19 (1000) 25 (v29)) (1000) 25 (v113)) 1000 25) (by omega); exact cmp_ok (o := -19) (J2 := (u2 (u2 I19 (1000) 25 (v29)) (1000) 25 (v113))) (J3 := I123) hT nw9.1.1 hz (by rw [w0.1]; omega) (by rw [w0.1]; omega) (by omega) (by omega) (by rw [w0.1]; omega) (by omega) (RC_of (J := I1) (J2 := (u2 (u2 I19 (1000) 25 (v29)) (1000) 25 (v113))) (((show (u2 (u2 I19 (1000) 25 (v29)) (1000) 25 (v113)) 1035 = I19 1035 from by funext zz; simp [u2_v])).trans (hkI19.getA 1035 rfl)) (((show (u2 (u2 I19 (1000) 25 (v29)) (1000) 25 (v113)) 1036 = I19 1036 from by funext zz; simp [u2_v])).trans (hkI19.getA 1036 rfl)) (by omega) (by omega)) (by omega) nw129.1.1 (by omega) (fun hy => ⟨by rw [show (I149 1000 25).toNatClampNeg = (I123 1000 25).toNatClampNeg from cl_eq (by omega)], by omega, by rw [hen158 hy, enc_v (v := -19) (Or.inr (Or.inr (Or.inr (Or.inr (Or.inr (Or.inl ⟨by omega, rfl⟩))))))]⟩)
                  · have w3 := xI19.1.2 hz; have w4 := nw129.1.2 (by omega); exact cmp_bad1 nw9.1.1 hz (by omega)
                exact m_vret hx hb hr hlocks hM hS (Nat.le_of_ble_eq_true rfl) (Nat.le_of_ble_eq_true rfl) ⟨_, _, rfl, hI, hK, ⟨⟨hcm, fun hz => by rw [show (I149 1000 25).toNatClampNeg = (I123 1000 25).toNatClampNeg from cl_eq (by omega)]; exact nw129.2 (by omega)⟩, by omega, by omega, by omega, (fun hz => by have w0 := xeI149 (by omega); have w1 := xI123.2.2.2.2.1 (by omega); have w2 := xI19.2 (by omega); have w3 := xI1.2.2.2.2.1 (by omega); have w4 := hPI (by omega); omega), hC⟩⟩ dX10_compared_143
              · exact absurd c148 (by decide)
          · have hc131 := c131
            have q131 := q_eq hc131
            have sg159 := xr11.2.2.2 (by omega)
            have sc160 := sx14.y (k := 61) (by omega) (by decide)
            refine lv_bipush (v := (6)) hx hb dX10_compared_105 (by decide) ?_
            refine lv_goto (tgt := 139) hx hb dX10_compared_107 (by decide) ?_
            refine lv_iconst (v := (0)) hx hb dX10_compared_139 (by decide) ?_
            refine m_callv (m_runV (1000) (As := [.int (6), .int (0)]) (rest := []) hx hb hml hown hts hE hM hS hA ce_X10_entry tb_1552 (V_X10_entry_h l D A ad ns I123 L124 G (6) (0) hJ hI (fun hz => by have w0 := xI123.2.2.2.2.1 (by omega); have w1 := xI19.2 (by omega); have w2 := xI1.2.2.2.2.1 (by omega); have w3 := hPI (by omega); omega)) rfl rfl ⟨Nat.le_of_ble_eq_true rfl, Nat.le_of_ble_eq_true rfl⟩ hJ.1 rfl rfl (by decide) rfl hl.1 rfl (Nat.le_of_ble_eq_true rfl) dX10_compared_140 ⟨Nat.le_of_ble_eq_true rfl, Nat.le_of_ble_eq_true rfl⟩) hS (fun u H locs hw hM hS => ?_)
            obtain ⟨I161, L162, rfl, hI, hkI161, xI161⟩ := hw
            have hM : Mem D A ad ns I161 L162 G H := hM
            have hK := hK.trans hkI161 rfl
            have pw163 : (I161 (1000) 24).toInt = (I (1000) 24 : Int32).toInt := (congrArg Int32.toInt ((hkI161.get (1000) 24 rfl))).trans pw125
            have pw164 : (I161 (1000) 25).toInt = (I123 (1000) 25 : Int32).toInt := congrArg Int32.toInt ((hkI161.get (1000) 25 rfl))
            have pw165 : (I161 (1000) 26).toInt = (I123 (1000) 26 : Int32).toInt := congrArg Int32.toInt ((hkI161.get (1000) 26 rfl))
            have pw166 : (I161 (1000) 27).toInt = (I (1000) 27 : Int32).toInt := (congrArg Int32.toInt ((hkI161.get (1000) 27 rfl))).trans pw126
            have pw167 : (I161 (1000) 30).toInt = (I (1000) 30 : Int32).toInt := (congrArg Int32.toInt ((hkI161.get (1000) 30 rfl))).trans pw127
            have pw168 : (I161 (1000) 31).toInt = (I123 (1000) 31 : Int32).toInt := congrArg Int32.toInt ((hkI161.get (1000) 31 rfl))
            have pw169 : (I161 (1000) 32).toInt = (I (1000) 32 : Int32).toInt := (congrArg Int32.toInt ((hkI161.get (1000) 32 rfl))).trans pw128
            replace hC := hC.comp (n2 := 1) (xI161.2.2.2.2.2.ct (by omega) (by omega) xI161.2.2.2.1 (by omega)) (by omega) (by omega) (by omega) (by omega) (fun hz => by omega)
            have xeI161 : Imp ((I161 1000 26).toInt = 0) ((I161 1000 29).toInt = (I123 1000 29).toInt + 1) := fun hz => xI161.2.2.2.1 (by omega)
            have hen170 : Imp ((I123 1000 26).toInt = 0) (RC I161 = RC I123 ++ [enc (6 : Int32).toInt (0 : Int32).toInt]) := fun hz => RC_ent xI161.2.2.2.2.2 hz (by omega) (by omega) (xI161.2.2.2.1 hz)
            have z1 := tn (i := I1 1000 25) (by omega)
            have gR5 := RC_len (J := I1) (hIs10.get 1000 29 (lo := 0) (hi := 300) rfl).1
            have gR6 := hIs10.get 1000 29 (lo := 0) (hi := 300) rfl
            have hs67 := sc109
            rw [show ((u2 I19 (1000) 25 (v29)) 1000 25).toNatClampNeg = (I1 1000 25).toNatClampNeg + 1 from by have z6 := tn (i := (u2 I19 (1000) 25 (v29)) 1000 25) (by omega); omega] at hs67
            have hcm : CMP (TM I) I I161 := by
              by_cases hz : (I1 1000 26).toInt = 0
              · have w0 := nw9.2.na hz; have w3 := xI19.1.1 hz; have w4 := nw129.1.2
                have htk := tk_cm2 (T := TM I) (q := (I1 1000 25).toNatClampNeg) (by omega)
                by_cases hc6 : (I1 1000 31).toInt = 60
                · have w5 := w3.1 hc6; have w6 := w4 (by omega); exact cmp_many hT nw9.1.1 hz (by rw [w0.1]; omega) hc6 (by rw [w0.1]; omega)
                · have w5 := w3.2 hc6; have w6 := xI19.2 w5; have z5 := tn (i := (u2 (u2 I19 (1000) 25 (v29)) (1000) 25 (v113)) 1000 25) (by omega); exact cmp_ok (o := -21) (J2 := (u2 (u2 I19 (1000) 25 (v29)) (1000) 25 (v113))) (J3 := I123) hT nw9.1.1 hz (by rw [w0.1]; omega) (by rw [w0.1]; omega) (by omega) (by omega) (by rw [w0.1]; omega) (by omega) (RC_of (J := I1) (J2 := (u2 (u2 I19 (1000) 25 (v29)) (1000) 25 (v113))) (((show (u2 (u2 I19 (1000) 25 (v29)) (1000) 25 (v113)) 1035 = I19 1035 from by funext zz; simp [u2_v])).trans (hkI19.getA 1035 rfl)) (((show (u2 (u2 I19 (1000) 25 (v29)) (1000) 25 (v113)) 1036 = I19 1036 from by funext zz; simp [u2_v])).trans (hkI19.getA 1036 rfl)) (by omega) (by omega)) (by omega) nw129.1.1 (by omega) (fun hy => ⟨by rw [show (I161 1000 25).toNatClampNeg = (I123 1000 25).toNatClampNeg from cl_eq (by omega)], by omega, by rw [hen170 hy, enc_v (v := -21) (Or.inr (Or.inr (Or.inr (Or.inr (Or.inr (Or.inr (Or.inr (Or.inl ⟨by omega, rfl⟩))))))))]⟩)
              · have w3 := xI19.1.2 hz; have w4 := nw129.1.2 (by omega); exact cmp_bad1 nw9.1.1 hz (by omega)
            exact m_vret hx hb hr hlocks hM hS (Nat.le_of_ble_eq_true rfl) (Nat.le_of_ble_eq_true rfl) ⟨_, _, rfl, hI, hK, ⟨⟨hcm, fun hz => by rw [show (I161 1000 25).toNatClampNeg = (I123 1000 25).toNatClampNeg from cl_eq (by omega)]; exact nw129.2 (by omega)⟩, by omega, by omega, by omega, (fun hz => by have w0 := xeI161 (by omega); have w1 := xI123.2.2.2.2.1 (by omega); have w2 := xI19.2 (by omega); have w3 := xI1.2.2.2.2.1 (by omega); have w4 := hPI (by omega); omega), hC⟩⟩ dX10_compared_143
        · exact absurd c112 (by decide)
      · have hc108 := c108
        have q108 := q_eq hc108
        have sg171 := xr104.2.2.2 (by omega)
        have sc172 := sx107.y (k := 61) (by omega) (by decide)
        refine lv_iconst (v := (1)) hx hb dX10_compared_70 (by decide) ?_
        refine lv_goto (tgt := 75) hx hb dX10_compared_71 (by decide) ?_
        refine lv_istore_n (lv' := [(2, .int (1)), (1, .int (r11)), (0, .ref (ad (1000)))]) hx hb dX10_compared_75 rfl hl (by decide) rfl (fun ls hl => ?_)
        refine lv_aload_n hx hb dX10_compared_76 rfl (lv_at hl 2 rfl) ?_
        refine lv_dup hx hb dX10_compared_77 rfl ?_
        refine m_geti (1000) 25 hx hb hts hown hE oc10 hM hJ.1 rfl (by decide) rfl tb_1202 dX10_compared_78 ?_
        have g173 := hI.get (1000) 25 (lo := 0) (hi := 100000) rfl
        have z174 : (u2 I19 (1000) 25 (v29)) (1000) 25 = v29 := (show (u2 I19 (1000) 25 (v29)) (1000) 25 = v29 from by simp [u2_v])
        rw [z174] at g173 ⊢
        refine lv_iload_n hx hb dX10_compared_81 rfl (lv_at hl 0 rfl) ?_
        refine lv_if_eq (tgt := 89) hx hb dX10_compared_82 (by decide) (fun c175 => ?_) (fun c175 => ?_)
        · exact absurd c175 (by decide)
        · have hc175 := c175
          have q175 := q_ne hc175
          refine lv_iconst (v := (1)) hx hb dX10_compared_85 (by decide) ?_
          refine lv_goto (tgt := 90) hx hb dX10_compared_86 (by decide) ?_
          refine lv_iadd hx hb dX10_compared_90 ?_
          refine lv_topi (fun v176 ev176 => ?_)
          have tv176 := a_add ev176 (by omega) (by omega)
          refine m_puti (1000) 25 hx hb hts hown hE oc10 hM hS hJ.1 rfl (by decide) rfl rfl rfl rfl tb_1202 dX10_compared_91 (fun H locs I177 eI177 hM hS => ?_)
          subst eI177
          have hI := hI.put (n := 1000) (k := 25) (v := v176) (lo := 0) (hi := 100000) rfl (by first | omega | decide)
          have hK := hK.put (n := 1000) (k := 25) (v := v176) (by first | rfl | simp [inR])
          refine lv_aload_n hx hb dX10_compared_94 rfl (lv_at hl 2 rfl) ?_
          have pw178 : ((u2 (u2 I19 (1000) 25 (v29)) (1000) 25 (v176)) (1000) 24).toInt = (I (1000) 24 : Int32).toInt := (congrArg Int32.toInt ((show (u2 (u2 I19 (1000) 25 (v29)) (1000) 25 (v176)) (1000) 24 = (u2 I19 (1000) 25 (v29)) (1000) 24 from by simp [u2_v]))).trans pw96
          have pw179 : ((u2 (u2 I19 (1000) 25 (v29)) (1000) 25 (v176)) (1000) 25).toInt = (v176 : Int32).toInt := congrArg Int32.toInt ((show (u2 (u2 I19 (1000) 25 (v29)) (1000) 25 (v176)) (1000) 25 = v176 from by simp [u2_v]))
          have pw180 : ((u2 (u2 I19 (1000) 25 (v29)) (1000) 25 (v176)) (1000) 26).toInt = (I19 (1000) 26 : Int32).toInt := (congrArg Int32.toInt ((show (u2 (u2 I19 (1000) 25 (v29)) (1000) 25 (v176)) (1000) 26 = (u2 I19 (1000) 25 (v29)) (1000) 26 from by simp [u2_v]))).trans pw98
          have pw181 : ((u2 (u2 I19 (1000) 25 (v29)) (1000) 25 (v176)) (1000) 27).toInt = (I (1000) 27 : Int32).toInt := (congrArg Int32.toInt ((show (u2 (u2 I19 (1000) 25 (v29)) (1000) 25 (v176)) (1000) 27 = (u2 I19 (1000) 25 (v29)) (1000) 27 from by simp [u2_v]))).trans pw99
          have pw182 : ((u2 (u2 I19 (1000) 25 (v29)) (1000) 25 (v176)) (1000) 29).toInt = (I1 (1000) 29 : Int32).toInt := (congrArg Int32.toInt ((show (u2 (u2 I19 (1000) 25 (v29)) (1000) 25 (v176)) (1000) 29 = (u2 I19 (1000) 25 (v29)) (1000) 29 from by simp [u2_v]))).trans pw100
          have pw183 : ((u2 (u2 I19 (1000) 25 (v29)) (1000) 25 (v176)) (1000) 30).toInt = (I (1000) 30 : Int32).toInt := (congrArg Int32.toInt ((show (u2 (u2 I19 (1000) 25 (v29)) (1000) 25 (v176)) (1000) 30 = (u2 I19 (1000) 25 (v29)) (1000) 30 from by simp [u2_v]))).trans pw101
          have pw184 : ((u2 (u2 I19 (1000) 25 (v29)) (1000) 25 (v176)) (1000) 31).toInt = (I19 (1000) 31 : Int32).toInt := (congrArg Int32.toInt ((show (u2 (u2 I19 (1000) 25 (v29)) (1000) 25 (v176)) (1000) 31 = (u2 I19 (1000) 25 (v29)) (1000) 31 from by simp [u2_v]))).trans pw102
          have pw185 : ((u2 (u2 I19 (1000) 25 (v29)) (1000) 25 (v176)) (1000) 32).toInt = (I (1000) 32 : Int32).toInt := (congrArg Int32.toInt ((show (u2 (u2 I19 (1000) 25 (v29)) (1000) 25 (v176)) (1000) 32 = (u2 I19 (1000) 25 (v29)) (1000) 32 from by simp [u2_v]))).trans pw103
          refine m_callv (m_runV (1000) (As := []) (rest := []) hx hb hml hown hts hE hM hS hA ce_X10_sum tb_1535 (V_X10_sum_h l D A ad ns (u2 (u2 I19 (1000) 25 (v29)) (1000) 25 (v176)) L20 G hJ hI (by omega) (fun hz => by have w0 := xI19.2 (by omega); have w1 := xI1.2.2.2.2.1 (by omega); have w2 := hPI (by omega); omega) (hbt.of (hK.getA 1034 rfl) (hK.get 1000 24 rfl))) rfl rfl ⟨Nat.le_of_ble_eq_true rfl, Nat.le_of_ble_eq_true rfl⟩ hJ.1 rfl rfl (by decide) rfl hl.1 rfl (Nat.le_of_ble_eq_true rfl) dX10_compared_95 ⟨Nat.le_of_ble_eq_true rfl, Nat.le_of_ble_eq_true rfl⟩) hS (fun u H locs hw hM hS => ?_)
          obtain ⟨I186, L187, rfl, hI, hkI186, xI186⟩ := hw
          have hM : Mem D A ad ns I186 L187 G H := hM
          have hK := hK.trans hkI186 rfl
          replace hC := CT.link (I2 := (u2 (u2 I19 (1000) 25 (v29)) (1000) 25 (v176))) hC (((show (u2 (u2 I19 (1000) 25 (v29)) (1000) 25 (v176)) 1035 = I19 1035 from by funext zz; simp [u2_v])).trans (hkI19.getA 1035 rfl)) (((show (u2 (u2 I19 (1000) 25 (v29)) (1000) 25 (v176)) 1036 = I19 1036 from by funext zz; simp [u2_v])).trans (hkI19.getA 1036 rfl)) (by omega) (fun hz => by have w0 := xI19.2 (by omega); have w1 := xI1.2.2.2.2.1 (by omega); have w2 := hPI (by omega); omega)
          have pw188 : (I186 (1000) 24).toInt = (I (1000) 24 : Int32).toInt := (congrArg Int32.toInt ((hkI186.get (1000) 24 rfl))).trans pw178
          have pw189 : (I186 (1000) 27).toInt = (I (1000) 27 : Int32).toInt := (congrArg Int32.toInt ((hkI186.get (1000) 27 rfl))).trans pw181
          have pw190 : (I186 (1000) 30).toInt = (I (1000) 30 : Int32).toInt := (congrArg Int32.toInt ((hkI186.get (1000) 30 rfl))).trans pw183
          have pw191 : (I186 (1000) 32).toInt = (I (1000) 32 : Int32).toInt := (congrArg Int32.toInt ((hkI186.get (1000) 32 rfl))).trans pw185
          replace hC := hC.comp ((xI186.2.2.2.2.2).mono0 (1 + (0))) (by omega) (by omega) (by omega) (by omega) (fun hz => (xI186.2.2.2.2.1 hz).1)
          have nw192 := xI186.1
          rw [show TM (u2 (u2 I19 (1000) 25 (v29)) (1000) 25 (v176)) = TM I from (TM_of (hkI186.getA 1034 rfl) (hkI186.get 1000 24 rfl)).symm.trans (TM_of (hK.getA 1034 rfl) (hK.get 1000 24 rfl))] at nw192
          have hIs193 := hI
          refine lv_aload_n hx hb dX10_compared_98 rfl (lv_at hl 2 rfl) ?_
          refine lv_iload_n hx hb dX10_compared_99 rfl (lv_at hl 1 rfl) ?_
          refine lv_bipush (v := (61)) hx hb dX10_compared_100 (by decide) ?_
          refine lv_icmp_ne (tgt := 110) hx hb dX10_compared_102 (by decide) (fun c194 => ?_) (fun c194 => ?_)
          · have hc194 := c194
            have q194 := q_ne hc194
            have sc195 := sx14.n (k := 61) (by omega) (by decide)
            refine lv_iload_n hx hb dX10_compared_110 rfl (lv_at hl 1 rfl) ?_
            refine lv_bipush (v := (60)) hx hb dX10_compared_111 (by decide) ?_
            refine lv_icmp_ne (tgt := 128) hx hb dX10_compared_113 (by decide) (fun c196 => ?_) (fun c196 => ?_)
            · have hc196 := c196
              have q196 := q_ne hc196
              have sc197 := sx14.n (k := 60) (by omega) (by decide)
              refine lv_iload_n hx hb dX10_compared_128 rfl (lv_at hl 0 rfl) ?_
              refine lv_if_eq (tgt := 137) hx hb dX10_compared_129 (by decide) (fun c198 => ?_) (fun c198 => ?_)
              · exact absurd c198 (by decide)
              · have hc198 := c198
                have q198 := q_ne hc198
                refine lv_bipush (v := (7)) hx hb dX10_compared_132 (by decide) ?_
                refine lv_goto (tgt := 139) hx hb dX10_compared_134 (by decide) ?_
                refine lv_iconst (v := (0)) hx hb dX10_compared_139 (by decide) ?_
                refine m_callv (m_runV (1000) (As := [.int (7), .int (0)]) (rest := []) hx hb hml hown hts hE hM hS hA ce_X10_entry tb_1552 (V_X10_entry_h l D A ad ns I186 L187 G (7) (0) hJ hI (fun hz => by have w0 := xI186.2.2.2.2.1 (by omega); have w1 := xI19.2 (by omega); have w2 := xI1.2.2.2.2.1 (by omega); have w3 := hPI (by omega); omega)) rfl rfl ⟨Nat.le_of_ble_eq_true rfl, Nat.le_of_ble_eq_true rfl⟩ hJ.1 rfl rfl (by decide) rfl hl.1 rfl (Nat.le_of_ble_eq_true rfl) dX10_compared_140 ⟨Nat.le_of_ble_eq_true rfl, Nat.le_of_ble_eq_true rfl⟩) hS (fun u H locs hw hM hS => ?_)
                obtain ⟨I199, L200, rfl, hI, hkI199, xI199⟩ := hw
                have hM : Mem D A ad ns I199 L200 G H := hM
                have hK := hK.trans hkI199 rfl
                have pw201 : (I199 (1000) 24).toInt = (I (1000) 24 : Int32).toInt := (congrArg Int32.toInt ((hkI199.get (1000) 24 rfl))).trans pw188
                have pw202 : (I199 (1000) 25).toInt = (I186 (1000) 25 : Int32).toInt := congrArg Int32.toInt ((hkI199.get (1000) 25 rfl))
                have pw203 : (I199 (1000) 26).toInt = (I186 (1000) 26 : Int32).toInt := congrArg Int32.toInt ((hkI199.get (1000) 26 rfl))
                have pw204 : (I199 (1000) 27).toInt = (I (1000) 27 : Int32).toInt := (congrArg Int32.toInt ((hkI199.get (1000) 27 rfl))).trans pw189
                have pw205 : (I199 (1000) 30).toInt = (I (1000) 30 : Int32).toInt := (congrArg Int32.toInt ((hkI199.get (1000) 30 rfl))).trans pw190
                have pw206 : (I199 (1000) 31).toInt = (I186 (1000) 31 : Int32).toInt := congrArg Int32.toInt ((hkI199.get (1000) 31 rfl))
                have pw207 : (I199 (1000) 32).toInt = (I (1000) 32 : Int32).toInt := (congrArg Int32.toInt ((hkI199.get (1000) 32 rfl))).trans pw191
                replace hC := hC.comp (n2 := 1) (xI199.2.2.2.2.2.ct (by omega) (by omega) xI199.2.2.2.1 (by omega)) (by omega) (by omega) (by omega) (by omega) (fun hz => by omega)
                have xeI199 : Imp ((I199 1000 26).toInt = 0) ((I199 1000 29).toInt = (I186 1000 29).toInt + 1) := fun hz => xI199.2.2.2.1 (by omega)
                have hen208 : Imp ((I186 1000 26).toInt = 0) (RC I199 = RC I186 ++ [enc (7 : Int32).toInt (0 : Int32).toInt]) := fun hz => RC_ent xI199.2.2.2.2.2 hz (by omega) (by omega) (xI199.2.2.2.1 hz)
                have z1 := tn (i := I1 1000 25) (by omega)
                have gR5 := RC_len (J := I1) (hIs10.get 1000 29 (lo := 0) (hi := 300) rfl).1
                have gR6 := hIs10.get 1000 29 (lo := 0) (hi := 300) rfl
                have hs67 := sc172
                rw [show ((u2 I19 (1000) 25 (v29)) 1000 25).toNatClampNeg = (I1 1000 25).toNatClampNeg + 1 from by have z6 := tn (i := (u2 I19 (1000) 25 (v29)) 1000 25) (by omega); omega] at hs67
                have hcm : CMP (TM I) I I199 := by
                  by_cases hz : (I1 1000 26).toInt = 0
                  · have w0 := nw9.2.na hz; have w3 := xI19.1.1 hz; have w4 := nw192.1.2
                    have htk := tk_cm2 (T := TM I) (q := (I1 1000 25).toNatClampNeg) (by omega)
                    by_cases hc6 : (I1 1000 31).toInt = 60
                    · have w5 := w3.1 hc6; have w6 := w4 (by omega); exact cmp_many hT nw9.1.1 hz (by rw [w0.1]; omega) hc6 (by rw [w0.1]; omega)
                    · have w5 := w3.2 hc6; have w6 := xI19.2 w5; have z5 := tn (i := (u2 (u2 I19 (1000) 25 (v29)) (1000) 25 (v176)) 1000 25) (by omega); exact cmp_ok (o := -22) (J2 := (u2 (u2 I19 (1000) 25 (v29)) (1000) 25 (v176))) (J3 := I186) hT nw9.1.1 hz (by rw [w0.1]; omega) (by rw [w0.1]; omega) (by omega) (by omega) (by rw [w0.1]; omega) (by omega) (RC_of (J := I1) (J2 := (u2 (u2 I19 (1000) 25 (v29)) (1000) 25 (v176))) (((show (u2 (u2 I19 (1000) 25 (v29)) (1000) 25 (v176)) 1035 = I19 1035 from by funext zz; simp [u2_v])).trans (hkI19.getA 1035 rfl)) (((show (u2 (u2 I19 (1000) 25 (v29)) (1000) 25 (v176)) 1036 = I19 1036 from by funext zz; simp [u2_v])).trans (hkI19.getA 1036 rfl)) (by omega) (by omega)) (by omega) nw192.1.1 (by omega) (fun hy => ⟨by rw [show (I199 1000 25).toNatClampNeg = (I186 1000 25).toNatClampNeg from cl_eq (by omega)], by omega, by rw [hen208 hy, enc_v (v := -22) (Or.inr (Or.inr (Or.inr (Or.inr (Or.inr (Or.inr (Or.inr (Or.inr (Or.inl ⟨by omega, rfl⟩)))))))))]⟩)
                  · have w3 := xI19.1.2 hz; have w4 := nw192.1.2 (by omega); exact cmp_bad1 nw9.1.1 hz (by omega)
                exact m_vret hx hb hr hlocks hM hS (Nat.le_of_ble_eq_true rfl) (Nat.le_of_ble_eq_true rfl) ⟨_, _, rfl, hI, hK, ⟨⟨hcm, fun hz => by rw [show (I199 1000 25).toNatClampNeg = (I186 1000 25).toNatClampNeg from cl_eq (by omega)]; exact nw192.2 (by omega)⟩, by omega, by omega, by omega, (fun hz => by have w0 := xeI199 (by omega); have w1 := xI186.2.2.2.2.1 (by omega); have w2 := xI19.2 (by omega); have w3 := xI1.2.2.2.2.1 (by omega); have w4 := hPI (by omega); omega), hC⟩⟩ dX10_compared_143
            · have hc196 := c196
              have q196 := q_eq hc196
              have sg209 := xr11.2.2.2 (by omega)
              have sc210 := sx14.y (k := 60) (by omega) (by decide)
              refine lv_iload_n hx hb dX10_compared_116 rfl (lv_at hl 0 rfl) ?_
              refine lv_if_eq (tgt := 124) hx hb dX10_compared_117 (by decide) (fun c211 => ?_) (fun c211 => ?_)
              · exact absurd c211 (by decide)
              · have hc211 := c211
                have q211 := q_ne hc211
                refine lv_iconst (v := (5)) hx hb dX10_compared_120 (by decide) ?_
                refine lv_goto (tgt := 139) hx hb dX10_compared_121 (by decide) ?_
                refine lv_iconst (v := (0)) hx hb dX10_compared_139 (by decide) ?_
                refine m_callv (m_runV (1000) (As := [.int (5), .int (0)]) (rest := []) hx hb hml hown hts hE hM hS hA ce_X10_entry tb_1552 (V_X10_entry_h l D A ad ns I186 L187 G (5) (0) hJ hI (fun hz => by have w0 := xI186.2.2.2.2.1 (by omega); have w1 := xI19.2 (by omega); have w2 := xI1.2.2.2.2.1 (by omega); have w3 := hPI (by omega); omega)) rfl rfl ⟨Nat.le_of_ble_eq_true rfl, Nat.le_of_ble_eq_true rfl⟩ hJ.1 rfl rfl (by decide) rfl hl.1 rfl (Nat.le_of_ble_eq_true rfl) dX10_compared_140 ⟨Nat.le_of_ble_eq_true rfl, Nat.le_of_ble_eq_true rfl⟩) hS (fun u H locs hw hM hS => ?_)
                obtain ⟨I212, L213, rfl, hI, hkI212, xI212⟩ := hw
                have hM : Mem D A ad ns I212 L213 G H := hM
                have hK := hK.trans hkI212 rfl
                have pw214 : (I212 (1000) 24).toInt = (I (1000) 24 : Int32).toInt := (congrArg Int32.toInt ((hkI212.get (1000) 24 rfl))).trans pw188
                have pw215 : (I212 (1000) 25).toInt = (I186 (1000) 25 : Int32).toInt := congrArg Int32.toInt ((hkI212.get (1000) 25 rfl))
                have pw216 : (I212 (1000) 26).toInt = (I186 (1000) 26 : Int32).toInt := congrArg Int32.toInt ((hkI212.get (1000) 26 rfl))
                have pw217 : (I212 (1000) 27).toInt = (I (1000) 27 : Int32).toInt := (congrArg Int32.toInt ((hkI212.get (1000) 27 rfl))).trans pw189
                have pw218 : (I212 (1000) 30).toInt = (I (1000) 30 : Int32).toInt := (congrArg Int32.toInt ((hkI212.get (1000) 30 rfl))).trans pw190
                have pw219 : (I212 (1000) 31).toInt = (I186 (1000) 31 : Int32).toInt := congrArg Int32.toInt ((hkI212.get (1000) 31 rfl))
                have pw220 : (I212 (1000) 32).toInt = (I (1000) 32 : Int32).toInt := (congrArg Int32.toInt ((hkI212.get (1000) 32 rfl))).trans pw191
                replace hC := hC.comp (n2 := 1) (xI212.2.2.2.2.2.ct (by omega) (by omega) xI212.2.2.2.1 (by omega)) (by omega) (by omega) (by omega) (by omega) (fun hz => by omega)
                have xeI212 : Imp ((I212 1000 26).toInt = 0) ((I212 1000 29).toInt = (I186 1000 29).toInt + 1) := fun hz => xI212.2.2.2.1 (by omega)
                have hen221 : Imp ((I186 1000 26).toInt = 0) (RC I212 = RC I186 ++ [enc (5 : Int32).toInt (0 : Int32).toInt]) := fun hz => RC_ent xI212.2.2.2.2.2 hz (by omega) (by omega) (xI212.2.2.2.1 hz)
                have z1 := tn (i := I1 1000 25) (by omega)
                have gR5 := RC_len (J := I1) (hIs10.get 1000 29 (lo := 0) (hi := 300) rfl).1
                have gR6 := hIs10.get 1000 29 (lo := 0) (hi := 300) rfl
                have hs67 := sc172
                rw [show ((u2 I19 (1000) 25 (v29)) 1000 25).toNatClampNeg = (I1 1000 25).toNatClampNeg + 1 from by have z6 := tn (i := (u2 I19 (1000) 25 (v29)) 1000 25) (by omega); omega] at hs67
                have hcm : CMP (TM I) I I212 := by
                  by_cases hz : (I1 1000 26).toInt = 0
                  · have w0 := nw9.2.na hz; have w3 := xI19.1.1 hz; have w4 := nw192.1.2
                    have htk := tk_cm2 (T := TM I) (q := (I1 1000 25).toNatClampNeg) (by omega)
                    by_cases hc6 : (I1 1000 31).toInt = 60
                    · have w5 := w3.1 hc6; have w6 := w4 (by omega); exact cmp_many hT nw9.1.1 hz (by rw [w0.1]; omega) hc6 (by rw [w0.1]; omega)
                    · have w5 := w3.2 hc6; have w6 := xI19.2 w5; have z5 := tn (i := (u2 (u2 I19 (1000) 25 (v29)) (1000) 25 (v176)) 1000 25) (by omega); exact cmp_ok (o := -20) (J2 := (u2 (u2 I19 (1000) 25 (v29)) (1000) 25 (v176))) (J3 := I186) hT nw9.1.1 hz (by rw [w0.1]; omega) (by rw [w0.1]; omega) (by omega) (by omega) (by rw [w0.1]; omega) (by omega) (RC_of (J := I1) (J2 := (u2 (u2 I19 (1000) 25 (v29)) (1000) 25 (v176))) (((show (u2 (u2 I19 (1000) 25 (v29)) (1000) 25 (v176)) 1035 = I19 1035 from by funext zz; simp [u2_v])).trans (hkI19.getA 1035 rfl)) (((show (u2 (u2 I19 (1000) 25 (v29)) (1000) 25 (v176)) 1036 = I19 1036 from by funext zz; simp [u2_v])).trans (hkI19.getA 1036 rfl)) (by omega) (by omega)) (by omega) nw192.1.1 (by omega) (fun hy => ⟨by rw [show (I212 1000 25).toNatClampNeg = (I186 1000 25).toNatClampNeg from cl_eq (by omega)], by omega, by rw [hen221 hy, enc_v (v := -20) (Or.inr (Or.inr (Or.inr (Or.inr (Or.inr (Or.inr (Or.inl ⟨by omega, rfl⟩)))))))]⟩)
                  · have w3 := xI19.1.2 hz; have w4 := nw192.1.2 (by omega); exact cmp_bad1 nw9.1.1 hz (by omega)
                exact m_vret hx hb hr hlocks hM hS (Nat.le_of_ble_eq_true rfl) (Nat.le_of_ble_eq_true rfl) ⟨_, _, rfl, hI, hK, ⟨⟨hcm, fun hz => by rw [show (I212 1000 25).toNatClampNeg = (I186 1000 25).toNatClampNeg from cl_eq (by omega)]; exact nw192.2 (by omega)⟩, by omega, by omega, by omega, (fun hz => by have w0 := xeI212 (by omega); have w1 := xI186.2.2.2.2.1 (by omega); have w2 := xI19.2 (by omega); have w3 := xI1.2.2.2.2.1 (by omega); have w4 := hPI (by omega); omega), hC⟩⟩ dX10_compared_143
          · have hc194 := c194
            have q194 := q_eq hc194
            have sg222 := xr11.2.2.2 (by omega)
            have sc223 := sx14.y (k := 61) (by omega) (by decide)
            refine lv_bipush (v := (6)) hx hb dX10_compared_105 (by decide) ?_
            refine lv_goto (tgt := 139) hx hb dX10_compared_107 (by decide) ?_
            refine lv_iconst (v := (0)) hx hb dX10_compared_139 (by decide) ?_
            refine m_callv (m_runV (1000) (As := [.int (6), .int (0)]) (rest := []) hx hb hml hown hts hE hM hS hA ce_X10_entry tb_1552 (V_X10_entry_h l D A ad ns I186 L187 G (6) (0) hJ hI (fun hz => by have w0 := xI186.2.2.2.2.1 (by omega); have w1 := xI19.2 (by omega); have w2 := xI1.2.2.2.2.1 (by omega); have w3 := hPI (by omega); omega)) rfl rfl ⟨Nat.le_of_ble_eq_true rfl, Nat.le_of_ble_eq_true rfl⟩ hJ.1 rfl rfl (by decide) rfl hl.1 rfl (Nat.le_of_ble_eq_true rfl) dX10_compared_140 ⟨Nat.le_of_ble_eq_true rfl, Nat.le_of_ble_eq_true rfl⟩) hS (fun u H locs hw hM hS => ?_)
            obtain ⟨I224, L225, rfl, hI, hkI224, xI224⟩ := hw
            have hM : Mem D A ad ns I224 L225 G H := hM
            have hK := hK.trans hkI224 rfl
            have pw226 : (I224 (1000) 24).toInt = (I (1000) 24 : Int32).toInt := (congrArg Int32.toInt ((hkI224.get (1000) 24 rfl))).trans pw188
            have pw227 : (I224 (1000) 25).toInt = (I186 (1000) 25 : Int32).toInt := congrArg Int32.toInt ((hkI224.get (1000) 25 rfl))
            have pw228 : (I224 (1000) 26).toInt = (I186 (1000) 26 : Int32).toInt := congrArg Int32.toInt ((hkI224.get (1000) 26 rfl))
            have pw229 : (I224 (1000) 27).toInt = (I (1000) 27 : Int32).toInt := (congrArg Int32.toInt ((hkI224.get (1000) 27 rfl))).trans pw189
            have pw230 : (I224 (1000) 30).toInt = (I (1000) 30 : Int32).toInt := (congrArg Int32.toInt ((hkI224.get (1000) 30 rfl))).trans pw190
            have pw231 : (I224 (1000) 31).toInt = (I186 (1000) 31 : Int32).toInt := congrArg Int32.toInt ((hkI224.get (1000) 31 rfl))
            have pw232 : (I224 (1000) 32).toInt = (I (1000) 32 : Int32).toInt := (congrArg Int32.toInt ((hkI224.get (1000) 32 rfl))).trans pw191
            replace hC := hC.comp (n2 := 1) (xI224.2.2.2.2.2.ct (by omega) (by omega) xI224.2.2.2.1 (by omega)) (by omega) (by omega) (by omega) (by omega) (fun hz => by omega)
            have xeI224 : Imp ((I224 1000 26).toInt = 0) ((I224 1000 29).toInt = (I186 1000 29).toInt + 1) := fun hz => xI224.2.2.2.1 (by omega)
            have hen233 : Imp ((I186 1000 26).toInt = 0) (RC I224 = RC I186 ++ [enc (6 : Int32).toInt (0 : Int32).toInt]) := fun hz => RC_ent xI224.2.2.2.2.2 hz (by omega) (by omega) (xI224.2.2.2.1 hz)
            have z1 := tn (i := I1 1000 25) (by omega)
            have gR5 := RC_len (J := I1) (hIs10.get 1000 29 (lo := 0) (hi := 300) rfl).1
            have gR6 := hIs10.get 1000 29 (lo := 0) (hi := 300) rfl
            have hs67 := sc172
            rw [show ((u2 I19 (1000) 25 (v29)) 1000 25).toNatClampNeg = (I1 1000 25).toNatClampNeg + 1 from by have z6 := tn (i := (u2 I19 (1000) 25 (v29)) 1000 25) (by omega); omega] at hs67
            have hcm : CMP (TM I) I I224 := by
              by_cases hz : (I1 1000 26).toInt = 0
              · have w0 := nw9.2.na hz; have w3 := xI19.1.1 hz; have w4 := nw192.1.2
                have htk := tk_cm2 (T := TM I) (q := (I1 1000 25).toNatClampNeg) (by omega)
                by_cases hc6 : (I1 1000 31).toInt = 60
                · have w5 := w3.1 hc6; have w6 := w4 (by omega); exact cmp_many hT nw9.1.1 hz (by rw [w0.1]; omega) hc6 (by rw [w0.1]; omega)
                · have w5 := w3.2 hc6; have w6 := xI19.2 w5; have z5 := tn (i := (u2 (u2 I19 (1000) 25 (v29)) (1000) 25 (v176)) 1000 25) (by omega); exact cmp_ok (o := -21) (J2 := (u2 (u2 I19 (1000) 25 (v29)) (1000) 25 (v176))) (J3 := I186) hT nw9.1.1 hz (by rw [w0.1]; omega) (by rw [w0.1]; omega) (by omega) (by omega) (by rw [w0.1]; omega) (by omega) (RC_of (J := I1) (J2 := (u2 (u2 I19 (1000) 25 (v29)) (1000) 25 (v176))) (((show (u2 (u2 I19 (1000) 25 (v29)) (1000) 25 (v176)) 1035 = I19 1035 from by funext zz; simp [u2_v])).trans (hkI19.getA 1035 rfl)) (((show (u2 (u2 I19 (1000) 25 (v29)) (1000) 25 (v176)) 1036 = I19 1036 from by funext zz; simp [u2_v])).trans (hkI19.getA 1036 rfl)) (by omega) (by omega)) (by omega) nw192.1.1 (by omega) (fun hy => ⟨by rw [show (I224 1000 25).toNatClampNeg = (I186 1000 25).toNatClampNeg from cl_eq (by omega)], by omega, by rw [hen233 hy, enc_v (v := -21) (Or.inr (Or.inr (Or.inr (Or.inr (Or.inr (Or.inr (Or.inr (Or.inl ⟨by omega, rfl⟩))))))))]⟩)
              · have w3 := xI19.1.2 hz; have w4 := nw192.1.2 (by omega); exact cmp_bad1 nw9.1.1 hz (by omega)
            exact m_vret hx hb hr hlocks hM hS (Nat.le_of_ble_eq_true rfl) (Nat.le_of_ble_eq_true rfl) ⟨_, _, rfl, hI, hK, ⟨⟨hcm, fun hz => by rw [show (I224 1000 25).toNatClampNeg = (I186 1000 25).toNatClampNeg from cl_eq (by omega)]; exact nw192.2 (by omega)⟩, by omega, by omega, by omega, (fun hz => by have w0 := xeI224 (by omega); have w1 := xI186.2.2.2.2.1 (by omega); have w2 := xI19.2 (by omega); have w3 := xI1.2.2.2.2.1 (by omega); have w4 := hPI (by omega); omega), hC⟩⟩ dX10_compared_143
  · have hc15 := c15
    have q15 := q_ne hc15
    have sc234 := sx14.n (k := 60) (by omega) (by decide)
    refine lv_iload_n hx hb dX10_compared_15 rfl (lv_at hl 0 rfl) ?_
    refine lv_bipush (v := (61)) hx hb dX10_compared_16 (by decide) ?_
    refine lv_icmp_eq (tgt := 37) hx hb dX10_compared_18 (by decide) (fun c235 => ?_) (fun c235 => ?_)
    · have hc235 := c235
      have q235 := q_eq hc235
      have sg236 := xr11.2.2.2 (by omega)
      have sc237 := sx14.y (k := 61) (by omega) (by decide)
      refine lv_aload_n hx hb dX10_compared_37 rfl (lv_at hl 1 rfl) ?_
      refine lv_aload_n hx hb dX10_compared_38 rfl (lv_at hl 1 rfl) ?_
      refine m_geti (1000) 25 hx hb hts hown hE oc10 hM hJ.1 rfl (by decide) rfl tb_1202 dX10_compared_39 ?_
      have g238 := hI.get (1000) 25 (lo := 0) (hi := 100000) rfl
      refine m_callv (m_runV (1000) (As := [.int (I1 (1000) 25)]) (rest := []) hx hb hml hown hts hE hM hS hA ce_X10_isCounted tb_1548 (V_X10_isCounted_h l D A ad ns I1 L2 G (I1 (1000) 25) hJ hI (fun hz => by have w0 := xI1.2.2.2.2.1 (by omega); have w1 := hPI (by omega); omega) (by first | omega | decide)) rfl rfl ⟨Nat.le_of_ble_eq_true rfl, Nat.le_of_ble_eq_true rfl⟩ hJ.1 rfl rfl (by decide) rfl hl.1 rfl (Nat.le_of_ble_eq_true rfl) dX10_compared_42 ⟨Nat.le_of_ble_eq_true rfl, Nat.le_of_ble_eq_true rfl⟩) hS (fun u H locs hw hM hS => ?_)
      obtain ⟨I239, L240, rfl, hI, hkI239, xI239⟩ := hw
      have hM : Mem D A ad ns I239 L240 G H := hM
      have hK := hK.trans hkI239 rfl
      have pw241 : (I239 (1000) 24).toInt = (I (1000) 24 : Int32).toInt := (congrArg Int32.toInt ((hkI239.get (1000) 24 rfl))).trans pw3
      have pw242 : (I239 (1000) 25).toInt = (I1 (1000) 25 : Int32).toInt := congrArg Int32.toInt ((hkI239.get (1000) 25 rfl))
      have pw243 : (I239 (1000) 27).toInt = (I (1000) 27 : Int32).toInt := (congrArg Int32.toInt ((hkI239.get (1000) 27 rfl))).trans pw4
      have pw244 : (I239 (1000) 29).toInt = (I1 (1000) 29 : Int32).toInt := congrArg Int32.toInt ((hkI239.get (1000) 29 rfl))
      have pw245 : (I239 (1000) 30).toInt = (I (1000) 30 : Int32).toInt := (congrArg Int32.toInt ((hkI239.get (1000) 30 rfl))).trans pw5
      have pw246 : (I239 (1000) 32).toInt = (I (1000) 32 : Int32).toInt := (congrArg Int32.toInt ((hkI239.get (1000) 32 rfl))).trans pw6
      refine lv_aload_n hx hb dX10_compared_45 rfl (lv_at hl 1 rfl) ?_
      refine lv_dup hx hb dX10_compared_46 rfl ?_
      refine m_geti (1000) 25 hx hb hts hown hE oc10 hM hJ.1 rfl (by decide) rfl tb_1202 dX10_compared_47 ?_
      have g247 := hI.get (1000) 25 (lo := 0) (hi := 100000) rfl
      have z248 : I239 (1000) 25 = I1 (1000) 25 := (hkI239.get (1000) 25 rfl)
      rw [z248] at g247 ⊢
      refine lv_iconst (v := (1)) hx hb dX10_compared_50 (by decide) ?_
      refine lv_iadd hx hb dX10_compared_51 ?_
      refine lv_topi (fun v249 ev249 => ?_)
      have tv249 := a_add ev249 (by omega) (by omega)
      refine m_puti (1000) 25 hx hb hts hown hE oc10 hM hS hJ.1 rfl (by decide) rfl rfl rfl rfl tb_1202 dX10_compared_52 (fun H locs I250 eI250 hM hS => ?_)
      subst eI250
      have hI := hI.put (n := 1000) (k := 25) (v := v249) (lo := 0) (hi := 100000) rfl (by first | omega | decide)
      have hK := hK.put (n := 1000) (k := 25) (v := v249) (by first | rfl | simp [inR])
      refine lv_iload_n hx hb dX10_compared_55 rfl (lv_at hl 0 rfl) ?_
      refine lv_bipush (v := (61)) hx hb dX10_compared_56 (by decide) ?_
      refine lv_icmp_eq (tgt := 74) hx hb dX10_compared_58 (by decide) (fun c251 => ?_) (fun c251 => ?_)
      · have hc251 := c251
        have q251 := q_eq hc251
        have sg252 := xr11.2.2.2 (by omega)
        have sc253 := sx14.y (k := 61) (by omega) (by decide)
        refine lv_iconst (v := (0)) hx hb dX10_compared_74 (by decide) ?_
        refine lv_istore_n (lv' := [(2, .int (0)), (1, .int (r11)), (0, .ref (ad (1000)))]) hx hb dX10_compared_75 rfl hl (by decide) rfl (fun ls hl => ?_)
        refine lv_aload_n hx hb dX10_compared_76 rfl (lv_at hl 2 rfl) ?_
        refine lv_dup hx hb dX10_compared_77 rfl ?_
        refine m_geti (1000) 25 hx hb hts hown hE oc10 hM hJ.1 rfl (by decide) rfl tb_1202 dX10_compared_78 ?_
        have g254 := hI.get (1000) 25 (lo := 0) (hi := 100000) rfl
        have z255 : (u2 I239 (1000) 25 (v249)) (1000) 25 = v249 := (show (u2 I239 (1000) 25 (v249)) (1000) 25 = v249 from by simp [u2_v])
        rw [z255] at g254 ⊢
        refine lv_iload_n hx hb dX10_compared_81 rfl (lv_at hl 0 rfl) ?_
        refine lv_if_eq (tgt := 89) hx hb dX10_compared_82 (by decide) (fun c256 => ?_) (fun c256 => ?_)
        · have hc256 := c256
          have q256 := q_eq hc256
          refine lv_iconst (v := (0)) hx hb dX10_compared_89 (by decide) ?_
          refine lv_iadd hx hb dX10_compared_90 ?_
          refine lv_topi (fun v257 ev257 => ?_)
          have tv257 := a_add ev257 (by omega) (by omega)
          refine m_puti (1000) 25 hx hb hts hown hE oc10 hM hS hJ.1 rfl (by decide) rfl rfl rfl rfl tb_1202 dX10_compared_91 (fun H locs I258 eI258 hM hS => ?_)
          subst eI258
          have hI := hI.put (n := 1000) (k := 25) (v := v257) (lo := 0) (hi := 100000) rfl (by first | omega | decide)
          have hK := hK.put (n := 1000) (k := 25) (v := v257) (by first | rfl | simp [inR])
          refine lv_aload_n hx hb dX10_compared_94 rfl (lv_at hl 2 rfl) ?_
          have pw259 : ((u2 (u2 I239 (1000) 25 (v249)) (1000) 25 (v257)) (1000) 24).toInt = (I (1000) 24 : Int32).toInt := (congrArg Int32.toInt ((show (u2 (u2 I239 (1000) 25 (v249)) (1000) 25 (v257)) (1000) 24 = I239 (1000) 24 from by simp [u2_v]))).trans pw241
          have pw260 : ((u2 (u2 I239 (1000) 25 (v249)) (1000) 25 (v257)) (1000) 25).toInt = (v257 : Int32).toInt := congrArg Int32.toInt ((show (u2 (u2 I239 (1000) 25 (v249)) (1000) 25 (v257)) (1000) 25 = v257 from by simp [u2_v]))
          have pw261 : ((u2 (u2 I239 (1000) 25 (v249)) (1000) 25 (v257)) (1000) 26).toInt = (I239 (1000) 26 : Int32).toInt := congrArg Int32.toInt ((show (u2 (u2 I239 (1000) 25 (v249)) (1000) 25 (v257)) (1000) 26 = I239 (1000) 26 from by simp [u2_v]))
          have pw262 : ((u2 (u2 I239 (1000) 25 (v249)) (1000) 25 (v257)) (1000) 27).toInt = (I (1000) 27 : Int32).toInt := (congrArg Int32.toInt ((show (u2 (u2 I239 (1000) 25 (v249)) (1000) 25 (v257)) (1000) 27 = I239 (1000) 27 from by simp [u2_v]))).trans pw243
          have pw263 : ((u2 (u2 I239 (1000) 25 (v249)) (1000) 25 (v257)) (1000) 29).toInt = (I1 (1000) 29 : Int32).toInt := (congrArg Int32.toInt ((show (u2 (u2 I239 (1000) 25 (v249)) (1000) 25 (v257)) (1000) 29 = I239 (1000) 29 from by simp [u2_v]))).trans pw244
          have pw264 : ((u2 (u2 I239 (1000) 25 (v249)) (1000) 25 (v257)) (1000) 30).toInt = (I (1000) 30 : Int32).toInt := (congrArg Int32.toInt ((show (u2 (u2 I239 (1000) 25 (v249)) (1000) 25 (v257)) (1000) 30 = I239 (1000) 30 from by simp [u2_v]))).trans pw245
          have pw265 : ((u2 (u2 I239 (1000) 25 (v249)) (1000) 25 (v257)) (1000) 31).toInt = (I239 (1000) 31 : Int32).toInt := congrArg Int32.toInt ((show (u2 (u2 I239 (1000) 25 (v249)) (1000) 25 (v257)) (1000) 31 = I239 (1000) 31 from by simp [u2_v]))
          have pw266 : ((u2 (u2 I239 (1000) 25 (v249)) (1000) 25 (v257)) (1000) 32).toInt = (I (1000) 32 : Int32).toInt := (congrArg Int32.toInt ((show (u2 (u2 I239 (1000) 25 (v249)) (1000) 25 (v257)) (1000) 32 = I239 (1000) 32 from by simp [u2_v]))).trans pw246
          refine m_callv (m_runV (1000) (As := []) (rest := []) hx hb hml hown hts hE hM hS hA ce_X10_sum tb_1535 (V_X10_sum_h l D A ad ns (u2 (u2 I239 (1000) 25 (v249)) (1000) 25 (v257)) L240 G hJ hI (by omega) (fun hz => by have w0 := xI239.2 (by omega); have w1 := xI1.2.2.2.2.1 (by omega); have w2 := hPI (by omega); omega) (hbt.of (hK.getA 1034 rfl) (hK.get 1000 24 rfl))) rfl rfl ⟨Nat.le_of_ble_eq_true rfl, Nat.le_of_ble_eq_true rfl⟩ hJ.1 rfl rfl (by decide) rfl hl.1 rfl (Nat.le_of_ble_eq_true rfl) dX10_compared_95 ⟨Nat.le_of_ble_eq_true rfl, Nat.le_of_ble_eq_true rfl⟩) hS (fun u H locs hw hM hS => ?_)
          obtain ⟨I267, L268, rfl, hI, hkI267, xI267⟩ := hw
          have hM : Mem D A ad ns I267 L268 G H := hM
          have hK := hK.trans hkI267 rfl
          replace hC := CT.link (I2 := (u2 (u2 I239 (1000) 25 (v249)) (1000) 25 (v257))) hC (((show (u2 (u2 I239 (1000) 25 (v249)) (1000) 25 (v257)) 1035 = I239 1035 from by funext zz; simp [u2_v])).trans (hkI239.getA 1035 rfl)) (((show (u2 (u2 I239 (1000) 25 (v249)) (1000) 25 (v257)) 1036 = I239 1036 from by funext zz; simp [u2_v])).trans (hkI239.getA 1036 rfl)) (by omega) (fun hz => by have w0 := xI239.2 (by omega); have w1 := xI1.2.2.2.2.1 (by omega); have w2 := hPI (by omega); omega)
          have pw269 : (I267 (1000) 24).toInt = (I (1000) 24 : Int32).toInt := (congrArg Int32.toInt ((hkI267.get (1000) 24 rfl))).trans pw259
          have pw270 : (I267 (1000) 27).toInt = (I (1000) 27 : Int32).toInt := (congrArg Int32.toInt ((hkI267.get (1000) 27 rfl))).trans pw262
          have pw271 : (I267 (1000) 30).toInt = (I (1000) 30 : Int32).toInt := (congrArg Int32.toInt ((hkI267.get (1000) 30 rfl))).trans pw264
          have pw272 : (I267 (1000) 32).toInt = (I (1000) 32 : Int32).toInt := (congrArg Int32.toInt ((hkI267.get (1000) 32 rfl))).trans pw266
          replace hC := hC.comp ((xI267.2.2.2.2.2).mono0 (1 + (0))) (by omega) (by omega) (by omega) (by omega) (fun hz => (xI267.2.2.2.2.1 hz).1)
          have nw273 := xI267.1
          rw [show TM (u2 (u2 I239 (1000) 25 (v249)) (1000) 25 (v257)) = TM I from (TM_of (hkI267.getA 1034 rfl) (hkI267.get 1000 24 rfl)).symm.trans (TM_of (hK.getA 1034 rfl) (hK.get 1000 24 rfl))] at nw273
          have hIs274 := hI
          refine lv_aload_n hx hb dX10_compared_98 rfl (lv_at hl 2 rfl) ?_
          refine lv_iload_n hx hb dX10_compared_99 rfl (lv_at hl 1 rfl) ?_
          refine lv_bipush (v := (61)) hx hb dX10_compared_100 (by decide) ?_
          refine lv_icmp_ne (tgt := 110) hx hb dX10_compared_102 (by decide) (fun c275 => ?_) (fun c275 => ?_)
          · have hc275 := c275
            have q275 := q_ne hc275
            have sc276 := sx14.n (k := 61) (by omega) (by decide)
            refine lv_iload_n hx hb dX10_compared_110 rfl (lv_at hl 1 rfl) ?_
            refine lv_bipush (v := (60)) hx hb dX10_compared_111 (by decide) ?_
            refine lv_icmp_ne (tgt := 128) hx hb dX10_compared_113 (by decide) (fun c277 => ?_) (fun c277 => ?_)
            · have hc277 := c277
              have q277 := q_ne hc277
              have sc278 := sx14.n (k := 60) (by omega) (by decide)
              refine lv_iload_n hx hb dX10_compared_128 rfl (lv_at hl 0 rfl) ?_
              refine lv_if_eq (tgt := 137) hx hb dX10_compared_129 (by decide) (fun c279 => ?_) (fun c279 => ?_)
              · have hc279 := c279
                have q279 := q_eq hc279
                refine lv_bipush (v := (8)) hx hb dX10_compared_137 (by decide) ?_
                refine lv_iconst (v := (0)) hx hb dX10_compared_139 (by decide) ?_
                refine m_callv (m_runV (1000) (As := [.int (8), .int (0)]) (rest := []) hx hb hml hown hts hE hM hS hA ce_X10_entry tb_1552 (V_X10_entry_h l D A ad ns I267 L268 G (8) (0) hJ hI (fun hz => by have w0 := xI267.2.2.2.2.1 (by omega); have w1 := xI239.2 (by omega); have w2 := xI1.2.2.2.2.1 (by omega); have w3 := hPI (by omega); omega)) rfl rfl ⟨Nat.le_of_ble_eq_true rfl, Nat.le_of_ble_eq_true rfl⟩ hJ.1 rfl rfl (by decide) rfl hl.1 rfl (Nat.le_of_ble_eq_true rfl) dX10_compared_140 ⟨Nat.le_of_ble_eq_true rfl, Nat.le_of_ble_eq_true rfl⟩) hS (fun u H locs hw hM hS => ?_)
                obtain ⟨I280, L281, rfl, hI, hkI280, xI280⟩ := hw
                have hM : Mem D A ad ns I280 L281 G H := hM
                have hK := hK.trans hkI280 rfl
                have pw282 : (I280 (1000) 24).toInt = (I (1000) 24 : Int32).toInt := (congrArg Int32.toInt ((hkI280.get (1000) 24 rfl))).trans pw269
                have pw283 : (I280 (1000) 25).toInt = (I267 (1000) 25 : Int32).toInt := congrArg Int32.toInt ((hkI280.get (1000) 25 rfl))
                have pw284 : (I280 (1000) 26).toInt = (I267 (1000) 26 : Int32).toInt := congrArg Int32.toInt ((hkI280.get (1000) 26 rfl))
                have pw285 : (I280 (1000) 27).toInt = (I (1000) 27 : Int32).toInt := (congrArg Int32.toInt ((hkI280.get (1000) 27 rfl))).trans pw270
                have pw286 : (I280 (1000) 30).toInt = (I (1000) 30 : Int32).toInt := (congrArg Int32.toInt ((hkI280.get (1000) 30 rfl))).trans pw271
                have pw287 : (I280 (1000) 31).toInt = (I267 (1000) 31 : Int32).toInt := congrArg Int32.toInt ((hkI280.get (1000) 31 rfl))
                have pw288 : (I280 (1000) 32).toInt = (I (1000) 32 : Int32).toInt := (congrArg Int32.toInt ((hkI280.get (1000) 32 rfl))).trans pw272
                replace hC := hC.comp (n2 := 1) (xI280.2.2.2.2.2.ct (by omega) (by omega) xI280.2.2.2.1 (by omega)) (by omega) (by omega) (by omega) (by omega) (fun hz => by omega)
                have xeI280 : Imp ((I280 1000 26).toInt = 0) ((I280 1000 29).toInt = (I267 1000 29).toInt + 1) := fun hz => xI280.2.2.2.1 (by omega)
                have hen289 : Imp ((I267 1000 26).toInt = 0) (RC I280 = RC I267 ++ [enc (8 : Int32).toInt (0 : Int32).toInt]) := fun hz => RC_ent xI280.2.2.2.2.2 hz (by omega) (by omega) (xI280.2.2.2.1 hz)
                have z1 := tn (i := I1 1000 25) (by omega)
                have gR5 := RC_len (J := I1) (hIs10.get 1000 29 (lo := 0) (hi := 300) rfl).1
                have gR6 := hIs10.get 1000 29 (lo := 0) (hi := 300) rfl
                have hcm : CMP (TM I) I I280 := by
                  by_cases hz : (I1 1000 26).toInt = 0
                  · have w0 := nw9.2.na hz; have w3 := xI239.1.1 hz; have w4 := nw273.1.2
                    have htk := tk_cm2 (T := TM I) (q := (I1 1000 25).toNatClampNeg) (by omega)
                    by_cases hc6 : (I1 1000 31).toInt = 60
                    · have w5 := w3.1 hc6; have w6 := w4 (by omega); exact cmp_many hT nw9.1.1 hz (by rw [w0.1]; omega) hc6 (by rw [w0.1]; omega)
                    · have w5 := w3.2 hc6; have w6 := xI239.2 w5; have z5 := tn (i := (u2 (u2 I239 (1000) 25 (v249)) (1000) 25 (v257)) 1000 25) (by omega); exact cmp_ok (o := -23) (J2 := (u2 (u2 I239 (1000) 25 (v249)) (1000) 25 (v257))) (J3 := I267) hT nw9.1.1 hz (by rw [w0.1]; omega) (by rw [w0.1]; omega) (by omega) (by omega) (by rw [w0.1]; omega) (by omega) (RC_of (J := I1) (J2 := (u2 (u2 I239 (1000) 25 (v249)) (1000) 25 (v257))) (((show (u2 (u2 I239 (1000) 25 (v249)) (1000) 25 (v257)) 1035 = I239 1035 from by funext zz; simp [u2_v])).trans (hkI239.getA 1035 rfl)) (((show (u2 (u2 I239 (1000) 25 (v249)) (1000) 25 (v257)) 1036 = I239 1036 from by funext zz; simp [u2_v])).trans (hkI239.getA 1036 rfl)) (by omega) (by omega)) (by omega) nw273.1.1 (by omega) (fun hy => ⟨by rw [show (I280 1000 25).toNatClampNeg = (I267 1000 25).toNatClampNeg from cl_eq (by omega)], by omega, by rw [hen289 hy, enc_v (v := -23) (Or.inr (Or.inr (Or.inr (Or.inr (Or.inr (Or.inr (Or.inr (Or.inr (Or.inr (Or.inl ⟨by omega, rfl⟩))))))))))]⟩)
                  · have w3 := xI239.1.2 hz; have w4 := nw273.1.2 (by omega); exact cmp_bad1 nw9.1.1 hz (by omega)
                exact m_vret hx hb hr hlocks hM hS (Nat.le_of_ble_eq_true rfl) (Nat.le_of_ble_eq_true rfl) ⟨_, _, rfl, hI, hK, ⟨⟨hcm, fun hz => by rw [show (I280 1000 25).toNatClampNeg = (I267 1000 25).toNatClampNeg from cl_eq (by omega)]; exact nw273.2 (by omega)⟩, by omega, by omega, by omega, (fun hz => by have w0 := xeI280 (by omega); have w1 := xI267.2.2.2.2.1 (by omega); have w2 := xI239.2 (by omega); have w3 := xI1.2.2.2.2.1 (by omega); have w4 := hPI (by omega); omega), hC⟩⟩ dX10_compared_143
              · exact absurd c279 (by decide)
            · have hc277 := c277
              have q277 := q_eq hc277
              have sg290 := xr11.2.2.2 (by omega)
              have sc291 := sx14.y (k := 60) (by omega) (by decide)
              refine lv_iload_n hx hb dX10_compared_116 rfl (lv_at hl 0 rfl) ?_
              refine lv_if_eq (tgt := 124) hx hb dX10_compared_117 (by decide) (fun c292 => ?_) (fun c292 => ?_)
              · have hc292 := c292
                have q292 := q_eq hc292
                refine lv_iconst (v := (4)) hx hb dX10_compared_124 (by decide) ?_
                refine lv_goto (tgt := 139) hx hb dX10_compared_125 (by decide) ?_
                refine lv_iconst (v := (0)) hx hb dX10_compared_139 (by decide) ?_
                refine m_callv (m_runV (1000) (As := [.int (4), .int (0)]) (rest := []) hx hb hml hown hts hE hM hS hA ce_X10_entry tb_1552 (V_X10_entry_h l D A ad ns I267 L268 G (4) (0) hJ hI (fun hz => by have w0 := xI267.2.2.2.2.1 (by omega); have w1 := xI239.2 (by omega); have w2 := xI1.2.2.2.2.1 (by omega); have w3 := hPI (by omega); omega)) rfl rfl ⟨Nat.le_of_ble_eq_true rfl, Nat.le_of_ble_eq_true rfl⟩ hJ.1 rfl rfl (by decide) rfl hl.1 rfl (Nat.le_of_ble_eq_true rfl) dX10_compared_140 ⟨Nat.le_of_ble_eq_true rfl, Nat.le_of_ble_eq_true rfl⟩) hS (fun u H locs hw hM hS => ?_)
                obtain ⟨I293, L294, rfl, hI, hkI293, xI293⟩ := hw
                have hM : Mem D A ad ns I293 L294 G H := hM
                have hK := hK.trans hkI293 rfl
                have pw295 : (I293 (1000) 24).toInt = (I (1000) 24 : Int32).toInt := (congrArg Int32.toInt ((hkI293.get (1000) 24 rfl))).trans pw269
                have pw296 : (I293 (1000) 25).toInt = (I267 (1000) 25 : Int32).toInt := congrArg Int32.toInt ((hkI293.get (1000) 25 rfl))
                have pw297 : (I293 (1000) 26).toInt = (I267 (1000) 26 : Int32).toInt := congrArg Int32.toInt ((hkI293.get (1000) 26 rfl))
                have pw298 : (I293 (1000) 27).toInt = (I (1000) 27 : Int32).toInt := (congrArg Int32.toInt ((hkI293.get (1000) 27 rfl))).trans pw270
                have pw299 : (I293 (1000) 30).toInt = (I (1000) 30 : Int32).toInt := (congrArg Int32.toInt ((hkI293.get (1000) 30 rfl))).trans pw271
                have pw300 : (I293 (1000) 31).toInt = (I267 (1000) 31 : Int32).toInt := congrArg Int32.toInt ((hkI293.get (1000) 31 rfl))
                have pw301 : (I293 (1000) 32).toInt = (I (1000) 32 : Int32).toInt := (congrArg Int32.toInt ((hkI293.get (1000) 32 rfl))).trans pw272
                replace hC := hC.comp (n2 := 1) (xI293.2.2.2.2.2.ct (by omega) (by omega) xI293.2.2.2.1 (by omega)) (by omega) (by omega) (by omega) (by omega) (fun hz => by omega)
                have xeI293 : Imp ((I293 1000 26).toInt = 0) ((I293 1000 29).toInt = (I267 1000 29).toInt + 1) := fun hz => xI293.2.2.2.1 (by omega)
                have hen302 : Imp ((I267 1000 26).toInt = 0) (RC I293 = RC I267 ++ [enc (4 : Int32).toInt (0 : Int32).toInt]) := fun hz => RC_ent xI293.2.2.2.2.2 hz (by omega) (by omega) (xI293.2.2.2.1 hz)
                have z1 := tn (i := I1 1000 25) (by omega)
                have gR5 := RC_len (J := I1) (hIs10.get 1000 29 (lo := 0) (hi := 300) rfl).1
                have gR6 := hIs10.get 1000 29 (lo := 0) (hi := 300) rfl
                have hcm : CMP (TM I) I I293 := by
                  by_cases hz : (I1 1000 26).toInt = 0
                  · have w0 := nw9.2.na hz; have w3 := xI239.1.1 hz; have w4 := nw273.1.2
                    have htk := tk_cm2 (T := TM I) (q := (I1 1000 25).toNatClampNeg) (by omega)
                    by_cases hc6 : (I1 1000 31).toInt = 60
                    · have w5 := w3.1 hc6; have w6 := w4 (by omega); exact cmp_many hT nw9.1.1 hz (by rw [w0.1]; omega) hc6 (by rw [w0.1]; omega)
                    · have w5 := w3.2 hc6; have w6 := xI239.2 w5; have z5 := tn (i := (u2 (u2 I239 (1000) 25 (v249)) (1000) 25 (v257)) 1000 25) (by omega); exact cmp_ok (o := -19) (J2 := (u2 (u2 I239 (1000) 25 (v249)) (1000) 25 (v257))) (J3 := I267) hT nw9.1.1 hz (by rw [w0.1]; omega) (by rw [w0.1]; omega) (by omega) (by omega) (by rw [w0.1]; omega) (by omega) (RC_of (J := I1) (J2 := (u2 (u2 I239 (1000) 25 (v249)) (1000) 25 (v257))) (((show (u2 (u2 I239 (1000) 25 (v249)) (1000) 25 (v257)) 1035 = I239 1035 from by funext zz; simp [u2_v])).trans (hkI239.getA 1035 rfl)) (((show (u2 (u2 I239 (1000) 25 (v249)) (1000) 25 (v257)) 1036 = I239 1036 from by funext zz; simp [u2_v])).trans (hkI239.getA 1036 rfl)) (by omega) (by omega)) (by omega) nw273.1.1 (by omega) (fun hy => ⟨by rw [show (I293 1000 25).toNatClampNeg = (I267 1000 25).toNatClampNeg from cl_eq (by omega)], by omega, by rw [hen302 hy, enc_v (v := -19) (Or.inr (Or.inr (Or.inr (Or.inr (Or.inr (Or.inl ⟨by omega, rfl⟩))))))]⟩)
                  · have w3 := xI239.1.2 hz; have w4 := nw273.1.2 (by omega); exact cmp_bad1 nw9.1.1 hz (by omega)
                exact m_vret hx hb hr hlocks hM hS (Nat.le_of_ble_eq_true rfl) (Nat.le_of_ble_eq_true rfl) ⟨_, _, rfl, hI, hK, ⟨⟨hcm, fun hz => by rw [show (I293 1000 25).toNatClampNeg = (I267 1000 25).toNatClampNeg from cl_eq (by omega)]; exact nw273.2 (by omega)⟩, by omega, by omega, by omega, (fun hz => by have w0 := xeI293 (by omega); have w1 := xI267.2.2.2.2.1 (by omega); have w2 := xI239.2 (by omega); have w3 := xI1.2.2.2.2.1 (by omega); have w4 := hPI (by omega); omega), hC⟩⟩ dX10_compared_143
              · exact absurd c292 (by decide)
          · have hc275 := c275
            have q275 := q_eq hc275
            have sg303 := xr11.2.2.2 (by omega)
            have sc304 := sx14.y (k := 61) (by omega) (by decide)
            refine lv_bipush (v := (6)) hx hb dX10_compared_105 (by decide) ?_
            refine lv_goto (tgt := 139) hx hb dX10_compared_107 (by decide) ?_
            refine lv_iconst (v := (0)) hx hb dX10_compared_139 (by decide) ?_
            refine m_callv (m_runV (1000) (As := [.int (6), .int (0)]) (rest := []) hx hb hml hown hts hE hM hS hA ce_X10_entry tb_1552 (V_X10_entry_h l D A ad ns I267 L268 G (6) (0) hJ hI (fun hz => by have w0 := xI267.2.2.2.2.1 (by omega); have w1 := xI239.2 (by omega); have w2 := xI1.2.2.2.2.1 (by omega); have w3 := hPI (by omega); omega)) rfl rfl ⟨Nat.le_of_ble_eq_true rfl, Nat.le_of_ble_eq_true rfl⟩ hJ.1 rfl rfl (by decide) rfl hl.1 rfl (Nat.le_of_ble_eq_true rfl) dX10_compared_140 ⟨Nat.le_of_ble_eq_true rfl, Nat.le_of_ble_eq_true rfl⟩) hS (fun u H locs hw hM hS => ?_)
            obtain ⟨I305, L306, rfl, hI, hkI305, xI305⟩ := hw
            have hM : Mem D A ad ns I305 L306 G H := hM
            have hK := hK.trans hkI305 rfl
            have pw307 : (I305 (1000) 24).toInt = (I (1000) 24 : Int32).toInt := (congrArg Int32.toInt ((hkI305.get (1000) 24 rfl))).trans pw269
            have pw308 : (I305 (1000) 25).toInt = (I267 (1000) 25 : Int32).toInt := congrArg Int32.toInt ((hkI305.get (1000) 25 rfl))
            have pw309 : (I305 (1000) 26).toInt = (I267 (1000) 26 : Int32).toInt := congrArg Int32.toInt ((hkI305.get (1000) 26 rfl))
            have pw310 : (I305 (1000) 27).toInt = (I (1000) 27 : Int32).toInt := (congrArg Int32.toInt ((hkI305.get (1000) 27 rfl))).trans pw270
            have pw311 : (I305 (1000) 30).toInt = (I (1000) 30 : Int32).toInt := (congrArg Int32.toInt ((hkI305.get (1000) 30 rfl))).trans pw271
            have pw312 : (I305 (1000) 31).toInt = (I267 (1000) 31 : Int32).toInt := congrArg Int32.toInt ((hkI305.get (1000) 31 rfl))
            have pw313 : (I305 (1000) 32).toInt = (I (1000) 32 : Int32).toInt := (congrArg Int32.toInt ((hkI305.get (1000) 32 rfl))).trans pw272
            replace hC := hC.comp (n2 := 1) (xI305.2.2.2.2.2.ct (by omega) (by omega) xI305.2.2.2.1 (by omega)) (by omega) (by omega) (by omega) (by omega) (fun hz => by omega)
            have xeI305 : Imp ((I305 1000 26).toInt = 0) ((I305 1000 29).toInt = (I267 1000 29).toInt + 1) := fun hz => xI305.2.2.2.1 (by omega)
            have hen314 : Imp ((I267 1000 26).toInt = 0) (RC I305 = RC I267 ++ [enc (6 : Int32).toInt (0 : Int32).toInt]) := fun hz => RC_ent xI305.2.2.2.2.2 hz (by omega) (by omega) (xI305.2.2.2.1 hz)
            have z1 := tn (i := I1 1000 25) (by omega)
            have gR5 := RC_len (J := I1) (hIs10.get 1000 29 (lo := 0) (hi := 300) rfl).1
            have gR6 := hIs10.get 1000 29 (lo := 0) (hi := 300) rfl
            have hcm : CMP (TM I) I I305 := by
              by_cases hz : (I1 1000 26).toInt = 0
              · have w0 := nw9.2.na hz; have w3 := xI239.1.1 hz; have w4 := nw273.1.2
                have htk := tk_cm2 (T := TM I) (q := (I1 1000 25).toNatClampNeg) (by omega)
                by_cases hc6 : (I1 1000 31).toInt = 60
                · have w5 := w3.1 hc6; have w6 := w4 (by omega); exact cmp_many hT nw9.1.1 hz (by rw [w0.1]; omega) hc6 (by rw [w0.1]; omega)
                · have w5 := w3.2 hc6; have w6 := xI239.2 w5; have z5 := tn (i := (u2 (u2 I239 (1000) 25 (v249)) (1000) 25 (v257)) 1000 25) (by omega); exact cmp_ok (o := -21) (J2 := (u2 (u2 I239 (1000) 25 (v249)) (1000) 25 (v257))) (J3 := I267) hT nw9.1.1 hz (by rw [w0.1]; omega) (by rw [w0.1]; omega) (by omega) (by omega) (by rw [w0.1]; omega) (by omega) (RC_of (J := I1) (J2 := (u2 (u2 I239 (1000) 25 (v249)) (1000) 25 (v257))) (((show (u2 (u2 I239 (1000) 25 (v249)) (1000) 25 (v257)) 1035 = I239 1035 from by funext zz; simp [u2_v])).trans (hkI239.getA 1035 rfl)) (((show (u2 (u2 I239 (1000) 25 (v249)) (1000) 25 (v257)) 1036 = I239 1036 from by funext zz; simp [u2_v])).trans (hkI239.getA 1036 rfl)) (by omega) (by omega)) (by omega) nw273.1.1 (by omega) (fun hy => ⟨by rw [show (I305 1000 25).toNatClampNeg = (I267 1000 25).toNatClampNeg from cl_eq (by omega)], by omega, by rw [hen314 hy, enc_v (v := -21) (Or.inr (Or.inr (Or.inr (Or.inr (Or.inr (Or.inr (Or.inr (Or.inl ⟨by omega, rfl⟩))))))))]⟩)
              · have w3 := xI239.1.2 hz; have w4 := nw273.1.2 (by omega); exact cmp_bad1 nw9.1.1 hz (by omega)
            exact m_vret hx hb hr hlocks hM hS (Nat.le_of_ble_eq_true rfl) (Nat.le_of_ble_eq_true rfl) ⟨_, _, rfl, hI, hK, ⟨⟨hcm, fun hz => by rw [show (I305 1000 25).toNatClampNeg = (I267 1000 25).toNatClampNeg from cl_eq (by omega)]; exact nw273.2 (by omega)⟩, by omega, by omega, by omega, (fun hz => by have w0 := xeI305 (by omega); have w1 := xI267.2.2.2.2.1 (by omega); have w2 := xI239.2 (by omega); have w3 := xI1.2.2.2.2.1 (by omega); have w4 := hPI (by omega); omega), hC⟩⟩ dX10_compared_143
        · exact absurd c256 (by decide)
      · have hc251 := c251
        have q251 := q_ne hc251
        have sc315 := sx14.n (k := 61) (by omega) (by decide)
        refine lv_aload_n hx hb dX10_compared_61 rfl (lv_at hl 1 rfl) ?_
        have pw316 : ((u2 I239 (1000) 25 (v249)) (1000) 24).toInt = (I (1000) 24 : Int32).toInt := (congrArg Int32.toInt ((show (u2 I239 (1000) 25 (v249)) (1000) 24 = I239 (1000) 24 from by simp [u2_v]))).trans pw241
        have pw317 : ((u2 I239 (1000) 25 (v249)) (1000) 25).toInt = (v249 : Int32).toInt := congrArg Int32.toInt ((show (u2 I239 (1000) 25 (v249)) (1000) 25 = v249 from by simp [u2_v]))
        have pw318 : ((u2 I239 (1000) 25 (v249)) (1000) 26).toInt = (I239 (1000) 26 : Int32).toInt := congrArg Int32.toInt ((show (u2 I239 (1000) 25 (v249)) (1000) 26 = I239 (1000) 26 from by simp [u2_v]))
        have pw319 : ((u2 I239 (1000) 25 (v249)) (1000) 27).toInt = (I (1000) 27 : Int32).toInt := (congrArg Int32.toInt ((show (u2 I239 (1000) 25 (v249)) (1000) 27 = I239 (1000) 27 from by simp [u2_v]))).trans pw243
        have pw320 : ((u2 I239 (1000) 25 (v249)) (1000) 29).toInt = (I1 (1000) 29 : Int32).toInt := (congrArg Int32.toInt ((show (u2 I239 (1000) 25 (v249)) (1000) 29 = I239 (1000) 29 from by simp [u2_v]))).trans pw244
        have pw321 : ((u2 I239 (1000) 25 (v249)) (1000) 30).toInt = (I (1000) 30 : Int32).toInt := (congrArg Int32.toInt ((show (u2 I239 (1000) 25 (v249)) (1000) 30 = I239 (1000) 30 from by simp [u2_v]))).trans pw245
        have pw322 : ((u2 I239 (1000) 25 (v249)) (1000) 31).toInt = (I239 (1000) 31 : Int32).toInt := congrArg Int32.toInt ((show (u2 I239 (1000) 25 (v249)) (1000) 31 = I239 (1000) 31 from by simp [u2_v]))
        have pw323 : ((u2 I239 (1000) 25 (v249)) (1000) 32).toInt = (I (1000) 32 : Int32).toInt := (congrArg Int32.toInt ((show (u2 I239 (1000) 25 (v249)) (1000) 32 = I239 (1000) 32 from by simp [u2_v]))).trans pw246
        refine m_calli (m_runV (1000) (As := []) (rest := []) hx hb hml hown hts hE hM hS hA ce_X10_sign tb_1510 (V_X10_sign_h l D A ad ns (u2 I239 (1000) 25 (v249)) L240 G hJ hI) rfl rfl ⟨Nat.le_of_ble_eq_true rfl, Nat.le_of_ble_eq_true rfl⟩ hJ.1 rfl rfl (by decide) rfl hl.1 rfl (Nat.le_of_ble_eq_true rfl) dX10_compared_62 ⟨Nat.le_of_ble_eq_true rfl, Nat.le_of_ble_eq_true rfl⟩) hS (fun r324 u H locs hw hM hS => ?_)
        obtain ⟨rfl, xr324⟩ := hw
        have hM : Mem D A ad ns (u2 I239 (1000) 25 (v249)) L240 G H := hM
        have g325 := hI.get 1000 24 (lo := 0) (hi := 400) rfl
        have g326 := hI.get 1000 25 (lo := 0) (hi := 100000) rfl
        have sx327 := xr324.1
        rw [show TM (u2 I239 (1000) 25 (v249)) = TM I from (TM_of (hK.getA 1034 rfl) (hK.get 1000 24 rfl))] at sx327
        refine lv_bipush (v := (61)) hx hb dX10_compared_65 (by decide) ?_
        refine lv_icmp_ne (tgt := 74) hx hb dX10_compared_67 (by decide) (fun c328 => ?_) (fun c328 => ?_)
        · have hc328 := c328
          have q328 := q_ne hc328
          have sc329 := sx327.n (k := 61) (by omega) (by decide)
          refine lv_iconst (v := (0)) hx hb dX10_compared_74 (by decide) ?_
          refine lv_istore_n (lv' := [(2, .int (0)), (1, .int (r11)), (0, .ref (ad (1000)))]) hx hb dX10_compared_75 rfl hl (by decide) rfl (fun ls hl => ?_)
          refine lv_aload_n hx hb dX10_compared_76 rfl (lv_at hl 2 rfl) ?_
          refine lv_dup hx hb dX10_compared_77 rfl ?_
          refine m_geti (1000) 25 hx hb hts hown hE oc10 hM hJ.1 rfl (by decide) rfl tb_1202 dX10_compared_78 ?_
          have g330 := hI.get (1000) 25 (lo := 0) (hi := 100000) rfl
          have z331 : (u2 I239 (1000) 25 (v249)) (1000) 25 = v249 := (show (u2 I239 (1000) 25 (v249)) (1000) 25 = v249 from by simp [u2_v])
          rw [z331] at g330 ⊢
          refine lv_iload_n hx hb dX10_compared_81 rfl (lv_at hl 0 rfl) ?_
          refine lv_if_eq (tgt := 89) hx hb dX10_compared_82 (by decide) (fun c332 => ?_) (fun c332 => ?_)
          · have hc332 := c332
            have q332 := q_eq hc332
            refine lv_iconst (v := (0)) hx hb dX10_compared_89 (by decide) ?_
            refine lv_iadd hx hb dX10_compared_90 ?_
            refine lv_topi (fun v333 ev333 => ?_)
            have tv333 := a_add ev333 (by omega) (by omega)
            refine m_puti (1000) 25 hx hb hts hown hE oc10 hM hS hJ.1 rfl (by decide) rfl rfl rfl rfl tb_1202 dX10_compared_91 (fun H locs I334 eI334 hM hS => ?_)
            subst eI334
            have hI := hI.put (n := 1000) (k := 25) (v := v333) (lo := 0) (hi := 100000) rfl (by first | omega | decide)
            have hK := hK.put (n := 1000) (k := 25) (v := v333) (by first | rfl | simp [inR])
            refine lv_aload_n hx hb dX10_compared_94 rfl (lv_at hl 2 rfl) ?_
            have pw335 : ((u2 (u2 I239 (1000) 25 (v249)) (1000) 25 (v333)) (1000) 24).toInt = (I (1000) 24 : Int32).toInt := (congrArg Int32.toInt ((show (u2 (u2 I239 (1000) 25 (v249)) (1000) 25 (v333)) (1000) 24 = (u2 I239 (1000) 25 (v249)) (1000) 24 from by simp [u2_v]))).trans pw316
            have pw336 : ((u2 (u2 I239 (1000) 25 (v249)) (1000) 25 (v333)) (1000) 25).toInt = (v333 : Int32).toInt := congrArg Int32.toInt ((show (u2 (u2 I239 (1000) 25 (v249)) (1000) 25 (v333)) (1000) 25 = v333 from by simp [u2_v]))
            have pw337 : ((u2 (u2 I239 (1000) 25 (v249)) (1000) 25 (v333)) (1000) 26).toInt = (I239 (1000) 26 : Int32).toInt := (congrArg Int32.toInt ((show (u2 (u2 I239 (1000) 25 (v249)) (1000) 25 (v333)) (1000) 26 = (u2 I239 (1000) 25 (v249)) (1000) 26 from by simp [u2_v]))).trans pw318
            have pw338 : ((u2 (u2 I239 (1000) 25 (v249)) (1000) 25 (v333)) (1000) 27).toInt = (I (1000) 27 : Int32).toInt := (congrArg Int32.toInt ((show (u2 (u2 I239 (1000) 25 (v249)) (1000) 25 (v333)) (1000) 27 = (u2 I239 (1000) 25 (v249)) (1000) 27 from by simp [u2_v]))).trans pw319
            have pw339 : ((u2 (u2 I239 (1000) 25 (v249)) (1000) 25 (v333)) (1000) 29).toInt = (I1 (1000) 29 : Int32).toInt := (congrArg Int32.toInt ((show (u2 (u2 I239 (1000) 25 (v249)) (1000) 25 (v333)) (1000) 29 = (u2 I239 (1000) 25 (v249)) (1000) 29 from by simp [u2_v]))).trans pw320
            have pw340 : ((u2 (u2 I239 (1000) 25 (v249)) (1000) 25 (v333)) (1000) 30).toInt = (I (1000) 30 : Int32).toInt := (congrArg Int32.toInt ((show (u2 (u2 I239 (1000) 25 (v249)) (1000) 25 (v333)) (1000) 30 = (u2 I239 (1000) 25 (v249)) (1000) 30 from by simp [u2_v]))).trans pw321
            have pw341 : ((u2 (u2 I239 (1000) 25 (v249)) (1000) 25 (v333)) (1000) 31).toInt = (I239 (1000) 31 : Int32).toInt := (congrArg Int32.toInt ((show (u2 (u2 I239 (1000) 25 (v249)) (1000) 25 (v333)) (1000) 31 = (u2 I239 (1000) 25 (v249)) (1000) 31 from by simp [u2_v]))).trans pw322
            have pw342 : ((u2 (u2 I239 (1000) 25 (v249)) (1000) 25 (v333)) (1000) 32).toInt = (I (1000) 32 : Int32).toInt := (congrArg Int32.toInt ((show (u2 (u2 I239 (1000) 25 (v249)) (1000) 25 (v333)) (1000) 32 = (u2 I239 (1000) 25 (v249)) (1000) 32 from by simp [u2_v]))).trans pw323
            refine m_callv (m_runV (1000) (As := []) (rest := []) hx hb hml hown hts hE hM hS hA ce_X10_sum tb_1535 (V_X10_sum_h l D A ad ns (u2 (u2 I239 (1000) 25 (v249)) (1000) 25 (v333)) L240 G hJ hI (by omega) (fun hz => by have w0 := xI239.2 (by omega); have w1 := xI1.2.2.2.2.1 (by omega); have w2 := hPI (by omega); omega) (hbt.of (hK.getA 1034 rfl) (hK.get 1000 24 rfl))) rfl rfl ⟨Nat.le_of_ble_eq_true rfl, Nat.le_of_ble_eq_true rfl⟩ hJ.1 rfl rfl (by decide) rfl hl.1 rfl (Nat.le_of_ble_eq_true rfl) dX10_compared_95 ⟨Nat.le_of_ble_eq_true rfl, Nat.le_of_ble_eq_true rfl⟩) hS (fun u H locs hw hM hS => ?_)
            obtain ⟨I343, L344, rfl, hI, hkI343, xI343⟩ := hw
            have hM : Mem D A ad ns I343 L344 G H := hM
            have hK := hK.trans hkI343 rfl
            replace hC := CT.link (I2 := (u2 (u2 I239 (1000) 25 (v249)) (1000) 25 (v333))) hC (((show (u2 (u2 I239 (1000) 25 (v249)) (1000) 25 (v333)) 1035 = I239 1035 from by funext zz; simp [u2_v])).trans (hkI239.getA 1035 rfl)) (((show (u2 (u2 I239 (1000) 25 (v249)) (1000) 25 (v333)) 1036 = I239 1036 from by funext zz; simp [u2_v])).trans (hkI239.getA 1036 rfl)) (by omega) (fun hz => by have w0 := xI239.2 (by omega); have w1 := xI1.2.2.2.2.1 (by omega); have w2 := hPI (by omega); omega)
            have pw345 : (I343 (1000) 24).toInt = (I (1000) 24 : Int32).toInt := (congrArg Int32.toInt ((hkI343.get (1000) 24 rfl))).trans pw335
            have pw346 : (I343 (1000) 27).toInt = (I (1000) 27 : Int32).toInt := (congrArg Int32.toInt ((hkI343.get (1000) 27 rfl))).trans pw338
            have pw347 : (I343 (1000) 30).toInt = (I (1000) 30 : Int32).toInt := (congrArg Int32.toInt ((hkI343.get (1000) 30 rfl))).trans pw340
            have pw348 : (I343 (1000) 32).toInt = (I (1000) 32 : Int32).toInt := (congrArg Int32.toInt ((hkI343.get (1000) 32 rfl))).trans pw342
            replace hC := hC.comp ((xI343.2.2.2.2.2).mono0 (1 + (0))) (by omega) (by omega) (by omega) (by omega) (fun hz => (xI343.2.2.2.2.1 hz).1)
            have nw349 := xI343.1
            rw [show TM (u2 (u2 I239 (1000) 25 (v249)) (1000) 25 (v333)) = TM I from (TM_of (hkI343.getA 1034 rfl) (hkI343.get 1000 24 rfl)).symm.trans (TM_of (hK.getA 1034 rfl) (hK.get 1000 24 rfl))] at nw349
            have hIs350 := hI
            refine lv_aload_n hx hb dX10_compared_98 rfl (lv_at hl 2 rfl) ?_
            refine lv_iload_n hx hb dX10_compared_99 rfl (lv_at hl 1 rfl) ?_
            refine lv_bipush (v := (61)) hx hb dX10_compared_100 (by decide) ?_
            refine lv_icmp_ne (tgt := 110) hx hb dX10_compared_102 (by decide) (fun c351 => ?_) (fun c351 => ?_)
            · have hc351 := c351
              have q351 := q_ne hc351
              have sc352 := sx14.n (k := 61) (by omega) (by decide)
              refine lv_iload_n hx hb dX10_compared_110 rfl (lv_at hl 1 rfl) ?_
              refine lv_bipush (v := (60)) hx hb dX10_compared_111 (by decide) ?_
              refine lv_icmp_ne (tgt := 128) hx hb dX10_compared_113 (by decide) (fun c353 => ?_) (fun c353 => ?_)
              · have hc353 := c353
                have q353 := q_ne hc353
                have sc354 := sx14.n (k := 60) (by omega) (by decide)
                refine lv_iload_n hx hb dX10_compared_128 rfl (lv_at hl 0 rfl) ?_
                refine lv_if_eq (tgt := 137) hx hb dX10_compared_129 (by decide) (fun c355 => ?_) (fun c355 => ?_)
                · have hc355 := c355
                  have q355 := q_eq hc355
                  refine lv_bipush (v := (8)) hx hb dX10_compared_137 (by decide) ?_
                  refine lv_iconst (v := (0)) hx hb dX10_compared_139 (by decide) ?_
                  refine m_callv (m_runV (1000) (As := [.int (8), .int (0)]) (rest := []) hx hb hml hown hts hE hM hS hA ce_X10_entry tb_1552 (V_X10_entry_h l D A ad ns I343 L344 G (8) (0) hJ hI (fun hz => by have w0 := xI343.2.2.2.2.1 (by omega); have w1 := xI239.2 (by omega); have w2 := xI1.2.2.2.2.1 (by omega); have w3 := hPI (by omega); omega)) rfl rfl ⟨Nat.le_of_ble_eq_true rfl, Nat.le_of_ble_eq_true rfl⟩ hJ.1 rfl rfl (by decide) rfl hl.1 rfl (Nat.le_of_ble_eq_true rfl) dX10_compared_140 ⟨Nat.le_of_ble_eq_true rfl, Nat.le_of_ble_eq_true rfl⟩) hS (fun u H locs hw hM hS => ?_)
                  obtain ⟨I356, L357, rfl, hI, hkI356, xI356⟩ := hw
                  have hM : Mem D A ad ns I356 L357 G H := hM
                  have hK := hK.trans hkI356 rfl
                  have pw358 : (I356 (1000) 24).toInt = (I (1000) 24 : Int32).toInt := (congrArg Int32.toInt ((hkI356.get (1000) 24 rfl))).trans pw345
                  have pw359 : (I356 (1000) 25).toInt = (I343 (1000) 25 : Int32).toInt := congrArg Int32.toInt ((hkI356.get (1000) 25 rfl))
                  have pw360 : (I356 (1000) 26).toInt = (I343 (1000) 26 : Int32).toInt := congrArg Int32.toInt ((hkI356.get (1000) 26 rfl))
                  have pw361 : (I356 (1000) 27).toInt = (I (1000) 27 : Int32).toInt := (congrArg Int32.toInt ((hkI356.get (1000) 27 rfl))).trans pw346
                  have pw362 : (I356 (1000) 30).toInt = (I (1000) 30 : Int32).toInt := (congrArg Int32.toInt ((hkI356.get (1000) 30 rfl))).trans pw347
                  have pw363 : (I356 (1000) 31).toInt = (I343 (1000) 31 : Int32).toInt := congrArg Int32.toInt ((hkI356.get (1000) 31 rfl))
                  have pw364 : (I356 (1000) 32).toInt = (I (1000) 32 : Int32).toInt := (congrArg Int32.toInt ((hkI356.get (1000) 32 rfl))).trans pw348
                  replace hC := hC.comp (n2 := 1) (xI356.2.2.2.2.2.ct (by omega) (by omega) xI356.2.2.2.1 (by omega)) (by omega) (by omega) (by omega) (by omega) (fun hz => by omega)
                  have xeI356 : Imp ((I356 1000 26).toInt = 0) ((I356 1000 29).toInt = (I343 1000 29).toInt + 1) := fun hz => xI356.2.2.2.1 (by omega)
                  have hen365 : Imp ((I343 1000 26).toInt = 0) (RC I356 = RC I343 ++ [enc (8 : Int32).toInt (0 : Int32).toInt]) := fun hz => RC_ent xI356.2.2.2.2.2 hz (by omega) (by omega) (xI356.2.2.2.1 hz)
                  have z1 := tn (i := I1 1000 25) (by omega)
                  have gR5 := RC_len (J := I1) (hIs10.get 1000 29 (lo := 0) (hi := 300) rfl).1
                  have gR6 := hIs10.get 1000 29 (lo := 0) (hi := 300) rfl
                  have hs67 := sc329
                  rw [show ((u2 I239 (1000) 25 (v249)) 1000 25).toNatClampNeg = (I1 1000 25).toNatClampNeg + 1 from by have z6 := tn (i := (u2 I239 (1000) 25 (v249)) 1000 25) (by omega); omega] at hs67
                  have hcm : CMP (TM I) I I356 := by
                    by_cases hz : (I1 1000 26).toInt = 0
                    · have w0 := nw9.2.na hz; have w3 := xI239.1.1 hz; have w4 := nw349.1.2
                      have htk := tk_cm2 (T := TM I) (q := (I1 1000 25).toNatClampNeg) (by omega)
                      by_cases hc6 : (I1 1000 31).toInt = 60
                      · have w5 := w3.1 hc6; have w6 := w4 (by omega); exact cmp_many hT nw9.1.1 hz (by rw [w0.1]; omega) hc6 (by rw [w0.1]; omega)
                      · have w5 := w3.2 hc6; have w6 := xI239.2 w5; have z5 := tn (i := (u2 (u2 I239 (1000) 25 (v249)) (1000) 25 (v333)) 1000 25) (by omega); exact cmp_ok (o := -23) (J2 := (u2 (u2 I239 (1000) 25 (v249)) (1000) 25 (v333))) (J3 := I343) hT nw9.1.1 hz (by rw [w0.1]; omega) (by rw [w0.1]; omega) (by omega) (by omega) (by rw [w0.1]; omega) (by omega) (RC_of (J := I1) (J2 := (u2 (u2 I239 (1000) 25 (v249)) (1000) 25 (v333))) (((show (u2 (u2 I239 (1000) 25 (v249)) (1000) 25 (v333)) 1035 = I239 1035 from by funext zz; simp [u2_v])).trans (hkI239.getA 1035 rfl)) (((show (u2 (u2 I239 (1000) 25 (v249)) (1000) 25 (v333)) 1036 = I239 1036 from by funext zz; simp [u2_v])).trans (hkI239.getA 1036 rfl)) (by omega) (by omega)) (by omega) nw349.1.1 (by omega) (fun hy => ⟨by rw [show (I356 1000 25).toNatClampNeg = (I343 1000 25).toNatClampNeg from cl_eq (by omega)], by omega, by rw [hen365 hy, enc_v (v := -23) (Or.inr (Or.inr (Or.inr (Or.inr (Or.inr (Or.inr (Or.inr (Or.inr (Or.inr (Or.inl ⟨by omega, rfl⟩))))))))))]⟩)
                    · have w3 := xI239.1.2 hz; have w4 := nw349.1.2 (by omega); exact cmp_bad1 nw9.1.1 hz (by omega)
                  exact m_vret hx hb hr hlocks hM hS (Nat.le_of_ble_eq_true rfl) (Nat.le_of_ble_eq_true rfl) ⟨_, _, rfl, hI, hK, ⟨⟨hcm, fun hz => by rw [show (I356 1000 25).toNatClampNeg = (I343 1000 25).toNatClampNeg from cl_eq (by omega)]; exact nw349.2 (by omega)⟩, by omega, by omega, by omega, (fun hz => by have w0 := xeI356 (by omega); have w1 := xI343.2.2.2.2.1 (by omega); have w2 := xI239.2 (by omega); have w3 := xI1.2.2.2.2.1 (by omega); have w4 := hPI (by omega); omega), hC⟩⟩ dX10_compared_143
                · exact absurd c355 (by decide)
              · have hc353 := c353
                have q353 := q_eq hc353
                have sg366 := xr11.2.2.2 (by omega)
                have sc367 := sx14.y (k := 60) (by omega) (by decide)
                refine lv_iload_n hx hb dX10_compared_116 rfl (lv_at hl 0 rfl) ?_
                refine lv_if_eq (tgt := 124) hx hb dX10_compared_117 (by decide) (fun c368 => ?_) (fun c368 => ?_)
                · have hc368 := c368
                  have q368 := q_eq hc368
                  refine lv_iconst (v := (4)) hx hb dX10_compared_124 (by decide) ?_
                  refine lv_goto (tgt := 139) hx hb dX10_compared_125 (by decide) ?_
                  refine lv_iconst (v := (0)) hx hb dX10_compared_139 (by decide) ?_
                  refine m_callv (m_runV (1000) (As := [.int (4), .int (0)]) (rest := []) hx hb hml hown hts hE hM hS hA ce_X10_entry tb_1552 (V_X10_entry_h l D A ad ns I343 L344 G (4) (0) hJ hI (fun hz => by have w0 := xI343.2.2.2.2.1 (by omega); have w1 := xI239.2 (by omega); have w2 := xI1.2.2.2.2.1 (by omega); have w3 := hPI (by omega); omega)) rfl rfl ⟨Nat.le_of_ble_eq_true rfl, Nat.le_of_ble_eq_true rfl⟩ hJ.1 rfl rfl (by decide) rfl hl.1 rfl (Nat.le_of_ble_eq_true rfl) dX10_compared_140 ⟨Nat.le_of_ble_eq_true rfl, Nat.le_of_ble_eq_true rfl⟩) hS (fun u H locs hw hM hS => ?_)
                  obtain ⟨I369, L370, rfl, hI, hkI369, xI369⟩ := hw
                  have hM : Mem D A ad ns I369 L370 G H := hM
                  have hK := hK.trans hkI369 rfl
                  have pw371 : (I369 (1000) 24).toInt = (I (1000) 24 : Int32).toInt := (congrArg Int32.toInt ((hkI369.get (1000) 24 rfl))).trans pw345
                  have pw372 : (I369 (1000) 25).toInt = (I343 (1000) 25 : Int32).toInt := congrArg Int32.toInt ((hkI369.get (1000) 25 rfl))
                  have pw373 : (I369 (1000) 26).toInt = (I343 (1000) 26 : Int32).toInt := congrArg Int32.toInt ((hkI369.get (1000) 26 rfl))
                  have pw374 : (I369 (1000) 27).toInt = (I (1000) 27 : Int32).toInt := (congrArg Int32.toInt ((hkI369.get (1000) 27 rfl))).trans pw346
                  have pw375 : (I369 (1000) 30).toInt = (I (1000) 30 : Int32).toInt := (congrArg Int32.toInt ((hkI369.get (1000) 30 rfl))).trans pw347
                  have pw376 : (I369 (1000) 31).toInt = (I343 (1000) 31 : Int32).toInt := congrArg Int32.toInt ((hkI369.get (1000) 31 rfl))
                  have pw377 : (I369 (1000) 32).toInt = (I (1000) 32 : Int32).toInt := (congrArg Int32.toInt ((hkI369.get (1000) 32 rfl))).trans pw348
                  replace hC := hC.comp (n2 := 1) (xI369.2.2.2.2.2.ct (by omega) (by omega) xI369.2.2.2.1 (by omega)) (by omega) (by omega) (by omega) (by omega) (fun hz => by omega)
                  have xeI369 : Imp ((I369 1000 26).toInt = 0) ((I369 1000 29).toInt = (I343 1000 29).toInt + 1) := fun hz => xI369.2.2.2.1 (by omega)
                  have hen378 : Imp ((I343 1000 26).toInt = 0) (RC I369 = RC I343 ++ [enc (4 : Int32).toInt (0 : Int32).toInt]) := fun hz => RC_ent xI369.2.2.2.2.2 hz (by omega) (by omega) (xI369.2.2.2.1 hz)
                  have z1 := tn (i := I1 1000 25) (by omega)
                  have gR5 := RC_len (J := I1) (hIs10.get 1000 29 (lo := 0) (hi := 300) rfl).1
                  have gR6 := hIs10.get 1000 29 (lo := 0) (hi := 300) rfl
                  have hs67 := sc329
                  rw [show ((u2 I239 (1000) 25 (v249)) 1000 25).toNatClampNeg = (I1 1000 25).toNatClampNeg + 1 from by have z6 := tn (i := (u2 I239 (1000) 25 (v249)) 1000 25) (by omega); omega] at hs67
                  have hcm : CMP (TM I) I I369 := by
                    by_cases hz : (I1 1000 26).toInt = 0
                    · have w0 := nw9.2.na hz; have w3 := xI239.1.1 hz; have w4 := nw349.1.2
                      have htk := tk_cm2 (T := TM I) (q := (I1 1000 25).toNatClampNeg) (by omega)
                      by_cases hc6 : (I1 1000 31).toInt = 60
                      · have w5 := w3.1 hc6; have w6 := w4 (by omega); exact cmp_many hT nw9.1.1 hz (by rw [w0.1]; omega) hc6 (by rw [w0.1]; omega)
                      · have w5 := w3.2 hc6; have w6 := xI239.2 w5; have z5 := tn (i := (u2 (u2 I239 (1000) 25 (v249)) (1000) 25 (v333)) 1000 25) (by omega); exact cmp_ok (o := -19) (J2 := (u2 (u2 I239 (1000) 25 (v249)) (1000) 25 (v333))) (J3 := I343) hT nw9.1.1 hz (by rw [w0.1]; omega) (by rw [w0.1]; omega) (by omega) (by omega) (by rw [w0.1]; omega) (by omega) (RC_of (J := I1) (J2 := (u2 (u2 I239 (1000) 25 (v249)) (1000) 25 (v333))) (((show (u2 (u2 I239 (1000) 25 (v249)) (1000) 25 (v333)) 1035 = I239 1035 from by funext zz; simp [u2_v])).trans (hkI239.getA 1035 rfl)) (((show (u2 (u2 I239 (1000) 25 (v249)) (1000) 25 (v333)) 1036 = I239 1036 from by funext zz; simp [u2_v])).trans (hkI239.getA 1036 rfl)) (by omega) (by omega)) (by omega) nw349.1.1 (by omega) (fun hy => ⟨by rw [show (I369 1000 25).toNatClampNeg = (I343 1000 25).toNatClampNeg from cl_eq (by omega)], by omega, by rw [hen378 hy, enc_v (v := -19) (Or.inr (Or.inr (Or.inr (Or.inr (Or.inr (Or.inl ⟨by omega, rfl⟩))))))]⟩)
                    · have w3 := xI239.1.2 hz; have w4 := nw349.1.2 (by omega); exact cmp_bad1 nw9.1.1 hz (by omega)
                  exact m_vret hx hb hr hlocks hM hS (Nat.le_of_ble_eq_true rfl) (Nat.le_of_ble_eq_true rfl) ⟨_, _, rfl, hI, hK, ⟨⟨hcm, fun hz => by rw [show (I369 1000 25).toNatClampNeg = (I343 1000 25).toNatClampNeg from cl_eq (by omega)]; exact nw349.2 (by omega)⟩, by omega, by omega, by omega, (fun hz => by have w0 := xeI369 (by omega); have w1 := xI343.2.2.2.2.1 (by omega); have w2 := xI239.2 (by omega); have w3 := xI1.2.2.2.2.1 (by omega); have w4 := hPI (by omega); omega), hC⟩⟩ dX10_compared_143
                · exact absurd c368 (by decide)
            · have hc351 := c351
              have q351 := q_eq hc351
              have sg379 := xr11.2.2.2 (by omega)
              have sc380 := sx14.y (k := 61) (by omega) (by decide)
              refine lv_bipush (v := (6)) hx hb dX10_compared_105 (by decide) ?_
              refine lv_goto (tgt := 139) hx hb dX10_compared_107 (by decide) ?_
              refine lv_iconst (v := (0)) hx hb dX10_compared_139 (by decide) ?_
              refine m_callv (m_runV (1000) (As := [.int (6), .int (0)]) (rest := []) hx hb hml hown hts hE hM hS hA ce_X10_entry tb_1552 (V_X10_entry_h l D A ad ns I343 L344 G (6) (0) hJ hI (fun hz => by have w0 := xI343.2.2.2.2.1 (by omega); have w1 := xI239.2 (by omega); have w2 := xI1.2.2.2.2.1 (by omega); have w3 := hPI (by omega); omega)) rfl rfl ⟨Nat.le_of_ble_eq_true rfl, Nat.le_of_ble_eq_true rfl⟩ hJ.1 rfl rfl (by decide) rfl hl.1 rfl (Nat.le_of_ble_eq_true rfl) dX10_compared_140 ⟨Nat.le_of_ble_eq_true rfl, Nat.le_of_ble_eq_true rfl⟩) hS (fun u H locs hw hM hS => ?_)
              obtain ⟨I381, L382, rfl, hI, hkI381, xI381⟩ := hw
              have hM : Mem D A ad ns I381 L382 G H := hM
              have hK := hK.trans hkI381 rfl
              have pw383 : (I381 (1000) 24).toInt = (I (1000) 24 : Int32).toInt := (congrArg Int32.toInt ((hkI381.get (1000) 24 rfl))).trans pw345
              have pw384 : (I381 (1000) 25).toInt = (I343 (1000) 25 : Int32).toInt := congrArg Int32.toInt ((hkI381.get (1000) 25 rfl))
              have pw385 : (I381 (1000) 26).toInt = (I343 (1000) 26 : Int32).toInt := congrArg Int32.toInt ((hkI381.get (1000) 26 rfl))
              have pw386 : (I381 (1000) 27).toInt = (I (1000) 27 : Int32).toInt := (congrArg Int32.toInt ((hkI381.get (1000) 27 rfl))).trans pw346
              have pw387 : (I381 (1000) 30).toInt = (I (1000) 30 : Int32).toInt := (congrArg Int32.toInt ((hkI381.get (1000) 30 rfl))).trans pw347
              have pw388 : (I381 (1000) 31).toInt = (I343 (1000) 31 : Int32).toInt := congrArg Int32.toInt ((hkI381.get (1000) 31 rfl))
              have pw389 : (I381 (1000) 32).toInt = (I (1000) 32 : Int32).toInt := (congrArg Int32.toInt ((hkI381.get (1000) 32 rfl))).trans pw348
              replace hC := hC.comp (n2 := 1) (xI381.2.2.2.2.2.ct (by omega) (by omega) xI381.2.2.2.1 (by omega)) (by omega) (by omega) (by omega) (by omega) (fun hz => by omega)
              have xeI381 : Imp ((I381 1000 26).toInt = 0) ((I381 1000 29).toInt = (I343 1000 29).toInt + 1) := fun hz => xI381.2.2.2.1 (by omega)
              have hen390 : Imp ((I343 1000 26).toInt = 0) (RC I381 = RC I343 ++ [enc (6 : Int32).toInt (0 : Int32).toInt]) := fun hz => RC_ent xI381.2.2.2.2.2 hz (by omega) (by omega) (xI381.2.2.2.1 hz)
              have z1 := tn (i := I1 1000 25) (by omega)
              have gR5 := RC_len (J := I1) (hIs10.get 1000 29 (lo := 0) (hi := 300) rfl).1
              have gR6 := hIs10.get 1000 29 (lo := 0) (hi := 300) rfl
              have hs67 := sc329
              rw [show ((u2 I239 (1000) 25 (v249)) 1000 25).toNatClampNeg = (I1 1000 25).toNatClampNeg + 1 from by have z6 := tn (i := (u2 I239 (1000) 25 (v249)) 1000 25) (by omega); omega] at hs67
              have hcm : CMP (TM I) I I381 := by
                by_cases hz : (I1 1000 26).toInt = 0
                · have w0 := nw9.2.na hz; have w3 := xI239.1.1 hz; have w4 := nw349.1.2
                  have htk := tk_cm2 (T := TM I) (q := (I1 1000 25).toNatClampNeg) (by omega)
                  by_cases hc6 : (I1 1000 31).toInt = 60
                  · have w5 := w3.1 hc6; have w6 := w4 (by omega); exact cmp_many hT nw9.1.1 hz (by rw [w0.1]; omega) hc6 (by rw [w0.1]; omega)
                  · have w5 := w3.2 hc6; have w6 := xI239.2 w5; have z5 := tn (i := (u2 (u2 I239 (1000) 25 (v249)) (1000) 25 (v333)) 1000 25) (by omega); exact cmp_ok (o := -21) (J2 := (u2 (u2 I239 (1000) 25 (v249)) (1000) 25 (v333))) (J3 := I343) hT nw9.1.1 hz (by rw [w0.1]; omega) (by rw [w0.1]; omega) (by omega) (by omega) (by rw [w0.1]; omega) (by omega) (RC_of (J := I1) (J2 := (u2 (u2 I239 (1000) 25 (v249)) (1000) 25 (v333))) (((show (u2 (u2 I239 (1000) 25 (v249)) (1000) 25 (v333)) 1035 = I239 1035 from by funext zz; simp [u2_v])).trans (hkI239.getA 1035 rfl)) (((show (u2 (u2 I239 (1000) 25 (v249)) (1000) 25 (v333)) 1036 = I239 1036 from by funext zz; simp [u2_v])).trans (hkI239.getA 1036 rfl)) (by omega) (by omega)) (by omega) nw349.1.1 (by omega) (fun hy => ⟨by rw [show (I381 1000 25).toNatClampNeg = (I343 1000 25).toNatClampNeg from cl_eq (by omega)], by omega, by rw [hen390 hy, enc_v (v := -21) (Or.inr (Or.inr (Or.inr (Or.inr (Or.inr (Or.inr (Or.inr (Or.inl ⟨by omega, rfl⟩))))))))]⟩)
                · have w3 := xI239.1.2 hz; have w4 := nw349.1.2 (by omega); exact cmp_bad1 nw9.1.1 hz (by omega)
              exact m_vret hx hb hr hlocks hM hS (Nat.le_of_ble_eq_true rfl) (Nat.le_of_ble_eq_true rfl) ⟨_, _, rfl, hI, hK, ⟨⟨hcm, fun hz => by rw [show (I381 1000 25).toNatClampNeg = (I343 1000 25).toNatClampNeg from cl_eq (by omega)]; exact nw349.2 (by omega)⟩, by omega, by omega, by omega, (fun hz => by have w0 := xeI381 (by omega); have w1 := xI343.2.2.2.2.1 (by omega); have w2 := xI239.2 (by omega); have w3 := xI1.2.2.2.2.1 (by omega); have w4 := hPI (by omega); omega), hC⟩⟩ dX10_compared_143
          · exact absurd c332 (by decide)
        · have hc328 := c328
          have q328 := q_eq hc328
          have sg391 := xr324.2.2.2 (by omega)
          have sc392 := sx327.y (k := 61) (by omega) (by decide)
          refine lv_iconst (v := (1)) hx hb dX10_compared_70 (by decide) ?_
          refine lv_goto (tgt := 75) hx hb dX10_compared_71 (by decide) ?_
          refine lv_istore_n (lv' := [(2, .int (1)), (1, .int (r11)), (0, .ref (ad (1000)))]) hx hb dX10_compared_75 rfl hl (by decide) rfl (fun ls hl => ?_)
          refine lv_aload_n hx hb dX10_compared_76 rfl (lv_at hl 2 rfl) ?_
          refine lv_dup hx hb dX10_compared_77 rfl ?_
          refine m_geti (1000) 25 hx hb hts hown hE oc10 hM hJ.1 rfl (by decide) rfl tb_1202 dX10_compared_78 ?_
          have g393 := hI.get (1000) 25 (lo := 0) (hi := 100000) rfl
          have z394 : (u2 I239 (1000) 25 (v249)) (1000) 25 = v249 := (show (u2 I239 (1000) 25 (v249)) (1000) 25 = v249 from by simp [u2_v])
          rw [z394] at g393 ⊢
          refine lv_iload_n hx hb dX10_compared_81 rfl (lv_at hl 0 rfl) ?_
          refine lv_if_eq (tgt := 89) hx hb dX10_compared_82 (by decide) (fun c395 => ?_) (fun c395 => ?_)
          · exact absurd c395 (by decide)
          · have hc395 := c395
            have q395 := q_ne hc395
            refine lv_iconst (v := (1)) hx hb dX10_compared_85 (by decide) ?_
            refine lv_goto (tgt := 90) hx hb dX10_compared_86 (by decide) ?_
            refine lv_iadd hx hb dX10_compared_90 ?_
            refine lv_topi (fun v396 ev396 => ?_)
            have tv396 := a_add ev396 (by omega) (by omega)
            refine m_puti (1000) 25 hx hb hts hown hE oc10 hM hS hJ.1 rfl (by decide) rfl rfl rfl rfl tb_1202 dX10_compared_91 (fun H locs I397 eI397 hM hS => ?_)
            subst eI397
            have hI := hI.put (n := 1000) (k := 25) (v := v396) (lo := 0) (hi := 100000) rfl (by first | omega | decide)
            have hK := hK.put (n := 1000) (k := 25) (v := v396) (by first | rfl | simp [inR])
            refine lv_aload_n hx hb dX10_compared_94 rfl (lv_at hl 2 rfl) ?_
            have pw398 : ((u2 (u2 I239 (1000) 25 (v249)) (1000) 25 (v396)) (1000) 24).toInt = (I (1000) 24 : Int32).toInt := (congrArg Int32.toInt ((show (u2 (u2 I239 (1000) 25 (v249)) (1000) 25 (v396)) (1000) 24 = (u2 I239 (1000) 25 (v249)) (1000) 24 from by simp [u2_v]))).trans pw316
            have pw399 : ((u2 (u2 I239 (1000) 25 (v249)) (1000) 25 (v396)) (1000) 25).toInt = (v396 : Int32).toInt := congrArg Int32.toInt ((show (u2 (u2 I239 (1000) 25 (v249)) (1000) 25 (v396)) (1000) 25 = v396 from by simp [u2_v]))
            have pw400 : ((u2 (u2 I239 (1000) 25 (v249)) (1000) 25 (v396)) (1000) 26).toInt = (I239 (1000) 26 : Int32).toInt := (congrArg Int32.toInt ((show (u2 (u2 I239 (1000) 25 (v249)) (1000) 25 (v396)) (1000) 26 = (u2 I239 (1000) 25 (v249)) (1000) 26 from by simp [u2_v]))).trans pw318
            have pw401 : ((u2 (u2 I239 (1000) 25 (v249)) (1000) 25 (v396)) (1000) 27).toInt = (I (1000) 27 : Int32).toInt := (congrArg Int32.toInt ((show (u2 (u2 I239 (1000) 25 (v249)) (1000) 25 (v396)) (1000) 27 = (u2 I239 (1000) 25 (v249)) (1000) 27 from by simp [u2_v]))).trans pw319
            have pw402 : ((u2 (u2 I239 (1000) 25 (v249)) (1000) 25 (v396)) (1000) 29).toInt = (I1 (1000) 29 : Int32).toInt := (congrArg Int32.toInt ((show (u2 (u2 I239 (1000) 25 (v249)) (1000) 25 (v396)) (1000) 29 = (u2 I239 (1000) 25 (v249)) (1000) 29 from by simp [u2_v]))).trans pw320
            have pw403 : ((u2 (u2 I239 (1000) 25 (v249)) (1000) 25 (v396)) (1000) 30).toInt = (I (1000) 30 : Int32).toInt := (congrArg Int32.toInt ((show (u2 (u2 I239 (1000) 25 (v249)) (1000) 25 (v396)) (1000) 30 = (u2 I239 (1000) 25 (v249)) (1000) 30 from by simp [u2_v]))).trans pw321
            have pw404 : ((u2 (u2 I239 (1000) 25 (v249)) (1000) 25 (v396)) (1000) 31).toInt = (I239 (1000) 31 : Int32).toInt := (congrArg Int32.toInt ((show (u2 (u2 I239 (1000) 25 (v249)) (1000) 25 (v396)) (1000) 31 = (u2 I239 (1000) 25 (v249)) (1000) 31 from by simp [u2_v]))).trans pw322
            have pw405 : ((u2 (u2 I239 (1000) 25 (v249)) (1000) 25 (v396)) (1000) 32).toInt = (I (1000) 32 : Int32).toInt := (congrArg Int32.toInt ((show (u2 (u2 I239 (1000) 25 (v249)) (1000) 25 (v396)) (1000) 32 = (u2 I239 (1000) 25 (v249)) (1000) 32 from by simp [u2_v]))).trans pw323
            refine m_callv (m_runV (1000) (As := []) (rest := []) hx hb hml hown hts hE hM hS hA ce_X10_sum tb_1535 (V_X10_sum_h l D A ad ns (u2 (u2 I239 (1000) 25 (v249)) (1000) 25 (v396)) L240 G hJ hI (by omega) (fun hz => by have w0 := xI239.2 (by omega); have w1 := xI1.2.2.2.2.1 (by omega); have w2 := hPI (by omega); omega) (hbt.of (hK.getA 1034 rfl) (hK.get 1000 24 rfl))) rfl rfl ⟨Nat.le_of_ble_eq_true rfl, Nat.le_of_ble_eq_true rfl⟩ hJ.1 rfl rfl (by decide) rfl hl.1 rfl (Nat.le_of_ble_eq_true rfl) dX10_compared_95 ⟨Nat.le_of_ble_eq_true rfl, Nat.le_of_ble_eq_true rfl⟩) hS (fun u H locs hw hM hS => ?_)
            obtain ⟨I406, L407, rfl, hI, hkI406, xI406⟩ := hw
            have hM : Mem D A ad ns I406 L407 G H := hM
            have hK := hK.trans hkI406 rfl
            replace hC := CT.link (I2 := (u2 (u2 I239 (1000) 25 (v249)) (1000) 25 (v396))) hC (((show (u2 (u2 I239 (1000) 25 (v249)) (1000) 25 (v396)) 1035 = I239 1035 from by funext zz; simp [u2_v])).trans (hkI239.getA 1035 rfl)) (((show (u2 (u2 I239 (1000) 25 (v249)) (1000) 25 (v396)) 1036 = I239 1036 from by funext zz; simp [u2_v])).trans (hkI239.getA 1036 rfl)) (by omega) (fun hz => by have w0 := xI239.2 (by omega); have w1 := xI1.2.2.2.2.1 (by omega); have w2 := hPI (by omega); omega)
            have pw408 : (I406 (1000) 24).toInt = (I (1000) 24 : Int32).toInt := (congrArg Int32.toInt ((hkI406.get (1000) 24 rfl))).trans pw398
            have pw409 : (I406 (1000) 27).toInt = (I (1000) 27 : Int32).toInt := (congrArg Int32.toInt ((hkI406.get (1000) 27 rfl))).trans pw401
            have pw410 : (I406 (1000) 30).toInt = (I (1000) 30 : Int32).toInt := (congrArg Int32.toInt ((hkI406.get (1000) 30 rfl))).trans pw403
            have pw411 : (I406 (1000) 32).toInt = (I (1000) 32 : Int32).toInt := (congrArg Int32.toInt ((hkI406.get (1000) 32 rfl))).trans pw405
            replace hC := hC.comp ((xI406.2.2.2.2.2).mono0 (1 + (0))) (by omega) (by omega) (by omega) (by omega) (fun hz => (xI406.2.2.2.2.1 hz).1)
            have nw412 := xI406.1
            rw [show TM (u2 (u2 I239 (1000) 25 (v249)) (1000) 25 (v396)) = TM I from (TM_of (hkI406.getA 1034 rfl) (hkI406.get 1000 24 rfl)).symm.trans (TM_of (hK.getA 1034 rfl) (hK.get 1000 24 rfl))] at nw412
            have hIs413 := hI
            refine lv_aload_n hx hb dX10_compared_98 rfl (lv_at hl 2 rfl) ?_
            refine lv_iload_n hx hb dX10_compared_99 rfl (lv_at hl 1 rfl) ?_
            refine lv_bipush (v := (61)) hx hb dX10_compared_100 (by decide) ?_
            refine lv_icmp_ne (tgt := 110) hx hb dX10_compared_102 (by decide) (fun c414 => ?_) (fun c414 => ?_)
            · have hc414 := c414
              have q414 := q_ne hc414
              have sc415 := sx14.n (k := 61) (by omega) (by decide)
              refine lv_iload_n hx hb dX10_compared_110 rfl (lv_at hl 1 rfl) ?_
              refine lv_bipush (v := (60)) hx hb dX10_compared_111 (by decide) ?_
              refine lv_icmp_ne (tgt := 128) hx hb dX10_compared_113 (by decide) (fun c416 => ?_) (fun c416 => ?_)
              · have hc416 := c416
                have q416 := q_ne hc416
                have sc417 := sx14.n (k := 60) (by omega) (by decide)
                refine lv_iload_n hx hb dX10_compared_128 rfl (lv_at hl 0 rfl) ?_
                refine lv_if_eq (tgt := 137) hx hb dX10_compared_129 (by decide) (fun c418 => ?_) (fun c418 => ?_)
                · exact absurd c418 (by decide)
                · have hc418 := c418
                  have q418 := q_ne hc418
                  refine lv_bipush (v := (7)) hx hb dX10_compared_132 (by decide) ?_
                  refine lv_goto (tgt := 139) hx hb dX10_compared_134 (by decide) ?_
                  refine lv_iconst (v := (0)) hx hb dX10_compared_139 (by decide) ?_
                  refine m_callv (m_runV (1000) (As := [.int (7), .int (0)]) (rest := []) hx hb hml hown hts hE hM hS hA ce_X10_entry tb_1552 (V_X10_entry_h l D A ad ns I406 L407 G (7) (0) hJ hI (fun hz => by have w0 := xI406.2.2.2.2.1 (by omega); have w1 := xI239.2 (by omega); have w2 := xI1.2.2.2.2.1 (by omega); have w3 := hPI (by omega); omega)) rfl rfl ⟨Nat.le_of_ble_eq_true rfl, Nat.le_of_ble_eq_true rfl⟩ hJ.1 rfl rfl (by decide) rfl hl.1 rfl (Nat.le_of_ble_eq_true rfl) dX10_compared_140 ⟨Nat.le_of_ble_eq_true rfl, Nat.le_of_ble_eq_true rfl⟩) hS (fun u H locs hw hM hS => ?_)
                  obtain ⟨I419, L420, rfl, hI, hkI419, xI419⟩ := hw
                  have hM : Mem D A ad ns I419 L420 G H := hM
                  have hK := hK.trans hkI419 rfl
                  have pw421 : (I419 (1000) 24).toInt = (I (1000) 24 : Int32).toInt := (congrArg Int32.toInt ((hkI419.get (1000) 24 rfl))).trans pw408
                  have pw422 : (I419 (1000) 25).toInt = (I406 (1000) 25 : Int32).toInt := congrArg Int32.toInt ((hkI419.get (1000) 25 rfl))
                  have pw423 : (I419 (1000) 26).toInt = (I406 (1000) 26 : Int32).toInt := congrArg Int32.toInt ((hkI419.get (1000) 26 rfl))
                  have pw424 : (I419 (1000) 27).toInt = (I (1000) 27 : Int32).toInt := (congrArg Int32.toInt ((hkI419.get (1000) 27 rfl))).trans pw409
                  have pw425 : (I419 (1000) 30).toInt = (I (1000) 30 : Int32).toInt := (congrArg Int32.toInt ((hkI419.get (1000) 30 rfl))).trans pw410
                  have pw426 : (I419 (1000) 31).toInt = (I406 (1000) 31 : Int32).toInt := congrArg Int32.toInt ((hkI419.get (1000) 31 rfl))
                  have pw427 : (I419 (1000) 32).toInt = (I (1000) 32 : Int32).toInt := (congrArg Int32.toInt ((hkI419.get (1000) 32 rfl))).trans pw411
                  replace hC := hC.comp (n2 := 1) (xI419.2.2.2.2.2.ct (by omega) (by omega) xI419.2.2.2.1 (by omega)) (by omega) (by omega) (by omega) (by omega) (fun hz => by omega)
                  have xeI419 : Imp ((I419 1000 26).toInt = 0) ((I419 1000 29).toInt = (I406 1000 29).toInt + 1) := fun hz => xI419.2.2.2.1 (by omega)
                  have hen428 : Imp ((I406 1000 26).toInt = 0) (RC I419 = RC I406 ++ [enc (7 : Int32).toInt (0 : Int32).toInt]) := fun hz => RC_ent xI419.2.2.2.2.2 hz (by omega) (by omega) (xI419.2.2.2.1 hz)
                  have z1 := tn (i := I1 1000 25) (by omega)
                  have gR5 := RC_len (J := I1) (hIs10.get 1000 29 (lo := 0) (hi := 300) rfl).1
                  have gR6 := hIs10.get 1000 29 (lo := 0) (hi := 300) rfl
                  have hs67 := sc392
                  rw [show ((u2 I239 (1000) 25 (v249)) 1000 25).toNatClampNeg = (I1 1000 25).toNatClampNeg + 1 from by have z6 := tn (i := (u2 I239 (1000) 25 (v249)) 1000 25) (by omega); omega] at hs67
                  have hcm : CMP (TM I) I I419 := by
                    by_cases hz : (I1 1000 26).toInt = 0
                    · have w0 := nw9.2.na hz; have w3 := xI239.1.1 hz; have w4 := nw412.1.2
                      have htk := tk_cm2 (T := TM I) (q := (I1 1000 25).toNatClampNeg) (by omega)
                      by_cases hc6 : (I1 1000 31).toInt = 60
                      · have w5 := w3.1 hc6; have w6 := w4 (by omega); exact cmp_many hT nw9.1.1 hz (by rw [w0.1]; omega) hc6 (by rw [w0.1]; omega)
                      · have w5 := w3.2 hc6; have w6 := xI239.2 w5; have z5 := tn (i := (u2 (u2 I239 (1000) 25 (v249)) (1000) 25 (v396)) 1000 25) (by omega); exact cmp_ok (o := -22) (J2 := (u2 (u2 I239 (1000) 25 (v249)) (1000) 25 (v396))) (J3 := I406) hT nw9.1.1 hz (by rw [w0.1]; omega) (by rw [w0.1]; omega) (by omega) (by omega) (by rw [w0.1]; omega) (by omega) (RC_of (J := I1) (J2 := (u2 (u2 I239 (1000) 25 (v249)) (1000) 25 (v396))) (((show (u2 (u2 I239 (1000) 25 (v249)) (1000) 25 (v396)) 1035 = I239 1035 from by funext zz; simp [u2_v])).trans (hkI239.getA 1035 rfl)) (((show (u2 (u2 I239 (1000) 25 (v249)) (1000) 25 (v396)) 1036 = I239 1036 from by funext zz; simp [u2_v])).trans (hkI239.getA 1036 rfl)) (by omega) (by omega)) (by omega) nw412.1.1 (by omega) (fun hy => ⟨by rw [show (I419 1000 25).toNatClampNeg = (I406 1000 25).toNatClampNeg from cl_eq (by omega)], by omega, by rw [hen428 hy, enc_v (v := -22) (Or.inr (Or.inr (Or.inr (Or.inr (Or.inr (Or.inr (Or.inr (Or.inr (Or.inl ⟨by omega, rfl⟩)))))))))]⟩)
                    · have w3 := xI239.1.2 hz; have w4 := nw412.1.2 (by omega); exact cmp_bad1 nw9.1.1 hz (by omega)
                  exact m_vret hx hb hr hlocks hM hS (Nat.le_of_ble_eq_true rfl) (Nat.le_of_ble_eq_true rfl) ⟨_, _, rfl, hI, hK, ⟨⟨hcm, fun hz => by rw [show (I419 1000 25).toNatClampNeg = (I406 1000 25).toNatClampNeg from cl_eq (by omega)]; exact nw412.2 (by omega)⟩, by omega, by omega, by omega, (fun hz => by have w0 := xeI419 (by omega); have w1 := xI406.2.2.2.2.1 (by omega); have w2 := xI239.2 (by omega); have w3 := xI1.2.2.2.2.1 (by omega); have w4 := hPI (by omega); omega), hC⟩⟩ dX10_compared_143
              · have hc416 := c416
                have q416 := q_eq hc416
                have sg429 := xr11.2.2.2 (by omega)
                have sc430 := sx14.y (k := 60) (by omega) (by decide)
                refine lv_iload_n hx hb dX10_compared_116 rfl (lv_at hl 0 rfl) ?_
                refine lv_if_eq (tgt := 124) hx hb dX10_compared_117 (by decide) (fun c431 => ?_) (fun c431 => ?_)
                · exact absurd c431 (by decide)
                · have hc431 := c431
                  have q431 := q_ne hc431
                  refine lv_iconst (v := (5)) hx hb dX10_compared_120 (by decide) ?_
                  refine lv_goto (tgt := 139) hx hb dX10_compared_121 (by decide) ?_
                  refine lv_iconst (v := (0)) hx hb dX10_compared_139 (by decide) ?_
                  refine m_callv (m_runV (1000) (As := [.int (5), .int (0)]) (rest := []) hx hb hml hown hts hE hM hS hA ce_X10_entry tb_1552 (V_X10_entry_h l D A ad ns I406 L407 G (5) (0) hJ hI (fun hz => by have w0 := xI406.2.2.2.2.1 (by omega); have w1 := xI239.2 (by omega); have w2 := xI1.2.2.2.2.1 (by omega); have w3 := hPI (by omega); omega)) rfl rfl ⟨Nat.le_of_ble_eq_true rfl, Nat.le_of_ble_eq_true rfl⟩ hJ.1 rfl rfl (by decide) rfl hl.1 rfl (Nat.le_of_ble_eq_true rfl) dX10_compared_140 ⟨Nat.le_of_ble_eq_true rfl, Nat.le_of_ble_eq_true rfl⟩) hS (fun u H locs hw hM hS => ?_)
                  obtain ⟨I432, L433, rfl, hI, hkI432, xI432⟩ := hw
                  have hM : Mem D A ad ns I432 L433 G H := hM
                  have hK := hK.trans hkI432 rfl
                  have pw434 : (I432 (1000) 24).toInt = (I (1000) 24 : Int32).toInt := (congrArg Int32.toInt ((hkI432.get (1000) 24 rfl))).trans pw408
                  have pw435 : (I432 (1000) 25).toInt = (I406 (1000) 25 : Int32).toInt := congrArg Int32.toInt ((hkI432.get (1000) 25 rfl))
                  have pw436 : (I432 (1000) 26).toInt = (I406 (1000) 26 : Int32).toInt := congrArg Int32.toInt ((hkI432.get (1000) 26 rfl))
                  have pw437 : (I432 (1000) 27).toInt = (I (1000) 27 : Int32).toInt := (congrArg Int32.toInt ((hkI432.get (1000) 27 rfl))).trans pw409
                  have pw438 : (I432 (1000) 30).toInt = (I (1000) 30 : Int32).toInt := (congrArg Int32.toInt ((hkI432.get (1000) 30 rfl))).trans pw410
                  have pw439 : (I432 (1000) 31).toInt = (I406 (1000) 31 : Int32).toInt := congrArg Int32.toInt ((hkI432.get (1000) 31 rfl))
                  have pw440 : (I432 (1000) 32).toInt = (I (1000) 32 : Int32).toInt := (congrArg Int32.toInt ((hkI432.get (1000) 32 rfl))).trans pw411
                  replace hC := hC.comp (n2 := 1) (xI432.2.2.2.2.2.ct (by omega) (by omega) xI432.2.2.2.1 (by omega)) (by omega) (by omega) (by omega) (by omega) (fun hz => by omega)
                  have xeI432 : Imp ((I432 1000 26).toInt = 0) ((I432 1000 29).toInt = (I406 1000 29).toInt + 1) := fun hz => xI432.2.2.2.1 (by omega)
                  have hen441 : Imp ((I406 1000 26).toInt = 0) (RC I432 = RC I406 ++ [enc (5 : Int32).toInt (0 : Int32).toInt]) := fun hz => RC_ent xI432.2.2.2.2.2 hz (by omega) (by omega) (xI432.2.2.2.1 hz)
                  have z1 := tn (i := I1 1000 25) (by omega)
                  have gR5 := RC_len (J := I1) (hIs10.get 1000 29 (lo := 0) (hi := 300) rfl).1
                  have gR6 := hIs10.get 1000 29 (lo := 0) (hi := 300) rfl
                  have hs67 := sc392
                  rw [show ((u2 I239 (1000) 25 (v249)) 1000 25).toNatClampNeg = (I1 1000 25).toNatClampNeg + 1 from by have z6 := tn (i := (u2 I239 (1000) 25 (v249)) 1000 25) (by omega); omega] at hs67
                  have hcm : CMP (TM I) I I432 := by
                    by_cases hz : (I1 1000 26).toInt = 0
                    · have w0 := nw9.2.na hz; have w3 := xI239.1.1 hz; have w4 := nw412.1.2
                      have htk := tk_cm2 (T := TM I) (q := (I1 1000 25).toNatClampNeg) (by omega)
                      by_cases hc6 : (I1 1000 31).toInt = 60
                      · have w5 := w3.1 hc6; have w6 := w4 (by omega); exact cmp_many hT nw9.1.1 hz (by rw [w0.1]; omega) hc6 (by rw [w0.1]; omega)
                      · have w5 := w3.2 hc6; have w6 := xI239.2 w5; have z5 := tn (i := (u2 (u2 I239 (1000) 25 (v249)) (1000) 25 (v396)) 1000 25) (by omega); exact cmp_ok (o := -20) (J2 := (u2 (u2 I239 (1000) 25 (v249)) (1000) 25 (v396))) (J3 := I406) hT nw9.1.1 hz (by rw [w0.1]; omega) (by rw [w0.1]; omega) (by omega) (by omega) (by rw [w0.1]; omega) (by omega) (RC_of (J := I1) (J2 := (u2 (u2 I239 (1000) 25 (v249)) (1000) 25 (v396))) (((show (u2 (u2 I239 (1000) 25 (v249)) (1000) 25 (v396)) 1035 = I239 1035 from by funext zz; simp [u2_v])).trans (hkI239.getA 1035 rfl)) (((show (u2 (u2 I239 (1000) 25 (v249)) (1000) 25 (v396)) 1036 = I239 1036 from by funext zz; simp [u2_v])).trans (hkI239.getA 1036 rfl)) (by omega) (by omega)) (by omega) nw412.1.1 (by omega) (fun hy => ⟨by rw [show (I432 1000 25).toNatClampNeg = (I406 1000 25).toNatClampNeg from cl_eq (by omega)], by omega, by rw [hen441 hy, enc_v (v := -20) (Or.inr (Or.inr (Or.inr (Or.inr (Or.inr (Or.inr (Or.inl ⟨by omega, rfl⟩)))))))]⟩)
                    · have w3 := xI239.1.2 hz; have w4 := nw412.1.2 (by omega); exact cmp_bad1 nw9.1.1 hz (by omega)
                  exact m_vret hx hb hr hlocks hM hS (Nat.le_of_ble_eq_true rfl) (Nat.le_of_ble_eq_true rfl) ⟨_, _, rfl, hI, hK, ⟨⟨hcm, fun hz => by rw [show (I432 1000 25).toNatClampNeg = (I406 1000 25).toNatClampNeg from cl_eq (by omega)]; exact nw412.2 (by omega)⟩, by omega, by omega, by omega, (fun hz => by have w0 := xeI432 (by omega); have w1 := xI406.2.2.2.2.1 (by omega); have w2 := xI239.2 (by omega); have w3 := xI1.2.2.2.2.1 (by omega); have w4 := hPI (by omega); omega), hC⟩⟩ dX10_compared_143
            · have hc414 := c414
              have q414 := q_eq hc414
              have sg442 := xr11.2.2.2 (by omega)
              have sc443 := sx14.y (k := 61) (by omega) (by decide)
              refine lv_bipush (v := (6)) hx hb dX10_compared_105 (by decide) ?_
              refine lv_goto (tgt := 139) hx hb dX10_compared_107 (by decide) ?_
              refine lv_iconst (v := (0)) hx hb dX10_compared_139 (by decide) ?_
              refine m_callv (m_runV (1000) (As := [.int (6), .int (0)]) (rest := []) hx hb hml hown hts hE hM hS hA ce_X10_entry tb_1552 (V_X10_entry_h l D A ad ns I406 L407 G (6) (0) hJ hI (fun hz => by have w0 := xI406.2.2.2.2.1 (by omega); have w1 := xI239.2 (by omega); have w2 := xI1.2.2.2.2.1 (by omega); have w3 := hPI (by omega); omega)) rfl rfl ⟨Nat.le_of_ble_eq_true rfl, Nat.le_of_ble_eq_true rfl⟩ hJ.1 rfl rfl (by decide) rfl hl.1 rfl (Nat.le_of_ble_eq_true rfl) dX10_compared_140 ⟨Nat.le_of_ble_eq_true rfl, Nat.le_of_ble_eq_true rfl⟩) hS (fun u H locs hw hM hS => ?_)
              obtain ⟨I444, L445, rfl, hI, hkI444, xI444⟩ := hw
              have hM : Mem D A ad ns I444 L445 G H := hM
              have hK := hK.trans hkI444 rfl
              have pw446 : (I444 (1000) 24).toInt = (I (1000) 24 : Int32).toInt := (congrArg Int32.toInt ((hkI444.get (1000) 24 rfl))).trans pw408
              have pw447 : (I444 (1000) 25).toInt = (I406 (1000) 25 : Int32).toInt := congrArg Int32.toInt ((hkI444.get (1000) 25 rfl))
              have pw448 : (I444 (1000) 26).toInt = (I406 (1000) 26 : Int32).toInt := congrArg Int32.toInt ((hkI444.get (1000) 26 rfl))
              have pw449 : (I444 (1000) 27).toInt = (I (1000) 27 : Int32).toInt := (congrArg Int32.toInt ((hkI444.get (1000) 27 rfl))).trans pw409
              have pw450 : (I444 (1000) 30).toInt = (I (1000) 30 : Int32).toInt := (congrArg Int32.toInt ((hkI444.get (1000) 30 rfl))).trans pw410
              have pw451 : (I444 (1000) 31).toInt = (I406 (1000) 31 : Int32).toInt := congrArg Int32.toInt ((hkI444.get (1000) 31 rfl))
              have pw452 : (I444 (1000) 32).toInt = (I (1000) 32 : Int32).toInt := (congrArg Int32.toInt ((hkI444.get (1000) 32 rfl))).trans pw411
              replace hC := hC.comp (n2 := 1) (xI444.2.2.2.2.2.ct (by omega) (by omega) xI444.2.2.2.1 (by omega)) (by omega) (by omega) (by omega) (by omega) (fun hz => by omega)
              have xeI444 : Imp ((I444 1000 26).toInt = 0) ((I444 1000 29).toInt = (I406 1000 29).toInt + 1) := fun hz => xI444.2.2.2.1 (by omega)
              have hen453 : Imp ((I406 1000 26).toInt = 0) (RC I444 = RC I406 ++ [enc (6 : Int32).toInt (0 : Int32).toInt]) := fun hz => RC_ent xI444.2.2.2.2.2 hz (by omega) (by omega) (xI444.2.2.2.1 hz)
              have z1 := tn (i := I1 1000 25) (by omega)
              have gR5 := RC_len (J := I1) (hIs10.get 1000 29 (lo := 0) (hi := 300) rfl).1
              have gR6 := hIs10.get 1000 29 (lo := 0) (hi := 300) rfl
              have hs67 := sc392
              rw [show ((u2 I239 (1000) 25 (v249)) 1000 25).toNatClampNeg = (I1 1000 25).toNatClampNeg + 1 from by have z6 := tn (i := (u2 I239 (1000) 25 (v249)) 1000 25) (by omega); omega] at hs67
              have hcm : CMP (TM I) I I444 := by
                by_cases hz : (I1 1000 26).toInt = 0
                · have w0 := nw9.2.na hz; have w3 := xI239.1.1 hz; have w4 := nw412.1.2
                  have htk := tk_cm2 (T := TM I) (q := (I1 1000 25).toNatClampNeg) (by omega)
                  by_cases hc6 : (I1 1000 31).toInt = 60
                  · have w5 := w3.1 hc6; have w6 := w4 (by omega); exact cmp_many hT nw9.1.1 hz (by rw [w0.1]; omega) hc6 (by rw [w0.1]; omega)
                  · have w5 := w3.2 hc6; have w6 := xI239.2 w5; have z5 := tn (i := (u2 (u2 I239 (1000) 25 (v249)) (1000) 25 (v396)) 1000 25) (by omega); exact cmp_ok (o := -21) (J2 := (u2 (u2 I239 (1000) 25 (v249)) (1000) 25 (v396))) (J3 := I406) hT nw9.1.1 hz (by rw [w0.1]; omega) (by rw [w0.1]; omega) (by omega) (by omega) (by rw [w0.1]; omega) (by omega) (RC_of (J := I1) (J2 := (u2 (u2 I239 (1000) 25 (v249)) (1000) 25 (v396))) (((show (u2 (u2 I239 (1000) 25 (v249)) (1000) 25 (v396)) 1035 = I239 1035 from by funext zz; simp [u2_v])).trans (hkI239.getA 1035 rfl)) (((show (u2 (u2 I239 (1000) 25 (v249)) (1000) 25 (v396)) 1036 = I239 1036 from by funext zz; simp [u2_v])).trans (hkI239.getA 1036 rfl)) (by omega) (by omega)) (by omega) nw412.1.1 (by omega) (fun hy => ⟨by rw [show (I444 1000 25).toNatClampNeg = (I406 1000 25).toNatClampNeg from cl_eq (by omega)], by omega, by rw [hen453 hy, enc_v (v := -21) (Or.inr (Or.inr (Or.inr (Or.inr (Or.inr (Or.inr (Or.inr (Or.inl ⟨by omega, rfl⟩))))))))]⟩)
                · have w3 := xI239.1.2 hz; have w4 := nw412.1.2 (by omega); exact cmp_bad1 nw9.1.1 hz (by omega)
              exact m_vret hx hb hr hlocks hM hS (Nat.le_of_ble_eq_true rfl) (Nat.le_of_ble_eq_true rfl) ⟨_, _, rfl, hI, hK, ⟨⟨hcm, fun hz => by rw [show (I444 1000 25).toNatClampNeg = (I406 1000 25).toNatClampNeg from cl_eq (by omega)]; exact nw412.2 (by omega)⟩, by omega, by omega, by omega, (fun hz => by have w0 := xeI444 (by omega); have w1 := xI406.2.2.2.2.1 (by omega); have w2 := xI239.2 (by omega); have w3 := xI1.2.2.2.2.1 (by omega); have w4 := hPI (by omega); omega), hC⟩⟩ dX10_compared_143
    · have hc235 := c235
      have q235 := q_ne hc235
      have sc454 := sx14.n (k := 61) (by omega) (by decide)
      refine lv_iload_n hx hb dX10_compared_21 rfl (lv_at hl 0 rfl) ?_
      refine lv_bipush (v := (62)) hx hb dX10_compared_22 (by decide) ?_
      refine lv_icmp_eq (tgt := 37) hx hb dX10_compared_24 (by decide) (fun c455 => ?_) (fun c455 => ?_)
      · have hc455 := c455
        have q455 := q_eq hc455
        have sg456 := xr11.2.2.2 (by omega)
        have sc457 := sx14.y (k := 62) (by omega) (by decide)
        refine lv_aload_n hx hb dX10_compared_37 rfl (lv_at hl 1 rfl) ?_
        refine lv_aload_n hx hb dX10_compared_38 rfl (lv_at hl 1 rfl) ?_
        refine m_geti (1000) 25 hx hb hts hown hE oc10 hM hJ.1 rfl (by decide) rfl tb_1202 dX10_compared_39 ?_
        have g458 := hI.get (1000) 25 (lo := 0) (hi := 100000) rfl
        refine m_callv (m_runV (1000) (As := [.int (I1 (1000) 25)]) (rest := []) hx hb hml hown hts hE hM hS hA ce_X10_isCounted tb_1548 (V_X10_isCounted_h l D A ad ns I1 L2 G (I1 (1000) 25) hJ hI (fun hz => by have w0 := xI1.2.2.2.2.1 (by omega); have w1 := hPI (by omega); omega) (by first | omega | decide)) rfl rfl ⟨Nat.le_of_ble_eq_true rfl, Nat.le_of_ble_eq_true rfl⟩ hJ.1 rfl rfl (by decide) rfl hl.1 rfl (Nat.le_of_ble_eq_true rfl) dX10_compared_42 ⟨Nat.le_of_ble_eq_true rfl, Nat.le_of_ble_eq_true rfl⟩) hS (fun u H locs hw hM hS => ?_)
        obtain ⟨I459, L460, rfl, hI, hkI459, xI459⟩ := hw
        have hM : Mem D A ad ns I459 L460 G H := hM
        have hK := hK.trans hkI459 rfl
        have pw461 : (I459 (1000) 24).toInt = (I (1000) 24 : Int32).toInt := (congrArg Int32.toInt ((hkI459.get (1000) 24 rfl))).trans pw3
        have pw462 : (I459 (1000) 25).toInt = (I1 (1000) 25 : Int32).toInt := congrArg Int32.toInt ((hkI459.get (1000) 25 rfl))
        have pw463 : (I459 (1000) 27).toInt = (I (1000) 27 : Int32).toInt := (congrArg Int32.toInt ((hkI459.get (1000) 27 rfl))).trans pw4
        have pw464 : (I459 (1000) 29).toInt = (I1 (1000) 29 : Int32).toInt := congrArg Int32.toInt ((hkI459.get (1000) 29 rfl))
        have pw465 : (I459 (1000) 30).toInt = (I (1000) 30 : Int32).toInt := (congrArg Int32.toInt ((hkI459.get (1000) 30 rfl))).trans pw5
        have pw466 : (I459 (1000) 32).toInt = (I (1000) 32 : Int32).toInt := (congrArg Int32.toInt ((hkI459.get (1000) 32 rfl))).trans pw6
        refine lv_aload_n hx hb dX10_compared_45 rfl (lv_at hl 1 rfl) ?_
        refine lv_dup hx hb dX10_compared_46 rfl ?_
        refine m_geti (1000) 25 hx hb hts hown hE oc10 hM hJ.1 rfl (by decide) rfl tb_1202 dX10_compared_47 ?_
        have g467 := hI.get (1000) 25 (lo := 0) (hi := 100000) rfl
        have z468 : I459 (1000) 25 = I1 (1000) 25 := (hkI459.get (1000) 25 rfl)
        rw [z468] at g467 ⊢
        refine lv_iconst (v := (1)) hx hb dX10_compared_50 (by decide) ?_
        refine lv_iadd hx hb dX10_compared_51 ?_
        refine lv_topi (fun v469 ev469 => ?_)
        have tv469 := a_add ev469 (by omega) (by omega)
        refine m_puti (1000) 25 hx hb hts hown hE oc10 hM hS hJ.1 rfl (by decide) rfl rfl rfl rfl tb_1202 dX10_compared_52 (fun H locs I470 eI470 hM hS => ?_)
        subst eI470
        have hI := hI.put (n := 1000) (k := 25) (v := v469) (lo := 0) (hi := 100000) rfl (by first | omega | decide)
        have hK := hK.put (n := 1000) (k := 25) (v := v469) (by first | rfl | simp [inR])
        refine lv_iload_n hx hb dX10_compared_55 rfl (lv_at hl 0 rfl) ?_
        refine lv_bipush (v := (61)) hx hb dX10_compared_56 (by decide) ?_
        refine lv_icmp_eq (tgt := 74) hx hb dX10_compared_58 (by decide) (fun c471 => ?_) (fun c471 => ?_)
        · have hc471 := c471
          have q471 := q_eq hc471
          have sg472 := xr11.2.2.2 (by omega)
          have sc473 := sx14.y (k := 61) (by omega) (by decide)
          refine lv_iconst (v := (0)) hx hb dX10_compared_74 (by decide) ?_
          refine lv_istore_n (lv' := [(2, .int (0)), (1, .int (r11)), (0, .ref (ad (1000)))]) hx hb dX10_compared_75 rfl hl (by decide) rfl (fun ls hl => ?_)
          refine lv_aload_n hx hb dX10_compared_76 rfl (lv_at hl 2 rfl) ?_
          refine lv_dup hx hb dX10_compared_77 rfl ?_
          refine m_geti (1000) 25 hx hb hts hown hE oc10 hM hJ.1 rfl (by decide) rfl tb_1202 dX10_compared_78 ?_
          have g474 := hI.get (1000) 25 (lo := 0) (hi := 100000) rfl
          have z475 : (u2 I459 (1000) 25 (v469)) (1000) 25 = v469 := (show (u2 I459 (1000) 25 (v469)) (1000) 25 = v469 from by simp [u2_v])
          rw [z475] at g474 ⊢
          refine lv_iload_n hx hb dX10_compared_81 rfl (lv_at hl 0 rfl) ?_
          refine lv_if_eq (tgt := 89) hx hb dX10_compared_82 (by decide) (fun c476 => ?_) (fun c476 => ?_)
          · have hc476 := c476
            have q476 := q_eq hc476
            refine lv_iconst (v := (0)) hx hb dX10_compared_89 (by decide) ?_
            refine lv_iadd hx hb dX10_compared_90 ?_
            refine lv_topi (fun v477 ev477 => ?_)
            have tv477 := a_add ev477 (by omega) (by omega)
            refine m_puti (1000) 25 hx hb hts hown hE oc10 hM hS hJ.1 rfl (by decide) rfl rfl rfl rfl tb_1202 dX10_compared_91 (fun H locs I478 eI478 hM hS => ?_)
            subst eI478
            have hI := hI.put (n := 1000) (k := 25) (v := v477) (lo := 0) (hi := 100000) rfl (by first | omega | decide)
            have hK := hK.put (n := 1000) (k := 25) (v := v477) (by first | rfl | simp [inR])
            refine lv_aload_n hx hb dX10_compared_94 rfl (lv_at hl 2 rfl) ?_
            have pw479 : ((u2 (u2 I459 (1000) 25 (v469)) (1000) 25 (v477)) (1000) 24).toInt = (I (1000) 24 : Int32).toInt := (congrArg Int32.toInt ((show (u2 (u2 I459 (1000) 25 (v469)) (1000) 25 (v477)) (1000) 24 = I459 (1000) 24 from by simp [u2_v]))).trans pw461
            have pw480 : ((u2 (u2 I459 (1000) 25 (v469)) (1000) 25 (v477)) (1000) 25).toInt = (v477 : Int32).toInt := congrArg Int32.toInt ((show (u2 (u2 I459 (1000) 25 (v469)) (1000) 25 (v477)) (1000) 25 = v477 from by simp [u2_v]))
            have pw481 : ((u2 (u2 I459 (1000) 25 (v469)) (1000) 25 (v477)) (1000) 26).toInt = (I459 (1000) 26 : Int32).toInt := congrArg Int32.toInt ((show (u2 (u2 I459 (1000) 25 (v469)) (1000) 25 (v477)) (1000) 26 = I459 (1000) 26 from by simp [u2_v]))
            have pw482 : ((u2 (u2 I459 (1000) 25 (v469)) (1000) 25 (v477)) (1000) 27).toInt = (I (1000) 27 : Int32).toInt := (congrArg Int32.toInt ((show (u2 (u2 I459 (1000) 25 (v469)) (1000) 25 (v477)) (1000) 27 = I459 (1000) 27 from by simp [u2_v]))).trans pw463
            have pw483 : ((u2 (u2 I459 (1000) 25 (v469)) (1000) 25 (v477)) (1000) 29).toInt = (I1 (1000) 29 : Int32).toInt := (congrArg Int32.toInt ((show (u2 (u2 I459 (1000) 25 (v469)) (1000) 25 (v477)) (1000) 29 = I459 (1000) 29 from by simp [u2_v]))).trans pw464
            have pw484 : ((u2 (u2 I459 (1000) 25 (v469)) (1000) 25 (v477)) (1000) 30).toInt = (I (1000) 30 : Int32).toInt := (congrArg Int32.toInt ((show (u2 (u2 I459 (1000) 25 (v469)) (1000) 25 (v477)) (1000) 30 = I459 (1000) 30 from by simp [u2_v]))).trans pw465
            have pw485 : ((u2 (u2 I459 (1000) 25 (v469)) (1000) 25 (v477)) (1000) 31).toInt = (I459 (1000) 31 : Int32).toInt := congrArg Int32.toInt ((show (u2 (u2 I459 (1000) 25 (v469)) (1000) 25 (v477)) (1000) 31 = I459 (1000) 31 from by simp [u2_v]))
            have pw486 : ((u2 (u2 I459 (1000) 25 (v469)) (1000) 25 (v477)) (1000) 32).toInt = (I (1000) 32 : Int32).toInt := (congrArg Int32.toInt ((show (u2 (u2 I459 (1000) 25 (v469)) (1000) 25 (v477)) (1000) 32 = I459 (1000) 32 from by simp [u2_v]))).trans pw466
            refine m_callv (m_runV (1000) (As := []) (rest := []) hx hb hml hown hts hE hM hS hA ce_X10_sum tb_1535 (V_X10_sum_h l D A ad ns (u2 (u2 I459 (1000) 25 (v469)) (1000) 25 (v477)) L460 G hJ hI (by omega) (fun hz => by have w0 := xI459.2 (by omega); have w1 := xI1.2.2.2.2.1 (by omega); have w2 := hPI (by omega); omega) (hbt.of (hK.getA 1034 rfl) (hK.get 1000 24 rfl))) rfl rfl ⟨Nat.le_of_ble_eq_true rfl, Nat.le_of_ble_eq_true rfl⟩ hJ.1 rfl rfl (by decide) rfl hl.1 rfl (Nat.le_of_ble_eq_true rfl) dX10_compared_95 ⟨Nat.le_of_ble_eq_true rfl, Nat.le_of_ble_eq_true rfl⟩) hS (fun u H locs hw hM hS => ?_)
            obtain ⟨I487, L488, rfl, hI, hkI487, xI487⟩ := hw
            have hM : Mem D A ad ns I487 L488 G H := hM
            have hK := hK.trans hkI487 rfl
            replace hC := CT.link (I2 := (u2 (u2 I459 (1000) 25 (v469)) (1000) 25 (v477))) hC (((show (u2 (u2 I459 (1000) 25 (v469)) (1000) 25 (v477)) 1035 = I459 1035 from by funext zz; simp [u2_v])).trans (hkI459.getA 1035 rfl)) (((show (u2 (u2 I459 (1000) 25 (v469)) (1000) 25 (v477)) 1036 = I459 1036 from by funext zz; simp [u2_v])).trans (hkI459.getA 1036 rfl)) (by omega) (fun hz => by have w0 := xI459.2 (by omega); have w1 := xI1.2.2.2.2.1 (by omega); have w2 := hPI (by omega); omega)
            have pw489 : (I487 (1000) 24).toInt = (I (1000) 24 : Int32).toInt := (congrArg Int32.toInt ((hkI487.get (1000) 24 rfl))).trans pw479
            have pw490 : (I487 (1000) 27).toInt = (I (1000) 27 : Int32).toInt := (congrArg Int32.toInt ((hkI487.get (1000) 27 rfl))).trans pw482
            have pw491 : (I487 (1000) 30).toInt = (I (1000) 30 : Int32).toInt := (congrArg Int32.toInt ((hkI487.get (1000) 30 rfl))).trans pw484
            have pw492 : (I487 (1000) 32).toInt = (I (1000) 32 : Int32).toInt := (congrArg Int32.toInt ((hkI487.get (1000) 32 rfl))).trans pw486
            replace hC := hC.comp ((xI487.2.2.2.2.2).mono0 (1 + (0))) (by omega) (by omega) (by omega) (by omega) (fun hz => (xI487.2.2.2.2.1 hz).1)
            have nw493 := xI487.1
            rw [show TM (u2 (u2 I459 (1000) 25 (v469)) (1000) 25 (v477)) = TM I from (TM_of (hkI487.getA 1034 rfl) (hkI487.get 1000 24 rfl)).symm.trans (TM_of (hK.getA 1034 rfl) (hK.get 1000 24 rfl))] at nw493
            have hIs494 := hI
            refine lv_aload_n hx hb dX10_compared_98 rfl (lv_at hl 2 rfl) ?_
            refine lv_iload_n hx hb dX10_compared_99 rfl (lv_at hl 1 rfl) ?_
            refine lv_bipush (v := (61)) hx hb dX10_compared_100 (by decide) ?_
            refine lv_icmp_ne (tgt := 110) hx hb dX10_compared_102 (by decide) (fun c495 => ?_) (fun c495 => ?_)
            · have hc495 := c495
              have q495 := q_ne hc495
              have sc496 := sx14.n (k := 61) (by omega) (by decide)
              refine lv_iload_n hx hb dX10_compared_110 rfl (lv_at hl 1 rfl) ?_
              refine lv_bipush (v := (60)) hx hb dX10_compared_111 (by decide) ?_
              refine lv_icmp_ne (tgt := 128) hx hb dX10_compared_113 (by decide) (fun c497 => ?_) (fun c497 => ?_)
              · have hc497 := c497
                have q497 := q_ne hc497
                have sc498 := sx14.n (k := 60) (by omega) (by decide)
                refine lv_iload_n hx hb dX10_compared_128 rfl (lv_at hl 0 rfl) ?_
                refine lv_if_eq (tgt := 137) hx hb dX10_compared_129 (by decide) (fun c499 => ?_) (fun c499 => ?_)
                · have hc499 := c499
                  have q499 := q_eq hc499
                  refine lv_bipush (v := (8)) hx hb dX10_compared_137 (by decide) ?_
                  refine lv_iconst (v := (0)) hx hb dX10_compared_139 (by decide) ?_
                  refine m_callv (m_runV (1000) (As := [.int (8), .int (0)]) (rest := []) hx hb hml hown hts hE hM hS hA ce_X10_entry tb_1552 (V_X10_entry_h l D A ad ns I487 L488 G (8) (0) hJ hI (fun hz => by have w0 := xI487.2.2.2.2.1 (by omega); have w1 := xI459.2 (by omega); have w2 := xI1.2.2.2.2.1 (by omega); have w3 := hPI (by omega); omega)) rfl rfl ⟨Nat.le_of_ble_eq_true rfl, Nat.le_of_ble_eq_true rfl⟩ hJ.1 rfl rfl (by decide) rfl hl.1 rfl (Nat.le_of_ble_eq_true rfl) dX10_compared_140 ⟨Nat.le_of_ble_eq_true rfl, Nat.le_of_ble_eq_true rfl⟩) hS (fun u H locs hw hM hS => ?_)
                  obtain ⟨I500, L501, rfl, hI, hkI500, xI500⟩ := hw
                  have hM : Mem D A ad ns I500 L501 G H := hM
                  have hK := hK.trans hkI500 rfl
                  have pw502 : (I500 (1000) 24).toInt = (I (1000) 24 : Int32).toInt := (congrArg Int32.toInt ((hkI500.get (1000) 24 rfl))).trans pw489
                  have pw503 : (I500 (1000) 25).toInt = (I487 (1000) 25 : Int32).toInt := congrArg Int32.toInt ((hkI500.get (1000) 25 rfl))
                  have pw504 : (I500 (1000) 26).toInt = (I487 (1000) 26 : Int32).toInt := congrArg Int32.toInt ((hkI500.get (1000) 26 rfl))
                  have pw505 : (I500 (1000) 27).toInt = (I (1000) 27 : Int32).toInt := (congrArg Int32.toInt ((hkI500.get (1000) 27 rfl))).trans pw490
                  have pw506 : (I500 (1000) 30).toInt = (I (1000) 30 : Int32).toInt := (congrArg Int32.toInt ((hkI500.get (1000) 30 rfl))).trans pw491
                  have pw507 : (I500 (1000) 31).toInt = (I487 (1000) 31 : Int32).toInt := congrArg Int32.toInt ((hkI500.get (1000) 31 rfl))
                  have pw508 : (I500 (1000) 32).toInt = (I (1000) 32 : Int32).toInt := (congrArg Int32.toInt ((hkI500.get (1000) 32 rfl))).trans pw492
                  replace hC := hC.comp (n2 := 1) (xI500.2.2.2.2.2.ct (by omega) (by omega) xI500.2.2.2.1 (by omega)) (by omega) (by omega) (by omega) (by omega) (fun hz => by omega)
                  have xeI500 : Imp ((I500 1000 26).toInt = 0) ((I500 1000 29).toInt = (I487 1000 29).toInt + 1) := fun hz => xI500.2.2.2.1 (by omega)
                  have hen509 : Imp ((I487 1000 26).toInt = 0) (RC I500 = RC I487 ++ [enc (8 : Int32).toInt (0 : Int32).toInt]) := fun hz => RC_ent xI500.2.2.2.2.2 hz (by omega) (by omega) (xI500.2.2.2.1 hz)
                  have z1 := tn (i := I1 1000 25) (by omega)
                  have gR5 := RC_len (J := I1) (hIs10.get 1000 29 (lo := 0) (hi := 300) rfl).1
                  have gR6 := hIs10.get 1000 29 (lo := 0) (hi := 300) rfl
                  have hcm : CMP (TM I) I I500 := by
                    by_cases hz : (I1 1000 26).toInt = 0
                    · have w0 := nw9.2.na hz; have w3 := xI459.1.1 hz; have w4 := nw493.1.2
                      have htk := tk_cm2 (T := TM I) (q := (I1 1000 25).toNatClampNeg) (by omega)
                      by_cases hc6 : (I1 1000 31).toInt = 60
                      · have w5 := w3.1 hc6; have w6 := w4 (by omega); exact cmp_many hT nw9.1.1 hz (by rw [w0.1]; omega) hc6 (by rw [w0.1]; omega)
                      · have w5 := w3.2 hc6; have w6 := xI459.2 w5; have z5 := tn (i := (u2 (u2 I459 (1000) 25 (v469)) (1000) 25 (v477)) 1000 25) (by omega); exact cmp_ok (o := -23) (J2 := (u2 (u2 I459 (1000) 25 (v469)) (1000) 25 (v477))) (J3 := I487) hT nw9.1.1 hz (by rw [w0.1]; omega) (by rw [w0.1]; omega) (by omega) (by omega) (by rw [w0.1]; omega) (by omega) (RC_of (J := I1) (J2 := (u2 (u2 I459 (1000) 25 (v469)) (1000) 25 (v477))) (((show (u2 (u2 I459 (1000) 25 (v469)) (1000) 25 (v477)) 1035 = I459 1035 from by funext zz; simp [u2_v])).trans (hkI459.getA 1035 rfl)) (((show (u2 (u2 I459 (1000) 25 (v469)) (1000) 25 (v477)) 1036 = I459 1036 from by funext zz; simp [u2_v])).trans (hkI459.getA 1036 rfl)) (by omega) (by omega)) (by omega) nw493.1.1 (by omega) (fun hy => ⟨by rw [show (I500 1000 25).toNatClampNeg = (I487 1000 25).toNatClampNeg from cl_eq (by omega)], by omega, by rw [hen509 hy, enc_v (v := -23) (Or.inr (Or.inr (Or.inr (Or.inr (Or.inr (Or.inr (Or.inr (Or.inr (Or.inr (Or.inl ⟨by omega, rfl⟩))))))))))]⟩)
                    · have w3 := xI459.1.2 hz; have w4 := nw493.1.2 (by omega); exact cmp_bad1 nw9.1.1 hz (by omega)
                  exact m_vret hx hb hr hlocks hM hS (Nat.le_of_ble_eq_true rfl) (Nat.le_of_ble_eq_true rfl) ⟨_, _, rfl, hI, hK, ⟨⟨hcm, fun hz => by rw [show (I500 1000 25).toNatClampNeg = (I487 1000 25).toNatClampNeg from cl_eq (by omega)]; exact nw493.2 (by omega)⟩, by omega, by omega, by omega, (fun hz => by have w0 := xeI500 (by omega); have w1 := xI487.2.2.2.2.1 (by omega); have w2 := xI459.2 (by omega); have w3 := xI1.2.2.2.2.1 (by omega); have w4 := hPI (by omega); omega), hC⟩⟩ dX10_compared_143
                · exact absurd c499 (by decide)
              · have hc497 := c497
                have q497 := q_eq hc497
                have sg510 := xr11.2.2.2 (by omega)
                have sc511 := sx14.y (k := 60) (by omega) (by decide)
                refine lv_iload_n hx hb dX10_compared_116 rfl (lv_at hl 0 rfl) ?_
                refine lv_if_eq (tgt := 124) hx hb dX10_compared_117 (by decide) (fun c512 => ?_) (fun c512 => ?_)
                · have hc512 := c512
                  have q512 := q_eq hc512
                  refine lv_iconst (v := (4)) hx hb dX10_compared_124 (by decide) ?_
                  refine lv_goto (tgt := 139) hx hb dX10_compared_125 (by decide) ?_
                  refine lv_iconst (v := (0)) hx hb dX10_compared_139 (by decide) ?_
                  refine m_callv (m_runV (1000) (As := [.int (4), .int (0)]) (rest := []) hx hb hml hown hts hE hM hS hA ce_X10_entry tb_1552 (V_X10_entry_h l D A ad ns I487 L488 G (4) (0) hJ hI (fun hz => by have w0 := xI487.2.2.2.2.1 (by omega); have w1 := xI459.2 (by omega); have w2 := xI1.2.2.2.2.1 (by omega); have w3 := hPI (by omega); omega)) rfl rfl ⟨Nat.le_of_ble_eq_true rfl, Nat.le_of_ble_eq_true rfl⟩ hJ.1 rfl rfl (by decide) rfl hl.1 rfl (Nat.le_of_ble_eq_true rfl) dX10_compared_140 ⟨Nat.le_of_ble_eq_true rfl, Nat.le_of_ble_eq_true rfl⟩) hS (fun u H locs hw hM hS => ?_)
                  obtain ⟨I513, L514, rfl, hI, hkI513, xI513⟩ := hw
                  have hM : Mem D A ad ns I513 L514 G H := hM
                  have hK := hK.trans hkI513 rfl
                  have pw515 : (I513 (1000) 24).toInt = (I (1000) 24 : Int32).toInt := (congrArg Int32.toInt ((hkI513.get (1000) 24 rfl))).trans pw489
                  have pw516 : (I513 (1000) 25).toInt = (I487 (1000) 25 : Int32).toInt := congrArg Int32.toInt ((hkI513.get (1000) 25 rfl))
                  have pw517 : (I513 (1000) 26).toInt = (I487 (1000) 26 : Int32).toInt := congrArg Int32.toInt ((hkI513.get (1000) 26 rfl))
                  have pw518 : (I513 (1000) 27).toInt = (I (1000) 27 : Int32).toInt := (congrArg Int32.toInt ((hkI513.get (1000) 27 rfl))).trans pw490
                  have pw519 : (I513 (1000) 30).toInt = (I (1000) 30 : Int32).toInt := (congrArg Int32.toInt ((hkI513.get (1000) 30 rfl))).trans pw491
                  have pw520 : (I513 (1000) 31).toInt = (I487 (1000) 31 : Int32).toInt := congrArg Int32.toInt ((hkI513.get (1000) 31 rfl))
                  have pw521 : (I513 (1000) 32).toInt = (I (1000) 32 : Int32).toInt := (congrArg Int32.toInt ((hkI513.get (1000) 32 rfl))).trans pw492
                  replace hC := hC.comp (n2 := 1) (xI513.2.2.2.2.2.ct (by omega) (by omega) xI513.2.2.2.1 (by omega)) (by omega) (by omega) (by omega) (by omega) (fun hz => by omega)
                  have xeI513 : Imp ((I513 1000 26).toInt = 0) ((I513 1000 29).toInt = (I487 1000 29).toInt + 1) := fun hz => xI513.2.2.2.1 (by omega)
                  have hen522 : Imp ((I487 1000 26).toInt = 0) (RC I513 = RC I487 ++ [enc (4 : Int32).toInt (0 : Int32).toInt]) := fun hz => RC_ent xI513.2.2.2.2.2 hz (by omega) (by omega) (xI513.2.2.2.1 hz)
                  have z1 := tn (i := I1 1000 25) (by omega)
                  have gR5 := RC_len (J := I1) (hIs10.get 1000 29 (lo := 0) (hi := 300) rfl).1
                  have gR6 := hIs10.get 1000 29 (lo := 0) (hi := 300) rfl
                  have hcm : CMP (TM I) I I513 := by
                    by_cases hz : (I1 1000 26).toInt = 0
                    · have w0 := nw9.2.na hz; have w3 := xI459.1.1 hz; have w4 := nw493.1.2
                      have htk := tk_cm2 (T := TM I) (q := (I1 1000 25).toNatClampNeg) (by omega)
                      by_cases hc6 : (I1 1000 31).toInt = 60
                      · have w5 := w3.1 hc6; have w6 := w4 (by omega); exact cmp_many hT nw9.1.1 hz (by rw [w0.1]; omega) hc6 (by rw [w0.1]; omega)
                      · have w5 := w3.2 hc6; have w6 := xI459.2 w5; have z5 := tn (i := (u2 (u2 I459 (1000) 25 (v469)) (1000) 25 (v477)) 1000 25) (by omega); exact cmp_ok (o := -19) (J2 := (u2 (u2 I459 (1000) 25 (v469)) (1000) 25 (v477))) (J3 := I487) hT nw9.1.1 hz (by rw [w0.1]; omega) (by rw [w0.1]; omega) (by omega) (by omega) (by rw [w0.1]; omega) (by omega) (RC_of (J := I1) (J2 := (u2 (u2 I459 (1000) 25 (v469)) (1000) 25 (v477))) (((show (u2 (u2 I459 (1000) 25 (v469)) (1000) 25 (v477)) 1035 = I459 1035 from by funext zz; simp [u2_v])).trans (hkI459.getA 1035 rfl)) (((show (u2 (u2 I459 (1000) 25 (v469)) (1000) 25 (v477)) 1036 = I459 1036 from by funext zz; simp [u2_v])).trans (hkI459.getA 1036 rfl)) (by omega) (by omega)) (by omega) nw493.1.1 (by omega) (fun hy => ⟨by rw [show (I513 1000 25).toNatClampNeg = (I487 1000 25).toNatClampNeg from cl_eq (by omega)], by omega, by rw [hen522 hy, enc_v (v := -19) (Or.inr (Or.inr (Or.inr (Or.inr (Or.inr (Or.inl ⟨by omega, rfl⟩))))))]⟩)
                    · have w3 := xI459.1.2 hz; have w4 := nw493.1.2 (by omega); exact cmp_bad1 nw9.1.1 hz (by omega)
                  exact m_vret hx hb hr hlocks hM hS (Nat.le_of_ble_eq_true rfl) (Nat.le_of_ble_eq_true rfl) ⟨_, _, rfl, hI, hK, ⟨⟨hcm, fun hz => by rw [show (I513 1000 25).toNatClampNeg = (I487 1000 25).toNatClampNeg from cl_eq (by omega)]; exact nw493.2 (by omega)⟩, by omega, by omega, by omega, (fun hz => by have w0 := xeI513 (by omega); have w1 := xI487.2.2.2.2.1 (by omega); have w2 := xI459.2 (by omega); have w3 := xI1.2.2.2.2.1 (by omega); have w4 := hPI (by omega); omega), hC⟩⟩ dX10_compared_143
                · exact absurd c512 (by decide)
            · have hc495 := c495
              have q495 := q_eq hc495
              have sg523 := xr11.2.2.2 (by omega)
              have sc524 := sx14.y (k := 61) (by omega) (by decide)
              refine lv_bipush (v := (6)) hx hb dX10_compared_105 (by decide) ?_
              refine lv_goto (tgt := 139) hx hb dX10_compared_107 (by decide) ?_
              refine lv_iconst (v := (0)) hx hb dX10_compared_139 (by decide) ?_
              refine m_callv (m_runV (1000) (As := [.int (6), .int (0)]) (rest := []) hx hb hml hown hts hE hM hS hA ce_X10_entry tb_1552 (V_X10_entry_h l D A ad ns I487 L488 G (6) (0) hJ hI (fun hz => by have w0 := xI487.2.2.2.2.1 (by omega); have w1 := xI459.2 (by omega); have w2 := xI1.2.2.2.2.1 (by omega); have w3 := hPI (by omega); omega)) rfl rfl ⟨Nat.le_of_ble_eq_true rfl, Nat.le_of_ble_eq_true rfl⟩ hJ.1 rfl rfl (by decide) rfl hl.1 rfl (Nat.le_of_ble_eq_true rfl) dX10_compared_140 ⟨Nat.le_of_ble_eq_true rfl, Nat.le_of_ble_eq_true rfl⟩) hS (fun u H locs hw hM hS => ?_)
              obtain ⟨I525, L526, rfl, hI, hkI525, xI525⟩ := hw
              have hM : Mem D A ad ns I525 L526 G H := hM
              have hK := hK.trans hkI525 rfl
              have pw527 : (I525 (1000) 24).toInt = (I (1000) 24 : Int32).toInt := (congrArg Int32.toInt ((hkI525.get (1000) 24 rfl))).trans pw489
              have pw528 : (I525 (1000) 25).toInt = (I487 (1000) 25 : Int32).toInt := congrArg Int32.toInt ((hkI525.get (1000) 25 rfl))
              have pw529 : (I525 (1000) 26).toInt = (I487 (1000) 26 : Int32).toInt := congrArg Int32.toInt ((hkI525.get (1000) 26 rfl))
              have pw530 : (I525 (1000) 27).toInt = (I (1000) 27 : Int32).toInt := (congrArg Int32.toInt ((hkI525.get (1000) 27 rfl))).trans pw490
              have pw531 : (I525 (1000) 30).toInt = (I (1000) 30 : Int32).toInt := (congrArg Int32.toInt ((hkI525.get (1000) 30 rfl))).trans pw491
              have pw532 : (I525 (1000) 31).toInt = (I487 (1000) 31 : Int32).toInt := congrArg Int32.toInt ((hkI525.get (1000) 31 rfl))
              have pw533 : (I525 (1000) 32).toInt = (I (1000) 32 : Int32).toInt := (congrArg Int32.toInt ((hkI525.get (1000) 32 rfl))).trans pw492
              replace hC := hC.comp (n2 := 1) (xI525.2.2.2.2.2.ct (by omega) (by omega) xI525.2.2.2.1 (by omega)) (by omega) (by omega) (by omega) (by omega) (fun hz => by omega)
              have xeI525 : Imp ((I525 1000 26).toInt = 0) ((I525 1000 29).toInt = (I487 1000 29).toInt + 1) := fun hz => xI525.2.2.2.1 (by omega)
              have hen534 : Imp ((I487 1000 26).toInt = 0) (RC I525 = RC I487 ++ [enc (6 : Int32).toInt (0 : Int32).toInt]) := fun hz => RC_ent xI525.2.2.2.2.2 hz (by omega) (by omega) (xI525.2.2.2.1 hz)
              have z1 := tn (i := I1 1000 25) (by omega)
              have gR5 := RC_len (J := I1) (hIs10.get 1000 29 (lo := 0) (hi := 300) rfl).1
              have gR6 := hIs10.get 1000 29 (lo := 0) (hi := 300) rfl
              have hcm : CMP (TM I) I I525 := by
                by_cases hz : (I1 1000 26).toInt = 0
                · have w0 := nw9.2.na hz; have w3 := xI459.1.1 hz; have w4 := nw493.1.2
                  have htk := tk_cm2 (T := TM I) (q := (I1 1000 25).toNatClampNeg) (by omega)
                  by_cases hc6 : (I1 1000 31).toInt = 60
                  · have w5 := w3.1 hc6; have w6 := w4 (by omega); exact cmp_many hT nw9.1.1 hz (by rw [w0.1]; omega) hc6 (by rw [w0.1]; omega)
                  · have w5 := w3.2 hc6; have w6 := xI459.2 w5; have z5 := tn (i := (u2 (u2 I459 (1000) 25 (v469)) (1000) 25 (v477)) 1000 25) (by omega); exact cmp_ok (o := -21) (J2 := (u2 (u2 I459 (1000) 25 (v469)) (1000) 25 (v477))) (J3 := I487) hT nw9.1.1 hz (by rw [w0.1]; omega) (by rw [w0.1]; omega) (by omega) (by omega) (by rw [w0.1]; omega) (by omega) (RC_of (J := I1) (J2 := (u2 (u2 I459 (1000) 25 (v469)) (1000) 25 (v477))) (((show (u2 (u2 I459 (1000) 25 (v469)) (1000) 25 (v477)) 1035 = I459 1035 from by funext zz; simp [u2_v])).trans (hkI459.getA 1035 rfl)) (((show (u2 (u2 I459 (1000) 25 (v469)) (1000) 25 (v477)) 1036 = I459 1036 from by funext zz; simp [u2_v])).trans (hkI459.getA 1036 rfl)) (by omega) (by omega)) (by omega) nw493.1.1 (by omega) (fun hy => ⟨by rw [show (I525 1000 25).toNatClampNeg = (I487 1000 25).toNatClampNeg from cl_eq (by omega)], by omega, by rw [hen534 hy, enc_v (v := -21) (Or.inr (Or.inr (Or.inr (Or.inr (Or.inr (Or.inr (Or.inr (Or.inl ⟨by omega, rfl⟩))))))))]⟩)
                · have w3 := xI459.1.2 hz; have w4 := nw493.1.2 (by omega); exact cmp_bad1 nw9.1.1 hz (by omega)
              exact m_vret hx hb hr hlocks hM hS (Nat.le_of_ble_eq_true rfl) (Nat.le_of_ble_eq_true rfl) ⟨_, _, rfl, hI, hK, ⟨⟨hcm, fun hz => by rw [show (I525 1000 25).toNatClampNeg = (I487 1000 25).toNatClampNeg from cl_eq (by omega)]; exact nw493.2 (by omega)⟩, by omega, by omega, by omega, (fun hz => by have w0 := xeI525 (by omega); have w1 := xI487.2.2.2.2.1 (by omega); have w2 := xI459.2 (by omega); have w3 := xI1.2.2.2.2.1 (by omega); have w4 := hPI (by omega); omega), hC⟩⟩ dX10_compared_143
          · exact absurd c476 (by decide)
        · have hc471 := c471
          have q471 := q_ne hc471
          have sc535 := sx14.n (k := 61) (by omega) (by decide)
          refine lv_aload_n hx hb dX10_compared_61 rfl (lv_at hl 1 rfl) ?_
          have pw536 : ((u2 I459 (1000) 25 (v469)) (1000) 24).toInt = (I (1000) 24 : Int32).toInt := (congrArg Int32.toInt ((show (u2 I459 (1000) 25 (v469)) (1000) 24 = I459 (1000) 24 from by simp [u2_v]))).trans pw461
          have pw537 : ((u2 I459 (1000) 25 (v469)) (1000) 25).toInt = (v469 : Int32).toInt := congrArg Int32.toInt ((show (u2 I459 (1000) 25 (v469)) (1000) 25 = v469 from by simp [u2_v]))
          have pw538 : ((u2 I459 (1000) 25 (v469)) (1000) 26).toInt = (I459 (1000) 26 : Int32).toInt := congrArg Int32.toInt ((show (u2 I459 (1000) 25 (v469)) (1000) 26 = I459 (1000) 26 from by simp [u2_v]))
          have pw539 : ((u2 I459 (1000) 25 (v469)) (1000) 27).toInt = (I (1000) 27 : Int32).toInt := (congrArg Int32.toInt ((show (u2 I459 (1000) 25 (v469)) (1000) 27 = I459 (1000) 27 from by simp [u2_v]))).trans pw463
          have pw540 : ((u2 I459 (1000) 25 (v469)) (1000) 29).toInt = (I1 (1000) 29 : Int32).toInt := (congrArg Int32.toInt ((show (u2 I459 (1000) 25 (v469)) (1000) 29 = I459 (1000) 29 from by simp [u2_v]))).trans pw464
          have pw541 : ((u2 I459 (1000) 25 (v469)) (1000) 30).toInt = (I (1000) 30 : Int32).toInt := (congrArg Int32.toInt ((show (u2 I459 (1000) 25 (v469)) (1000) 30 = I459 (1000) 30 from by simp [u2_v]))).trans pw465
          have pw542 : ((u2 I459 (1000) 25 (v469)) (1000) 31).toInt = (I459 (1000) 31 : Int32).toInt := congrArg Int32.toInt ((show (u2 I459 (1000) 25 (v469)) (1000) 31 = I459 (1000) 31 from by simp [u2_v]))
          have pw543 : ((u2 I459 (1000) 25 (v469)) (1000) 32).toInt = (I (1000) 32 : Int32).toInt := (congrArg Int32.toInt ((show (u2 I459 (1000) 25 (v469)) (1000) 32 = I459 (1000) 32 from by simp [u2_v]))).trans pw466
          refine m_calli (m_runV (1000) (As := []) (rest := []) hx hb hml hown hts hE hM hS hA ce_X10_sign tb_1510 (V_X10_sign_h l D A ad ns (u2 I459 (1000) 25 (v469)) L460 G hJ hI) rfl rfl ⟨Nat.le_of_ble_eq_true rfl, Nat.le_of_ble_eq_true rfl⟩ hJ.1 rfl rfl (by decide) rfl hl.1 rfl (Nat.le_of_ble_eq_true rfl) dX10_compared_62 ⟨Nat.le_of_ble_eq_true rfl, Nat.le_of_ble_eq_true rfl⟩) hS (fun r544 u H locs hw hM hS => ?_)
          obtain ⟨rfl, xr544⟩ := hw
          have hM : Mem D A ad ns (u2 I459 (1000) 25 (v469)) L460 G H := hM
          have g545 := hI.get 1000 24 (lo := 0) (hi := 400) rfl
          have g546 := hI.get 1000 25 (lo := 0) (hi := 100000) rfl
          have sx547 := xr544.1
          rw [show TM (u2 I459 (1000) 25 (v469)) = TM I from (TM_of (hK.getA 1034 rfl) (hK.get 1000 24 rfl))] at sx547
          refine lv_bipush (v := (61)) hx hb dX10_compared_65 (by decide) ?_
          refine lv_icmp_ne (tgt := 74) hx hb dX10_compared_67 (by decide) (fun c548 => ?_) (fun c548 => ?_)
          · have hc548 := c548
            have q548 := q_ne hc548
            have sc549 := sx547.n (k := 61) (by omega) (by decide)
            refine lv_iconst (v := (0)) hx hb dX10_compared_74 (by decide) ?_
            refine lv_istore_n (lv' := [(2, .int (0)), (1, .int (r11)), (0, .ref (ad (1000)))]) hx hb dX10_compared_75 rfl hl (by decide) rfl (fun ls hl => ?_)
            refine lv_aload_n hx hb dX10_compared_76 rfl (lv_at hl 2 rfl) ?_
            refine lv_dup hx hb dX10_compared_77 rfl ?_
            refine m_geti (1000) 25 hx hb hts hown hE oc10 hM hJ.1 rfl (by decide) rfl tb_1202 dX10_compared_78 ?_
            have g550 := hI.get (1000) 25 (lo := 0) (hi := 100000) rfl
            have z551 : (u2 I459 (1000) 25 (v469)) (1000) 25 = v469 := (show (u2 I459 (1000) 25 (v469)) (1000) 25 = v469 from by simp [u2_v])
            rw [z551] at g550 ⊢
            refine lv_iload_n hx hb dX10_compared_81 rfl (lv_at hl 0 rfl) ?_
            refine lv_if_eq (tgt := 89) hx hb dX10_compared_82 (by decide) (fun c552 => ?_) (fun c552 => ?_)
            · have hc552 := c552
              have q552 := q_eq hc552
              refine lv_iconst (v := (0)) hx hb dX10_compared_89 (by decide) ?_
              refine lv_iadd hx hb dX10_compared_90 ?_
              refine lv_topi (fun v553 ev553 => ?_)
              have tv553 := a_add ev553 (by omega) (by omega)
              refine m_puti (1000) 25 hx hb hts hown hE oc10 hM hS hJ.1 rfl (by decide) rfl rfl rfl rfl tb_1202 dX10_compared_91 (fun H locs I554 eI554 hM hS => ?_)
              subst eI554
              have hI := hI.put (n := 1000) (k := 25) (v := v553) (lo := 0) (hi := 100000) rfl (by first | omega | decide)
              have hK := hK.put (n := 1000) (k := 25) (v := v553) (by first | rfl | simp [inR])
              refine lv_aload_n hx hb dX10_compared_94 rfl (lv_at hl 2 rfl) ?_
              have pw555 : ((u2 (u2 I459 (1000) 25 (v469)) (1000) 25 (v553)) (1000) 24).toInt = (I (1000) 24 : Int32).toInt := (congrArg Int32.toInt ((show (u2 (u2 I459 (1000) 25 (v469)) (1000) 25 (v553)) (1000) 24 = (u2 I459 (1000) 25 (v469)) (1000) 24 from by simp [u2_v]))).trans pw536
              have pw556 : ((u2 (u2 I459 (1000) 25 (v469)) (1000) 25 (v553)) (1000) 25).toInt = (v553 : Int32).toInt := congrArg Int32.toInt ((show (u2 (u2 I459 (1000) 25 (v469)) (1000) 25 (v553)) (1000) 25 = v553 from by simp [u2_v]))
              have pw557 : ((u2 (u2 I459 (1000) 25 (v469)) (1000) 25 (v553)) (1000) 26).toInt = (I459 (1000) 26 : Int32).toInt := (congrArg Int32.toInt ((show (u2 (u2 I459 (1000) 25 (v469)) (1000) 25 (v553)) (1000) 26 = (u2 I459 (1000) 25 (v469)) (1000) 26 from by simp [u2_v]))).trans pw538
              have pw558 : ((u2 (u2 I459 (1000) 25 (v469)) (1000) 25 (v553)) (1000) 27).toInt = (I (1000) 27 : Int32).toInt := (congrArg Int32.toInt ((show (u2 (u2 I459 (1000) 25 (v469)) (1000) 25 (v553)) (1000) 27 = (u2 I459 (1000) 25 (v469)) (1000) 27 from by simp [u2_v]))).trans pw539
              have pw559 : ((u2 (u2 I459 (1000) 25 (v469)) (1000) 25 (v553)) (1000) 29).toInt = (I1 (1000) 29 : Int32).toInt := (congrArg Int32.toInt ((show (u2 (u2 I459 (1000) 25 (v469)) (1000) 25 (v553)) (1000) 29 = (u2 I459 (1000) 25 (v469)) (1000) 29 from by simp [u2_v]))).trans pw540
              have pw560 : ((u2 (u2 I459 (1000) 25 (v469)) (1000) 25 (v553)) (1000) 30).toInt = (I (1000) 30 : Int32).toInt := (congrArg Int32.toInt ((show (u2 (u2 I459 (1000) 25 (v469)) (1000) 25 (v553)) (1000) 30 = (u2 I459 (1000) 25 (v469)) (1000) 30 from by simp [u2_v]))).trans pw541
              have pw561 : ((u2 (u2 I459 (1000) 25 (v469)) (1000) 25 (v553)) (1000) 31).toInt = (I459 (1000) 31 : Int32).toInt := (congrArg Int32.toInt ((show (u2 (u2 I459 (1000) 25 (v469)) (1000) 25 (v553)) (1000) 31 = (u2 I459 (1000) 25 (v469)) (1000) 31 from by simp [u2_v]))).trans pw542
              have pw562 : ((u2 (u2 I459 (1000) 25 (v469)) (1000) 25 (v553)) (1000) 32).toInt = (I (1000) 32 : Int32).toInt := (congrArg Int32.toInt ((show (u2 (u2 I459 (1000) 25 (v469)) (1000) 25 (v553)) (1000) 32 = (u2 I459 (1000) 25 (v469)) (1000) 32 from by simp [u2_v]))).trans pw543
              refine m_callv (m_runV (1000) (As := []) (rest := []) hx hb hml hown hts hE hM hS hA ce_X10_sum tb_1535 (V_X10_sum_h l D A ad ns (u2 (u2 I459 (1000) 25 (v469)) (1000) 25 (v553)) L460 G hJ hI (by omega) (fun hz => by have w0 := xI459.2 (by omega); have w1 := xI1.2.2.2.2.1 (by omega); have w2 := hPI (by omega); omega) (hbt.of (hK.getA 1034 rfl) (hK.get 1000 24 rfl))) rfl rfl ⟨Nat.le_of_ble_eq_true rfl, Nat.le_of_ble_eq_true rfl⟩ hJ.1 rfl rfl (by decide) rfl hl.1 rfl (Nat.le_of_ble_eq_true rfl) dX10_compared_95 ⟨Nat.le_of_ble_eq_true rfl, Nat.le_of_ble_eq_true rfl⟩) hS (fun u H locs hw hM hS => ?_)
              obtain ⟨I563, L564, rfl, hI, hkI563, xI563⟩ := hw
              have hM : Mem D A ad ns I563 L564 G H := hM
              have hK := hK.trans hkI563 rfl
              replace hC := CT.link (I2 := (u2 (u2 I459 (1000) 25 (v469)) (1000) 25 (v553))) hC (((show (u2 (u2 I459 (1000) 25 (v469)) (1000) 25 (v553)) 1035 = I459 1035 from by funext zz; simp [u2_v])).trans (hkI459.getA 1035 rfl)) (((show (u2 (u2 I459 (1000) 25 (v469)) (1000) 25 (v553)) 1036 = I459 1036 from by funext zz; simp [u2_v])).trans (hkI459.getA 1036 rfl)) (by omega) (fun hz => by have w0 := xI459.2 (by omega); have w1 := xI1.2.2.2.2.1 (by omega); have w2 := hPI (by omega); omega)
              have pw565 : (I563 (1000) 24).toInt = (I (1000) 24 : Int32).toInt := (congrArg Int32.toInt ((hkI563.get (1000) 24 rfl))).trans pw555
              have pw566 : (I563 (1000) 27).toInt = (I (1000) 27 : Int32).toInt := (congrArg Int32.toInt ((hkI563.get (1000) 27 rfl))).trans pw558
              have pw567 : (I563 (1000) 30).toInt = (I (1000) 30 : Int32).toInt := (congrArg Int32.toInt ((hkI563.get (1000) 30 rfl))).trans pw560
              have pw568 : (I563 (1000) 32).toInt = (I (1000) 32 : Int32).toInt := (congrArg Int32.toInt ((hkI563.get (1000) 32 rfl))).trans pw562
              replace hC := hC.comp ((xI563.2.2.2.2.2).mono0 (1 + (0))) (by omega) (by omega) (by omega) (by omega) (fun hz => (xI563.2.2.2.2.1 hz).1)
              have nw569 := xI563.1
              rw [show TM (u2 (u2 I459 (1000) 25 (v469)) (1000) 25 (v553)) = TM I from (TM_of (hkI563.getA 1034 rfl) (hkI563.get 1000 24 rfl)).symm.trans (TM_of (hK.getA 1034 rfl) (hK.get 1000 24 rfl))] at nw569
              have hIs570 := hI
              refine lv_aload_n hx hb dX10_compared_98 rfl (lv_at hl 2 rfl) ?_
              refine lv_iload_n hx hb dX10_compared_99 rfl (lv_at hl 1 rfl) ?_
              refine lv_bipush (v := (61)) hx hb dX10_compared_100 (by decide) ?_
              refine lv_icmp_ne (tgt := 110) hx hb dX10_compared_102 (by decide) (fun c571 => ?_) (fun c571 => ?_)
              · have hc571 := c571
                have q571 := q_ne hc571
                have sc572 := sx14.n (k := 61) (by omega) (by decide)
                refine lv_iload_n hx hb dX10_compared_110 rfl (lv_at hl 1 rfl) ?_
                refine lv_bipush (v := (60)) hx hb dX10_compared_111 (by decide) ?_
                refine lv_icmp_ne (tgt := 128) hx hb dX10_compared_113 (by decide) (fun c573 => ?_) (fun c573 => ?_)
                · have hc573 := c573
                  have q573 := q_ne hc573
                  have sc574 := sx14.n (k := 60) (by omega) (by decide)
                  refine lv_iload_n hx hb dX10_compared_128 rfl (lv_at hl 0 rfl) ?_
                  refine lv_if_eq (tgt := 137) hx hb dX10_compared_129 (by decide) (fun c575 => ?_) (fun c575 => ?_)
                  · have hc575 := c575
                    have q575 := q_eq hc575
                    refine lv_bipush (v := (8)) hx hb dX10_compared_137 (by decide) ?_
                    refine lv_iconst (v := (0)) hx hb dX10_compared_139 (by decide) ?_
                    refine m_callv (m_runV (1000) (As := [.int (8), .int (0)]) (rest := []) hx hb hml hown hts hE hM hS hA ce_X10_entry tb_1552 (V_X10_entry_h l D A ad ns I563 L564 G (8) (0) hJ hI (fun hz => by have w0 := xI563.2.2.2.2.1 (by omega); have w1 := xI459.2 (by omega); have w2 := xI1.2.2.2.2.1 (by omega); have w3 := hPI (by omega); omega)) rfl rfl ⟨Nat.le_of_ble_eq_true rfl, Nat.le_of_ble_eq_true rfl⟩ hJ.1 rfl rfl (by decide) rfl hl.1 rfl (Nat.le_of_ble_eq_true rfl) dX10_compared_140 ⟨Nat.le_of_ble_eq_true rfl, Nat.le_of_ble_eq_true rfl⟩) hS (fun u H locs hw hM hS => ?_)
                    obtain ⟨I576, L577, rfl, hI, hkI576, xI576⟩ := hw
                    have hM : Mem D A ad ns I576 L577 G H := hM
                    have hK := hK.trans hkI576 rfl
                    have pw578 : (I576 (1000) 24).toInt = (I (1000) 24 : Int32).toInt := (congrArg Int32.toInt ((hkI576.get (1000) 24 rfl))).trans pw565
                    have pw579 : (I576 (1000) 25).toInt = (I563 (1000) 25 : Int32).toInt := congrArg Int32.toInt ((hkI576.get (1000) 25 rfl))
                    have pw580 : (I576 (1000) 26).toInt = (I563 (1000) 26 : Int32).toInt := congrArg Int32.toInt ((hkI576.get (1000) 26 rfl))
                    have pw581 : (I576 (1000) 27).toInt = (I (1000) 27 : Int32).toInt := (congrArg Int32.toInt ((hkI576.get (1000) 27 rfl))).trans pw566
                    have pw582 : (I576 (1000) 30).toInt = (I (1000) 30 : Int32).toInt := (congrArg Int32.toInt ((hkI576.get (1000) 30 rfl))).trans pw567
                    have pw583 : (I576 (1000) 31).toInt = (I563 (1000) 31 : Int32).toInt := congrArg Int32.toInt ((hkI576.get (1000) 31 rfl))
                    have pw584 : (I576 (1000) 32).toInt = (I (1000) 32 : Int32).toInt := (congrArg Int32.toInt ((hkI576.get (1000) 32 rfl))).trans pw568
                    replace hC := hC.comp (n2 := 1) (xI576.2.2.2.2.2.ct (by omega) (by omega) xI576.2.2.2.1 (by omega)) (by omega) (by omega) (by omega) (by omega) (fun hz => by omega)
                    have xeI576 : Imp ((I576 1000 26).toInt = 0) ((I576 1000 29).toInt = (I563 1000 29).toInt + 1) := fun hz => xI576.2.2.2.1 (by omega)
                    have hen585 : Imp ((I563 1000 26).toInt = 0) (RC I576 = RC I563 ++ [enc (8 : Int32).toInt (0 : Int32).toInt]) := fun hz => RC_ent xI576.2.2.2.2.2 hz (by omega) (by omega) (xI576.2.2.2.1 hz)
                    have z1 := tn (i := I1 1000 25) (by omega)
                    have gR5 := RC_len (J := I1) (hIs10.get 1000 29 (lo := 0) (hi := 300) rfl).1
                    have gR6 := hIs10.get 1000 29 (lo := 0) (hi := 300) rfl
                    have hs67 := sc549
                    rw [show ((u2 I459 (1000) 25 (v469)) 1000 25).toNatClampNeg = (I1 1000 25).toNatClampNeg + 1 from by have z6 := tn (i := (u2 I459 (1000) 25 (v469)) 1000 25) (by omega); omega] at hs67
                    have hcm : CMP (TM I) I I576 := by
                      by_cases hz : (I1 1000 26).toInt = 0
                      · have w0 := nw9.2.na hz; have w3 := xI459.1.1 hz; have w4 := nw569.1.2
                        have htk := tk_cm2 (T := TM I) (q := (I1 1000 25).toNatClampNeg) (by omega)
                        by_cases hc6 : (I1 1000 31).toInt = 60
                        · have w5 := w3.1 hc6; have w6 := w4 (by omega); exact cmp_many hT nw9.1.1 hz (by rw [w0.1]; omega) hc6 (by rw [w0.1]; omega)
                        · have w5 := w3.2 hc6; have w6 := xI459.2 w5; have z5 := tn (i := (u2 (u2 I459 (1000) 25 (v469)) (1000) 25 (v553)) 1000 25) (by omega); exact cmp_ok (o := -23) (J2 := (u2 (u2 I459 (1000) 25 (v469)) (1000) 25 (v553))) (J3 := I563) hT nw9.1.1 hz (by rw [w0.1]; omega) (by rw [w0.1]; omega) (by omega) (by omega) (by rw [w0.1]; omega) (by omega) (RC_of (J := I1) (J2 := (u2 (u2 I459 (1000) 25 (v469)) (1000) 25 (v553))) (((show (u2 (u2 I459 (1000) 25 (v469)) (1000) 25 (v553)) 1035 = I459 1035 from by funext zz; simp [u2_v])).trans (hkI459.getA 1035 rfl)) (((show (u2 (u2 I459 (1000) 25 (v469)) (1000) 25 (v553)) 1036 = I459 1036 from by funext zz; simp [u2_v])).trans (hkI459.getA 1036 rfl)) (by omega) (by omega)) (by omega) nw569.1.1 (by omega) (fun hy => ⟨by rw [show (I576 1000 25).toNatClampNeg = (I563 1000 25).toNatClampNeg from cl_eq (by omega)], by omega, by rw [hen585 hy, enc_v (v := -23) (Or.inr (Or.inr (Or.inr (Or.inr (Or.inr (Or.inr (Or.inr (Or.inr (Or.inr (Or.inl ⟨by omega, rfl⟩))))))))))]⟩)
                      · have w3 := xI459.1.2 hz; have w4 := nw569.1.2 (by omega); exact cmp_bad1 nw9.1.1 hz (by omega)
                    exact m_vret hx hb hr hlocks hM hS (Nat.le_of_ble_eq_true rfl) (Nat.le_of_ble_eq_true rfl) ⟨_, _, rfl, hI, hK, ⟨⟨hcm, fun hz => by rw [show (I576 1000 25).toNatClampNeg = (I563 1000 25).toNatClampNeg from cl_eq (by omega)]; exact nw569.2 (by omega)⟩, by omega, by omega, by omega, (fun hz => by have w0 := xeI576 (by omega); have w1 := xI563.2.2.2.2.1 (by omega); have w2 := xI459.2 (by omega); have w3 := xI1.2.2.2.2.1 (by omega); have w4 := hPI (by omega); omega), hC⟩⟩ dX10_compared_143
                  · exact absurd c575 (by decide)
                · have hc573 := c573
                  have q573 := q_eq hc573
                  have sg586 := xr11.2.2.2 (by omega)
                  have sc587 := sx14.y (k := 60) (by omega) (by decide)
                  refine lv_iload_n hx hb dX10_compared_116 rfl (lv_at hl 0 rfl) ?_
                  refine lv_if_eq (tgt := 124) hx hb dX10_compared_117 (by decide) (fun c588 => ?_) (fun c588 => ?_)
                  · have hc588 := c588
                    have q588 := q_eq hc588
                    refine lv_iconst (v := (4)) hx hb dX10_compared_124 (by decide) ?_
                    refine lv_goto (tgt := 139) hx hb dX10_compared_125 (by decide) ?_
                    refine lv_iconst (v := (0)) hx hb dX10_compared_139 (by decide) ?_
                    refine m_callv (m_runV (1000) (As := [.int (4), .int (0)]) (rest := []) hx hb hml hown hts hE hM hS hA ce_X10_entry tb_1552 (V_X10_entry_h l D A ad ns I563 L564 G (4) (0) hJ hI (fun hz => by have w0 := xI563.2.2.2.2.1 (by omega); have w1 := xI459.2 (by omega); have w2 := xI1.2.2.2.2.1 (by omega); have w3 := hPI (by omega); omega)) rfl rfl ⟨Nat.le_of_ble_eq_true rfl, Nat.le_of_ble_eq_true rfl⟩ hJ.1 rfl rfl (by decide) rfl hl.1 rfl (Nat.le_of_ble_eq_true rfl) dX10_compared_140 ⟨Nat.le_of_ble_eq_true rfl, Nat.le_of_ble_eq_true rfl⟩) hS (fun u H locs hw hM hS => ?_)
                    obtain ⟨I589, L590, rfl, hI, hkI589, xI589⟩ := hw
                    have hM : Mem D A ad ns I589 L590 G H := hM
                    have hK := hK.trans hkI589 rfl
                    have pw591 : (I589 (1000) 24).toInt = (I (1000) 24 : Int32).toInt := (congrArg Int32.toInt ((hkI589.get (1000) 24 rfl))).trans pw565
                    have pw592 : (I589 (1000) 25).toInt = (I563 (1000) 25 : Int32).toInt := congrArg Int32.toInt ((hkI589.get (1000) 25 rfl))
                    have pw593 : (I589 (1000) 26).toInt = (I563 (1000) 26 : Int32).toInt := congrArg Int32.toInt ((hkI589.get (1000) 26 rfl))
                    have pw594 : (I589 (1000) 27).toInt = (I (1000) 27 : Int32).toInt := (congrArg Int32.toInt ((hkI589.get (1000) 27 rfl))).trans pw566
                    have pw595 : (I589 (1000) 30).toInt = (I (1000) 30 : Int32).toInt := (congrArg Int32.toInt ((hkI589.get (1000) 30 rfl))).trans pw567
                    have pw596 : (I589 (1000) 31).toInt = (I563 (1000) 31 : Int32).toInt := congrArg Int32.toInt ((hkI589.get (1000) 31 rfl))
                    have pw597 : (I589 (1000) 32).toInt = (I (1000) 32 : Int32).toInt := (congrArg Int32.toInt ((hkI589.get (1000) 32 rfl))).trans pw568
                    replace hC := hC.comp (n2 := 1) (xI589.2.2.2.2.2.ct (by omega) (by omega) xI589.2.2.2.1 (by omega)) (by omega) (by omega) (by omega) (by omega) (fun hz => by omega)
                    have xeI589 : Imp ((I589 1000 26).toInt = 0) ((I589 1000 29).toInt = (I563 1000 29).toInt + 1) := fun hz => xI589.2.2.2.1 (by omega)
                    have hen598 : Imp ((I563 1000 26).toInt = 0) (RC I589 = RC I563 ++ [enc (4 : Int32).toInt (0 : Int32).toInt]) := fun hz => RC_ent xI589.2.2.2.2.2 hz (by omega) (by omega) (xI589.2.2.2.1 hz)
                    have z1 := tn (i := I1 1000 25) (by omega)
                    have gR5 := RC_len (J := I1) (hIs10.get 1000 29 (lo := 0) (hi := 300) rfl).1
                    have gR6 := hIs10.get 1000 29 (lo := 0) (hi := 300) rfl
                    have hs67 := sc549
                    rw [show ((u2 I459 (1000) 25 (v469)) 1000 25).toNatClampNeg = (I1 1000 25).toNatClampNeg + 1 from by have z6 := tn (i := (u2 I459 (1000) 25 (v469)) 1000 25) (by omega); omega] at hs67
                    have hcm : CMP (TM I) I I589 := by
                      by_cases hz : (I1 1000 26).toInt = 0
                      · have w0 := nw9.2.na hz; have w3 := xI459.1.1 hz; have w4 := nw569.1.2
                        have htk := tk_cm2 (T := TM I) (q := (I1 1000 25).toNatClampNeg) (by omega)
                        by_cases hc6 : (I1 1000 31).toInt = 60
                        · have w5 := w3.1 hc6; have w6 := w4 (by omega); exact cmp_many hT nw9.1.1 hz (by rw [w0.1]; omega) hc6 (by rw [w0.1]; omega)
                        · have w5 := w3.2 hc6; have w6 := xI459.2 w5; have z5 := tn (i := (u2 (u2 I459 (1000) 25 (v469)) (1000) 25 (v553)) 1000 25) (by omega); exact cmp_ok (o := -19) (J2 := (u2 (u2 I459 (1000) 25 (v469)) (1000) 25 (v553))) (J3 := I563) hT nw9.1.1 hz (by rw [w0.1]; omega) (by rw [w0.1]; omega) (by omega) (by omega) (by rw [w0.1]; omega) (by omega) (RC_of (J := I1) (J2 := (u2 (u2 I459 (1000) 25 (v469)) (1000) 25 (v553))) (((show (u2 (u2 I459 (1000) 25 (v469)) (1000) 25 (v553)) 1035 = I459 1035 from by funext zz; simp [u2_v])).trans (hkI459.getA 1035 rfl)) (((show (u2 (u2 I459 (1000) 25 (v469)) (1000) 25 (v553)) 1036 = I459 1036 from by funext zz; simp [u2_v])).trans (hkI459.getA 1036 rfl)) (by omega) (by omega)) (by omega) nw569.1.1 (by omega) (fun hy => ⟨by rw [show (I589 1000 25).toNatClampNeg = (I563 1000 25).toNatClampNeg from cl_eq (by omega)], by omega, by rw [hen598 hy, enc_v (v := -19) (Or.inr (Or.inr (Or.inr (Or.inr (Or.inr (Or.inl ⟨by omega, rfl⟩))))))]⟩)
                      · have w3 := xI459.1.2 hz; have w4 := nw569.1.2 (by omega); exact cmp_bad1 nw9.1.1 hz (by omega)
                    exact m_vret hx hb hr hlocks hM hS (Nat.le_of_ble_eq_true rfl) (Nat.le_of_ble_eq_true rfl) ⟨_, _, rfl, hI, hK, ⟨⟨hcm, fun hz => by rw [show (I589 1000 25).toNatClampNeg = (I563 1000 25).toNatClampNeg from cl_eq (by omega)]; exact nw569.2 (by omega)⟩, by omega, by omega, by omega, (fun hz => by have w0 := xeI589 (by omega); have w1 := xI563.2.2.2.2.1 (by omega); have w2 := xI459.2 (by omega); have w3 := xI1.2.2.2.2.1 (by omega); have w4 := hPI (by omega); omega), hC⟩⟩ dX10_compared_143
                  · exact absurd c588 (by decide)
              · have hc571 := c571
                have q571 := q_eq hc571
                have sg599 := xr11.2.2.2 (by omega)
                have sc600 := sx14.y (k := 61) (by omega) (by decide)
                refine lv_bipush (v := (6)) hx hb dX10_compared_105 (by decide) ?_
                refine lv_goto (tgt := 139) hx hb dX10_compared_107 (by decide) ?_
                refine lv_iconst (v := (0)) hx hb dX10_compared_139 (by decide) ?_
                refine m_callv (m_runV (1000) (As := [.int (6), .int (0)]) (rest := []) hx hb hml hown hts hE hM hS hA ce_X10_entry tb_1552 (V_X10_entry_h l D A ad ns I563 L564 G (6) (0) hJ hI (fun hz => by have w0 := xI563.2.2.2.2.1 (by omega); have w1 := xI459.2 (by omega); have w2 := xI1.2.2.2.2.1 (by omega); have w3 := hPI (by omega); omega)) rfl rfl ⟨Nat.le_of_ble_eq_true rfl, Nat.le_of_ble_eq_true rfl⟩ hJ.1 rfl rfl (by decide) rfl hl.1 rfl (Nat.le_of_ble_eq_true rfl) dX10_compared_140 ⟨Nat.le_of_ble_eq_true rfl, Nat.le_of_ble_eq_true rfl⟩) hS (fun u H locs hw hM hS => ?_)
                obtain ⟨I601, L602, rfl, hI, hkI601, xI601⟩ := hw
                have hM : Mem D A ad ns I601 L602 G H := hM
                have hK := hK.trans hkI601 rfl
                have pw603 : (I601 (1000) 24).toInt = (I (1000) 24 : Int32).toInt := (congrArg Int32.toInt ((hkI601.get (1000) 24 rfl))).trans pw565
                have pw604 : (I601 (1000) 25).toInt = (I563 (1000) 25 : Int32).toInt := congrArg Int32.toInt ((hkI601.get (1000) 25 rfl))
                have pw605 : (I601 (1000) 26).toInt = (I563 (1000) 26 : Int32).toInt := congrArg Int32.toInt ((hkI601.get (1000) 26 rfl))
                have pw606 : (I601 (1000) 27).toInt = (I (1000) 27 : Int32).toInt := (congrArg Int32.toInt ((hkI601.get (1000) 27 rfl))).trans pw566
                have pw607 : (I601 (1000) 30).toInt = (I (1000) 30 : Int32).toInt := (congrArg Int32.toInt ((hkI601.get (1000) 30 rfl))).trans pw567
                have pw608 : (I601 (1000) 31).toInt = (I563 (1000) 31 : Int32).toInt := congrArg Int32.toInt ((hkI601.get (1000) 31 rfl))
                have pw609 : (I601 (1000) 32).toInt = (I (1000) 32 : Int32).toInt := (congrArg Int32.toInt ((hkI601.get (1000) 32 rfl))).trans pw568
                replace hC := hC.comp (n2 := 1) (xI601.2.2.2.2.2.ct (by omega) (by omega) xI601.2.2.2.1 (by omega)) (by omega) (by omega) (by omega) (by omega) (fun hz => by omega)
                have xeI601 : Imp ((I601 1000 26).toInt = 0) ((I601 1000 29).toInt = (I563 1000 29).toInt + 1) := fun hz => xI601.2.2.2.1 (by omega)
                have hen610 : Imp ((I563 1000 26).toInt = 0) (RC I601 = RC I563 ++ [enc (6 : Int32).toInt (0 : Int32).toInt]) := fun hz => RC_ent xI601.2.2.2.2.2 hz (by omega) (by omega) (xI601.2.2.2.1 hz)
                have z1 := tn (i := I1 1000 25) (by omega)
                have gR5 := RC_len (J := I1) (hIs10.get 1000 29 (lo := 0) (hi := 300) rfl).1
                have gR6 := hIs10.get 1000 29 (lo := 0) (hi := 300) rfl
                have hs67 := sc549
                rw [show ((u2 I459 (1000) 25 (v469)) 1000 25).toNatClampNeg = (I1 1000 25).toNatClampNeg + 1 from by have z6 := tn (i := (u2 I459 (1000) 25 (v469)) 1000 25) (by omega); omega] at hs67
                have hcm : CMP (TM I) I I601 := by
                  by_cases hz : (I1 1000 26).toInt = 0
                  · have w0 := nw9.2.na hz; have w3 := xI459.1.1 hz; have w4 := nw569.1.2
                    have htk := tk_cm2 (T := TM I) (q := (I1 1000 25).toNatClampNeg) (by omega)
                    by_cases hc6 : (I1 1000 31).toInt = 60
                    · have w5 := w3.1 hc6; have w6 := w4 (by omega); exact cmp_many hT nw9.1.1 hz (by rw [w0.1]; omega) hc6 (by rw [w0.1]; omega)
                    · have w5 := w3.2 hc6; have w6 := xI459.2 w5; have z5 := tn (i := (u2 (u2 I459 (1000) 25 (v469)) (1000) 25 (v553)) 1000 25) (by omega); exact cmp_ok (o := -21) (J2 := (u2 (u2 I459 (1000) 25 (v469)) (1000) 25 (v553))) (J3 := I563) hT nw9.1.1 hz (by rw [w0.1]; omega) (by rw [w0.1]; omega) (by omega) (by omega) (by rw [w0.1]; omega) (by omega) (RC_of (J := I1) (J2 := (u2 (u2 I459 (1000) 25 (v469)) (1000) 25 (v553))) (((show (u2 (u2 I459 (1000) 25 (v469)) (1000) 25 (v553)) 1035 = I459 1035 from by funext zz; simp [u2_v])).trans (hkI459.getA 1035 rfl)) (((show (u2 (u2 I459 (1000) 25 (v469)) (1000) 25 (v553)) 1036 = I459 1036 from by funext zz; simp [u2_v])).trans (hkI459.getA 1036 rfl)) (by omega) (by omega)) (by omega) nw569.1.1 (by omega) (fun hy => ⟨by rw [show (I601 1000 25).toNatClampNeg = (I563 1000 25).toNatClampNeg from cl_eq (by omega)], by omega, by rw [hen610 hy, enc_v (v := -21) (Or.inr (Or.inr (Or.inr (Or.inr (Or.inr (Or.inr (Or.inr (Or.inl ⟨by omega, rfl⟩))))))))]⟩)
                  · have w3 := xI459.1.2 hz; have w4 := nw569.1.2 (by omega); exact cmp_bad1 nw9.1.1 hz (by omega)
                exact m_vret hx hb hr hlocks hM hS (Nat.le_of_ble_eq_true rfl) (Nat.le_of_ble_eq_true rfl) ⟨_, _, rfl, hI, hK, ⟨⟨hcm, fun hz => by rw [show (I601 1000 25).toNatClampNeg = (I563 1000 25).toNatClampNeg from cl_eq (by omega)]; exact nw569.2 (by omega)⟩, by omega, by omega, by omega, (fun hz => by have w0 := xeI601 (by omega); have w1 := xI563.2.2.2.2.1 (by omega); have w2 := xI459.2 (by omega); have w3 := xI1.2.2.2.2.1 (by omega); have w4 := hPI (by omega); omega), hC⟩⟩ dX10_compared_143
            · exact absurd c552 (by decide)
          · have hc548 := c548
            have q548 := q_eq hc548
            have sg611 := xr544.2.2.2 (by omega)
            have sc612 := sx547.y (k := 61) (by omega) (by decide)
            refine lv_iconst (v := (1)) hx hb dX10_compared_70 (by decide) ?_
            refine lv_goto (tgt := 75) hx hb dX10_compared_71 (by decide) ?_
            refine lv_istore_n (lv' := [(2, .int (1)), (1, .int (r11)), (0, .ref (ad (1000)))]) hx hb dX10_compared_75 rfl hl (by decide) rfl (fun ls hl => ?_)
            refine lv_aload_n hx hb dX10_compared_76 rfl (lv_at hl 2 rfl) ?_
            refine lv_dup hx hb dX10_compared_77 rfl ?_
            refine m_geti (1000) 25 hx hb hts hown hE oc10 hM hJ.1 rfl (by decide) rfl tb_1202 dX10_compared_78 ?_
            have g613 := hI.get (1000) 25 (lo := 0) (hi := 100000) rfl
            have z614 : (u2 I459 (1000) 25 (v469)) (1000) 25 = v469 := (show (u2 I459 (1000) 25 (v469)) (1000) 25 = v469 from by simp [u2_v])
            rw [z614] at g613 ⊢
            refine lv_iload_n hx hb dX10_compared_81 rfl (lv_at hl 0 rfl) ?_
            refine lv_if_eq (tgt := 89) hx hb dX10_compared_82 (by decide) (fun c615 => ?_) (fun c615 => ?_)
            · exact absurd c615 (by decide)
            · have hc615 := c615
              have q615 := q_ne hc615
              refine lv_iconst (v := (1)) hx hb dX10_compared_85 (by decide) ?_
              refine lv_goto (tgt := 90) hx hb dX10_compared_86 (by decide) ?_
              refine lv_iadd hx hb dX10_compared_90 ?_
              refine lv_topi (fun v616 ev616 => ?_)
              have tv616 := a_add ev616 (by omega) (by omega)
              refine m_puti (1000) 25 hx hb hts hown hE oc10 hM hS hJ.1 rfl (by decide) rfl rfl rfl rfl tb_1202 dX10_compared_91 (fun H locs I617 eI617 hM hS => ?_)
              subst eI617
              have hI := hI.put (n := 1000) (k := 25) (v := v616) (lo := 0) (hi := 100000) rfl (by first | omega | decide)
              have hK := hK.put (n := 1000) (k := 25) (v := v616) (by first | rfl | simp [inR])
              refine lv_aload_n hx hb dX10_compared_94 rfl (lv_at hl 2 rfl) ?_
              have pw618 : ((u2 (u2 I459 (1000) 25 (v469)) (1000) 25 (v616)) (1000) 24).toInt = (I (1000) 24 : Int32).toInt := (congrArg Int32.toInt ((show (u2 (u2 I459 (1000) 25 (v469)) (1000) 25 (v616)) (1000) 24 = (u2 I459 (1000) 25 (v469)) (1000) 24 from by simp [u2_v]))).trans pw536
              have pw619 : ((u2 (u2 I459 (1000) 25 (v469)) (1000) 25 (v616)) (1000) 25).toInt = (v616 : Int32).toInt := congrArg Int32.toInt ((show (u2 (u2 I459 (1000) 25 (v469)) (1000) 25 (v616)) (1000) 25 = v616 from by simp [u2_v]))
              have pw620 : ((u2 (u2 I459 (1000) 25 (v469)) (1000) 25 (v616)) (1000) 26).toInt = (I459 (1000) 26 : Int32).toInt := (congrArg Int32.toInt ((show (u2 (u2 I459 (1000) 25 (v469)) (1000) 25 (v616)) (1000) 26 = (u2 I459 (1000) 25 (v469)) (1000) 26 from by simp [u2_v]))).trans pw538
              have pw621 : ((u2 (u2 I459 (1000) 25 (v469)) (1000) 25 (v616)) (1000) 27).toInt = (I (1000) 27 : Int32).toInt := (congrArg Int32.toInt ((show (u2 (u2 I459 (1000) 25 (v469)) (1000) 25 (v616)) (1000) 27 = (u2 I459 (1000) 25 (v469)) (1000) 27 from by simp [u2_v]))).trans pw539
              have pw622 : ((u2 (u2 I459 (1000) 25 (v469)) (1000) 25 (v616)) (1000) 29).toInt = (I1 (1000) 29 : Int32).toInt := (congrArg Int32.toInt ((show (u2 (u2 I459 (1000) 25 (v469)) (1000) 25 (v616)) (1000) 29 = (u2 I459 (1000) 25 (v469)) (1000) 29 from by simp [u2_v]))).trans pw540
              have pw623 : ((u2 (u2 I459 (1000) 25 (v469)) (1000) 25 (v616)) (1000) 30).toInt = (I (1000) 30 : Int32).toInt := (congrArg Int32.toInt ((show (u2 (u2 I459 (1000) 25 (v469)) (1000) 25 (v616)) (1000) 30 = (u2 I459 (1000) 25 (v469)) (1000) 30 from by simp [u2_v]))).trans pw541
              have pw624 : ((u2 (u2 I459 (1000) 25 (v469)) (1000) 25 (v616)) (1000) 31).toInt = (I459 (1000) 31 : Int32).toInt := (congrArg Int32.toInt ((show (u2 (u2 I459 (1000) 25 (v469)) (1000) 25 (v616)) (1000) 31 = (u2 I459 (1000) 25 (v469)) (1000) 31 from by simp [u2_v]))).trans pw542
              have pw625 : ((u2 (u2 I459 (1000) 25 (v469)) (1000) 25 (v616)) (1000) 32).toInt = (I (1000) 32 : Int32).toInt := (congrArg Int32.toInt ((show (u2 (u2 I459 (1000) 25 (v469)) (1000) 25 (v616)) (1000) 32 = (u2 I459 (1000) 25 (v469)) (1000) 32 from by simp [u2_v]))).trans pw543
              refine m_callv (m_runV (1000) (As := []) (rest := []) hx hb hml hown hts hE hM hS hA ce_X10_sum tb_1535 (V_X10_sum_h l D A ad ns (u2 (u2 I459 (1000) 25 (v469)) (1000) 25 (v616)) L460 G hJ hI (by omega) (fun hz => by have w0 := xI459.2 (by omega); have w1 := xI1.2.2.2.2.1 (by omega); have w2 := hPI (by omega); omega) (hbt.of (hK.getA 1034 rfl) (hK.get 1000 24 rfl))) rfl rfl ⟨Nat.le_of_ble_eq_true rfl, Nat.le_of_ble_eq_true rfl⟩ hJ.1 rfl rfl (by decide) rfl hl.1 rfl (Nat.le_of_ble_eq_true rfl) dX10_compared_95 ⟨Nat.le_of_ble_eq_true rfl, Nat.le_of_ble_eq_true rfl⟩) hS (fun u H locs hw hM hS => ?_)
              obtain ⟨I626, L627, rfl, hI, hkI626, xI626⟩ := hw
              have hM : Mem D A ad ns I626 L627 G H := hM
              have hK := hK.trans hkI626 rfl
              replace hC := CT.link (I2 := (u2 (u2 I459 (1000) 25 (v469)) (1000) 25 (v616))) hC (((show (u2 (u2 I459 (1000) 25 (v469)) (1000) 25 (v616)) 1035 = I459 1035 from by funext zz; simp [u2_v])).trans (hkI459.getA 1035 rfl)) (((show (u2 (u2 I459 (1000) 25 (v469)) (1000) 25 (v616)) 1036 = I459 1036 from by funext zz; simp [u2_v])).trans (hkI459.getA 1036 rfl)) (by omega) (fun hz => by have w0 := xI459.2 (by omega); have w1 := xI1.2.2.2.2.1 (by omega); have w2 := hPI (by omega); omega)
              have pw628 : (I626 (1000) 24).toInt = (I (1000) 24 : Int32).toInt := (congrArg Int32.toInt ((hkI626.get (1000) 24 rfl))).trans pw618
              have pw629 : (I626 (1000) 27).toInt = (I (1000) 27 : Int32).toInt := (congrArg Int32.toInt ((hkI626.get (1000) 27 rfl))).trans pw621
              have pw630 : (I626 (1000) 30).toInt = (I (1000) 30 : Int32).toInt := (congrArg Int32.toInt ((hkI626.get (1000) 30 rfl))).trans pw623
              have pw631 : (I626 (1000) 32).toInt = (I (1000) 32 : Int32).toInt := (congrArg Int32.toInt ((hkI626.get (1000) 32 rfl))).trans pw625
              replace hC := hC.comp ((xI626.2.2.2.2.2).mono0 (1 + (0))) (by omega) (by omega) (by omega) (by omega) (fun hz => (xI626.2.2.2.2.1 hz).1)
              have nw632 := xI626.1
              rw [show TM (u2 (u2 I459 (1000) 25 (v469)) (1000) 25 (v616)) = TM I from (TM_of (hkI626.getA 1034 rfl) (hkI626.get 1000 24 rfl)).symm.trans (TM_of (hK.getA 1034 rfl) (hK.get 1000 24 rfl))] at nw632
              have hIs633 := hI
              refine lv_aload_n hx hb dX10_compared_98 rfl (lv_at hl 2 rfl) ?_
              refine lv_iload_n hx hb dX10_compared_99 rfl (lv_at hl 1 rfl) ?_
              refine lv_bipush (v := (61)) hx hb dX10_compared_100 (by decide) ?_
              refine lv_icmp_ne (tgt := 110) hx hb dX10_compared_102 (by decide) (fun c634 => ?_) (fun c634 => ?_)
              · have hc634 := c634
                have q634 := q_ne hc634
                have sc635 := sx14.n (k := 61) (by omega) (by decide)
                refine lv_iload_n hx hb dX10_compared_110 rfl (lv_at hl 1 rfl) ?_
                refine lv_bipush (v := (60)) hx hb dX10_compared_111 (by decide) ?_
                refine lv_icmp_ne (tgt := 128) hx hb dX10_compared_113 (by decide) (fun c636 => ?_) (fun c636 => ?_)
                · have hc636 := c636
                  have q636 := q_ne hc636
                  have sc637 := sx14.n (k := 60) (by omega) (by decide)
                  refine lv_iload_n hx hb dX10_compared_128 rfl (lv_at hl 0 rfl) ?_
                  refine lv_if_eq (tgt := 137) hx hb dX10_compared_129 (by decide) (fun c638 => ?_) (fun c638 => ?_)
                  · exact absurd c638 (by decide)
                  · have hc638 := c638
                    have q638 := q_ne hc638
                    refine lv_bipush (v := (7)) hx hb dX10_compared_132 (by decide) ?_
                    refine lv_goto (tgt := 139) hx hb dX10_compared_134 (by decide) ?_
                    refine lv_iconst (v := (0)) hx hb dX10_compared_139 (by decide) ?_
                    refine m_callv (m_runV (1000) (As := [.int (7), .int (0)]) (rest := []) hx hb hml hown hts hE hM hS hA ce_X10_entry tb_1552 (V_X10_entry_h l D A ad ns I626 L627 G (7) (0) hJ hI (fun hz => by have w0 := xI626.2.2.2.2.1 (by omega); have w1 := xI459.2 (by omega); have w2 := xI1.2.2.2.2.1 (by omega); have w3 := hPI (by omega); omega)) rfl rfl ⟨Nat.le_of_ble_eq_true rfl, Nat.le_of_ble_eq_true rfl⟩ hJ.1 rfl rfl (by decide) rfl hl.1 rfl (Nat.le_of_ble_eq_true rfl) dX10_compared_140 ⟨Nat.le_of_ble_eq_true rfl, Nat.le_of_ble_eq_true rfl⟩) hS (fun u H locs hw hM hS => ?_)
                    obtain ⟨I639, L640, rfl, hI, hkI639, xI639⟩ := hw
                    have hM : Mem D A ad ns I639 L640 G H := hM
                    have hK := hK.trans hkI639 rfl
                    have pw641 : (I639 (1000) 24).toInt = (I (1000) 24 : Int32).toInt := (congrArg Int32.toInt ((hkI639.get (1000) 24 rfl))).trans pw628
                    have pw642 : (I639 (1000) 25).toInt = (I626 (1000) 25 : Int32).toInt := congrArg Int32.toInt ((hkI639.get (1000) 25 rfl))
                    have pw643 : (I639 (1000) 26).toInt = (I626 (1000) 26 : Int32).toInt := congrArg Int32.toInt ((hkI639.get (1000) 26 rfl))
                    have pw644 : (I639 (1000) 27).toInt = (I (1000) 27 : Int32).toInt := (congrArg Int32.toInt ((hkI639.get (1000) 27 rfl))).trans pw629
                    have pw645 : (I639 (1000) 30).toInt = (I (1000) 30 : Int32).toInt := (congrArg Int32.toInt ((hkI639.get (1000) 30 rfl))).trans pw630
                    have pw646 : (I639 (1000) 31).toInt = (I626 (1000) 31 : Int32).toInt := congrArg Int32.toInt ((hkI639.get (1000) 31 rfl))
                    have pw647 : (I639 (1000) 32).toInt = (I (1000) 32 : Int32).toInt := (congrArg Int32.toInt ((hkI639.get (1000) 32 rfl))).trans pw631
                    replace hC := hC.comp (n2 := 1) (xI639.2.2.2.2.2.ct (by omega) (by omega) xI639.2.2.2.1 (by omega)) (by omega) (by omega) (by omega) (by omega) (fun hz => by omega)
                    have xeI639 : Imp ((I639 1000 26).toInt = 0) ((I639 1000 29).toInt = (I626 1000 29).toInt + 1) := fun hz => xI639.2.2.2.1 (by omega)
                    have hen648 : Imp ((I626 1000 26).toInt = 0) (RC I639 = RC I626 ++ [enc (7 : Int32).toInt (0 : Int32).toInt]) := fun hz => RC_ent xI639.2.2.2.2.2 hz (by omega) (by omega) (xI639.2.2.2.1 hz)
                    have z1 := tn (i := I1 1000 25) (by omega)
                    have gR5 := RC_len (J := I1) (hIs10.get 1000 29 (lo := 0) (hi := 300) rfl).1
                    have gR6 := hIs10.get 1000 29 (lo := 0) (hi := 300) rfl
                    have hs67 := sc612
                    rw [show ((u2 I459 (1000) 25 (v469)) 1000 25).toNatClampNeg = (I1 1000 25).toNatClampNeg + 1 from by have z6 := tn (i := (u2 I459 (1000) 25 (v469)) 1000 25) (by omega); omega] at hs67
                    have hcm : CMP (TM I) I I639 := by
                      by_cases hz : (I1 1000 26).toInt = 0
                      · have w0 := nw9.2.na hz; have w3 := xI459.1.1 hz; have w4 := nw632.1.2
                        have htk := tk_cm2 (T := TM I) (q := (I1 1000 25).toNatClampNeg) (by omega)
                        by_cases hc6 : (I1 1000 31).toInt = 60
                        · have w5 := w3.1 hc6; have w6 := w4 (by omega); exact cmp_many hT nw9.1.1 hz (by rw [w0.1]; omega) hc6 (by rw [w0.1]; omega)
                        · have w5 := w3.2 hc6; have w6 := xI459.2 w5; have z5 := tn (i := (u2 (u2 I459 (1000) 25 (v469)) (1000) 25 (v616)) 1000 25) (by omega); exact cmp_ok (o := -22) (J2 := (u2 (u2 I459 (1000) 25 (v469)) (1000) 25 (v616))) (J3 := I626) hT nw9.1.1 hz (by rw [w0.1]; omega) (by rw [w0.1]; omega) (by omega) (by omega) (by rw [w0.1]; omega) (by omega) (RC_of (J := I1) (J2 := (u2 (u2 I459 (1000) 25 (v469)) (1000) 25 (v616))) (((show (u2 (u2 I459 (1000) 25 (v469)) (1000) 25 (v616)) 1035 = I459 1035 from by funext zz; simp [u2_v])).trans (hkI459.getA 1035 rfl)) (((show (u2 (u2 I459 (1000) 25 (v469)) (1000) 25 (v616)) 1036 = I459 1036 from by funext zz; simp [u2_v])).trans (hkI459.getA 1036 rfl)) (by omega) (by omega)) (by omega) nw632.1.1 (by omega) (fun hy => ⟨by rw [show (I639 1000 25).toNatClampNeg = (I626 1000 25).toNatClampNeg from cl_eq (by omega)], by omega, by rw [hen648 hy, enc_v (v := -22) (Or.inr (Or.inr (Or.inr (Or.inr (Or.inr (Or.inr (Or.inr (Or.inr (Or.inl ⟨by omega, rfl⟩)))))))))]⟩)
                      · have w3 := xI459.1.2 hz; have w4 := nw632.1.2 (by omega); exact cmp_bad1 nw9.1.1 hz (by omega)
                    exact m_vret hx hb hr hlocks hM hS (Nat.le_of_ble_eq_true rfl) (Nat.le_of_ble_eq_true rfl) ⟨_, _, rfl, hI, hK, ⟨⟨hcm, fun hz => by rw [show (I639 1000 25).toNatClampNeg = (I626 1000 25).toNatClampNeg from cl_eq (by omega)]; exact nw632.2 (by omega)⟩, by omega, by omega, by omega, (fun hz => by have w0 := xeI639 (by omega); have w1 := xI626.2.2.2.2.1 (by omega); have w2 := xI459.2 (by omega); have w3 := xI1.2.2.2.2.1 (by omega); have w4 := hPI (by omega); omega), hC⟩⟩ dX10_compared_143
                · have hc636 := c636
                  have q636 := q_eq hc636
                  have sg649 := xr11.2.2.2 (by omega)
                  have sc650 := sx14.y (k := 60) (by omega) (by decide)
                  refine lv_iload_n hx hb dX10_compared_116 rfl (lv_at hl 0 rfl) ?_
                  refine lv_if_eq (tgt := 124) hx hb dX10_compared_117 (by decide) (fun c651 => ?_) (fun c651 => ?_)
                  · exact absurd c651 (by decide)
                  · have hc651 := c651
                    have q651 := q_ne hc651
                    refine lv_iconst (v := (5)) hx hb dX10_compared_120 (by decide) ?_
                    refine lv_goto (tgt := 139) hx hb dX10_compared_121 (by decide) ?_
                    refine lv_iconst (v := (0)) hx hb dX10_compared_139 (by decide) ?_
                    refine m_callv (m_runV (1000) (As := [.int (5), .int (0)]) (rest := []) hx hb hml hown hts hE hM hS hA ce_X10_entry tb_1552 (V_X10_entry_h l D A ad ns I626 L627 G (5) (0) hJ hI (fun hz => by have w0 := xI626.2.2.2.2.1 (by omega); have w1 := xI459.2 (by omega); have w2 := xI1.2.2.2.2.1 (by omega); have w3 := hPI (by omega); omega)) rfl rfl ⟨Nat.le_of_ble_eq_true rfl, Nat.le_of_ble_eq_true rfl⟩ hJ.1 rfl rfl (by decide) rfl hl.1 rfl (Nat.le_of_ble_eq_true rfl) dX10_compared_140 ⟨Nat.le_of_ble_eq_true rfl, Nat.le_of_ble_eq_true rfl⟩) hS (fun u H locs hw hM hS => ?_)
                    obtain ⟨I652, L653, rfl, hI, hkI652, xI652⟩ := hw
                    have hM : Mem D A ad ns I652 L653 G H := hM
                    have hK := hK.trans hkI652 rfl
                    have pw654 : (I652 (1000) 24).toInt = (I (1000) 24 : Int32).toInt := (congrArg Int32.toInt ((hkI652.get (1000) 24 rfl))).trans pw628
                    have pw655 : (I652 (1000) 25).toInt = (I626 (1000) 25 : Int32).toInt := congrArg Int32.toInt ((hkI652.get (1000) 25 rfl))
                    have pw656 : (I652 (1000) 26).toInt = (I626 (1000) 26 : Int32).toInt := congrArg Int32.toInt ((hkI652.get (1000) 26 rfl))
                    have pw657 : (I652 (1000) 27).toInt = (I (1000) 27 : Int32).toInt := (congrArg Int32.toInt ((hkI652.get (1000) 27 rfl))).trans pw629
                    have pw658 : (I652 (1000) 30).toInt = (I (1000) 30 : Int32).toInt := (congrArg Int32.toInt ((hkI652.get (1000) 30 rfl))).trans pw630
                    have pw659 : (I652 (1000) 31).toInt = (I626 (1000) 31 : Int32).toInt := congrArg Int32.toInt ((hkI652.get (1000) 31 rfl))
                    have pw660 : (I652 (1000) 32).toInt = (I (1000) 32 : Int32).toInt := (congrArg Int32.toInt ((hkI652.get (1000) 32 rfl))).trans pw631
                    replace hC := hC.comp (n2 := 1) (xI652.2.2.2.2.2.ct (by omega) (by omega) xI652.2.2.2.1 (by omega)) (by omega) (by omega) (by omega) (by omega) (fun hz => by omega)
                    have xeI652 : Imp ((I652 1000 26).toInt = 0) ((I652 1000 29).toInt = (I626 1000 29).toInt + 1) := fun hz => xI652.2.2.2.1 (by omega)
                    have hen661 : Imp ((I626 1000 26).toInt = 0) (RC I652 = RC I626 ++ [enc (5 : Int32).toInt (0 : Int32).toInt]) := fun hz => RC_ent xI652.2.2.2.2.2 hz (by omega) (by omega) (xI652.2.2.2.1 hz)
                    have z1 := tn (i := I1 1000 25) (by omega)
                    have gR5 := RC_len (J := I1) (hIs10.get 1000 29 (lo := 0) (hi := 300) rfl).1
                    have gR6 := hIs10.get 1000 29 (lo := 0) (hi := 300) rfl
                    have hs67 := sc612
                    rw [show ((u2 I459 (1000) 25 (v469)) 1000 25).toNatClampNeg = (I1 1000 25).toNatClampNeg + 1 from by have z6 := tn (i := (u2 I459 (1000) 25 (v469)) 1000 25) (by omega); omega] at hs67
                    have hcm : CMP (TM I) I I652 := by
                      by_cases hz : (I1 1000 26).toInt = 0
                      · have w0 := nw9.2.na hz; have w3 := xI459.1.1 hz; have w4 := nw632.1.2
                        have htk := tk_cm2 (T := TM I) (q := (I1 1000 25).toNatClampNeg) (by omega)
                        by_cases hc6 : (I1 1000 31).toInt = 60
                        · have w5 := w3.1 hc6; have w6 := w4 (by omega); exact cmp_many hT nw9.1.1 hz (by rw [w0.1]; omega) hc6 (by rw [w0.1]; omega)
                        · have w5 := w3.2 hc6; have w6 := xI459.2 w5; have z5 := tn (i := (u2 (u2 I459 (1000) 25 (v469)) (1000) 25 (v616)) 1000 25) (by omega); exact cmp_ok (o := -20) (J2 := (u2 (u2 I459 (1000) 25 (v469)) (1000) 25 (v616))) (J3 := I626) hT nw9.1.1 hz (by rw [w0.1]; omega) (by rw [w0.1]; omega) (by omega) (by omega) (by rw [w0.1]; omega) (by omega) (RC_of (J := I1) (J2 := (u2 (u2 I459 (1000) 25 (v469)) (1000) 25 (v616))) (((show (u2 (u2 I459 (1000) 25 (v469)) (1000) 25 (v616)) 1035 = I459 1035 from by funext zz; simp [u2_v])).trans (hkI459.getA 1035 rfl)) (((show (u2 (u2 I459 (1000) 25 (v469)) (1000) 25 (v616)) 1036 = I459 1036 from by funext zz; simp [u2_v])).trans (hkI459.getA 1036 rfl)) (by omega) (by omega)) (by omega) nw632.1.1 (by omega) (fun hy => ⟨by rw [show (I652 1000 25).toNatClampNeg = (I626 1000 25).toNatClampNeg from cl_eq (by omega)], by omega, by rw [hen661 hy, enc_v (v := -20) (Or.inr (Or.inr (Or.inr (Or.inr (Or.inr (Or.inr (Or.inl ⟨by omega, rfl⟩)))))))]⟩)
                      · have w3 := xI459.1.2 hz; have w4 := nw632.1.2 (by omega); exact cmp_bad1 nw9.1.1 hz (by omega)
                    exact m_vret hx hb hr hlocks hM hS (Nat.le_of_ble_eq_true rfl) (Nat.le_of_ble_eq_true rfl) ⟨_, _, rfl, hI, hK, ⟨⟨hcm, fun hz => by rw [show (I652 1000 25).toNatClampNeg = (I626 1000 25).toNatClampNeg from cl_eq (by omega)]; exact nw632.2 (by omega)⟩, by omega, by omega, by omega, (fun hz => by have w0 := xeI652 (by omega); have w1 := xI626.2.2.2.2.1 (by omega); have w2 := xI459.2 (by omega); have w3 := xI1.2.2.2.2.1 (by omega); have w4 := hPI (by omega); omega), hC⟩⟩ dX10_compared_143
              · have hc634 := c634
                have q634 := q_eq hc634
                have sg662 := xr11.2.2.2 (by omega)
                have sc663 := sx14.y (k := 61) (by omega) (by decide)
                refine lv_bipush (v := (6)) hx hb dX10_compared_105 (by decide) ?_
                refine lv_goto (tgt := 139) hx hb dX10_compared_107 (by decide) ?_
                refine lv_iconst (v := (0)) hx hb dX10_compared_139 (by decide) ?_
                refine m_callv (m_runV (1000) (As := [.int (6), .int (0)]) (rest := []) hx hb hml hown hts hE hM hS hA ce_X10_entry tb_1552 (V_X10_entry_h l D A ad ns I626 L627 G (6) (0) hJ hI (fun hz => by have w0 := xI626.2.2.2.2.1 (by omega); have w1 := xI459.2 (by omega); have w2 := xI1.2.2.2.2.1 (by omega); have w3 := hPI (by omega); omega)) rfl rfl ⟨Nat.le_of_ble_eq_true rfl, Nat.le_of_ble_eq_true rfl⟩ hJ.1 rfl rfl (by decide) rfl hl.1 rfl (Nat.le_of_ble_eq_true rfl) dX10_compared_140 ⟨Nat.le_of_ble_eq_true rfl, Nat.le_of_ble_eq_true rfl⟩) hS (fun u H locs hw hM hS => ?_)
                obtain ⟨I664, L665, rfl, hI, hkI664, xI664⟩ := hw
                have hM : Mem D A ad ns I664 L665 G H := hM
                have hK := hK.trans hkI664 rfl
                have pw666 : (I664 (1000) 24).toInt = (I (1000) 24 : Int32).toInt := (congrArg Int32.toInt ((hkI664.get (1000) 24 rfl))).trans pw628
                have pw667 : (I664 (1000) 25).toInt = (I626 (1000) 25 : Int32).toInt := congrArg Int32.toInt ((hkI664.get (1000) 25 rfl))
                have pw668 : (I664 (1000) 26).toInt = (I626 (1000) 26 : Int32).toInt := congrArg Int32.toInt ((hkI664.get (1000) 26 rfl))
                have pw669 : (I664 (1000) 27).toInt = (I (1000) 27 : Int32).toInt := (congrArg Int32.toInt ((hkI664.get (1000) 27 rfl))).trans pw629
                have pw670 : (I664 (1000) 30).toInt = (I (1000) 30 : Int32).toInt := (congrArg Int32.toInt ((hkI664.get (1000) 30 rfl))).trans pw630
                have pw671 : (I664 (1000) 31).toInt = (I626 (1000) 31 : Int32).toInt := congrArg Int32.toInt ((hkI664.get (1000) 31 rfl))
                have pw672 : (I664 (1000) 32).toInt = (I (1000) 32 : Int32).toInt := (congrArg Int32.toInt ((hkI664.get (1000) 32 rfl))).trans pw631
                replace hC := hC.comp (n2 := 1) (xI664.2.2.2.2.2.ct (by omega) (by omega) xI664.2.2.2.1 (by omega)) (by omega) (by omega) (by omega) (by omega) (fun hz => by omega)
                have xeI664 : Imp ((I664 1000 26).toInt = 0) ((I664 1000 29).toInt = (I626 1000 29).toInt + 1) := fun hz => xI664.2.2.2.1 (by omega)
                have hen673 : Imp ((I626 1000 26).toInt = 0) (RC I664 = RC I626 ++ [enc (6 : Int32).toInt (0 : Int32).toInt]) := fun hz => RC_ent xI664.2.2.2.2.2 hz (by omega) (by omega) (xI664.2.2.2.1 hz)
                have z1 := tn (i := I1 1000 25) (by omega)
                have gR5 := RC_len (J := I1) (hIs10.get 1000 29 (lo := 0) (hi := 300) rfl).1
                have gR6 := hIs10.get 1000 29 (lo := 0) (hi := 300) rfl
                have hs67 := sc612
                rw [show ((u2 I459 (1000) 25 (v469)) 1000 25).toNatClampNeg = (I1 1000 25).toNatClampNeg + 1 from by have z6 := tn (i := (u2 I459 (1000) 25 (v469)) 1000 25) (by omega); omega] at hs67
                have hcm : CMP (TM I) I I664 := by
                  by_cases hz : (I1 1000 26).toInt = 0
                  · have w0 := nw9.2.na hz; have w3 := xI459.1.1 hz; have w4 := nw632.1.2
                    have htk := tk_cm2 (T := TM I) (q := (I1 1000 25).toNatClampNeg) (by omega)
                    by_cases hc6 : (I1 1000 31).toInt = 60
                    · have w5 := w3.1 hc6; have w6 := w4 (by omega); exact cmp_many hT nw9.1.1 hz (by rw [w0.1]; omega) hc6 (by rw [w0.1]; omega)
                    · have w5 := w3.2 hc6; have w6 := xI459.2 w5; have z5 := tn (i := (u2 (u2 I459 (1000) 25 (v469)) (1000) 25 (v616)) 1000 25) (by omega); exact cmp_ok (o := -21) (J2 := (u2 (u2 I459 (1000) 25 (v469)) (1000) 25 (v616))) (J3 := I626) hT nw9.1.1 hz (by rw [w0.1]; omega) (by rw [w0.1]; omega) (by omega) (by omega) (by rw [w0.1]; omega) (by omega) (RC_of (J := I1) (J2 := (u2 (u2 I459 (1000) 25 (v469)) (1000) 25 (v616))) (((show (u2 (u2 I459 (1000) 25 (v469)) (1000) 25 (v616)) 1035 = I459 1035 from by funext zz; simp [u2_v])).trans (hkI459.getA 1035 rfl)) (((show (u2 (u2 I459 (1000) 25 (v469)) (1000) 25 (v616)) 1036 = I459 1036 from by funext zz; simp [u2_v])).trans (hkI459.getA 1036 rfl)) (by omega) (by omega)) (by omega) nw632.1.1 (by omega) (fun hy => ⟨by rw [show (I664 1000 25).toNatClampNeg = (I626 1000 25).toNatClampNeg from cl_eq (by omega)], by omega, by rw [hen673 hy, enc_v (v := -21) (Or.inr (Or.inr (Or.inr (Or.inr (Or.inr (Or.inr (Or.inr (Or.inl ⟨by omega, rfl⟩))))))))]⟩)
                  · have w3 := xI459.1.2 hz; have w4 := nw632.1.2 (by omega); exact cmp_bad1 nw9.1.1 hz (by omega)
                exact m_vret hx hb hr hlocks hM hS (Nat.le_of_ble_eq_true rfl) (Nat.le_of_ble_eq_true rfl) ⟨_, _, rfl, hI, hK, ⟨⟨hcm, fun hz => by rw [show (I664 1000 25).toNatClampNeg = (I626 1000 25).toNatClampNeg from cl_eq (by omega)]; exact nw632.2 (by omega)⟩, by omega, by omega, by omega, (fun hz => by have w0 := xeI664 (by omega); have w1 := xI626.2.2.2.2.1 (by omega); have w2 := xI459.2 (by omega); have w3 := xI1.2.2.2.2.1 (by omega); have w4 := hPI (by omega); omega), hC⟩⟩ dX10_compared_143
      · have hc455 := c455
        have q455 := q_ne hc455
        have sc674 := sx14.n (k := 62) (by omega) (by decide)
        refine lv_aload_n hx hb dX10_compared_27 rfl (lv_at hl 1 rfl) ?_
        refine lv_iconst (v := (0)) hx hb dX10_compared_28 (by decide) ?_
        refine lv_aload_n hx hb dX10_compared_29 rfl (lv_at hl 1 rfl) ?_
        refine m_geti (1000) 25 hx hb hts hown hE oc10 hM hJ.1 rfl (by decide) rfl tb_1202 dX10_compared_30 ?_
        have g675 := hI.get (1000) 25 (lo := 0) (hi := 100000) rfl
        refine m_callv (m_runV (1000) (As := [.int (0), .int (I1 (1000) 25)]) (rest := []) hx hb hml hown hts hE hM hS hA ce_X10_fails tb_1521 (V_X10_fails_h l D A ad ns I1 L2 G (0) (I1 (1000) 25) hJ hI (by first | omega | decide) (by first | omega | decide)) rfl rfl ⟨Nat.le_of_ble_eq_true rfl, Nat.le_of_ble_eq_true rfl⟩ hJ.1 rfl rfl (by decide) rfl hl.1 rfl (Nat.le_of_ble_eq_true rfl) dX10_compared_33 ⟨Nat.le_of_ble_eq_true rfl, Nat.le_of_ble_eq_true rfl⟩) hS (fun u H locs hw hM hS => ?_)
        obtain ⟨I676, L677, rfl, hI, hkI676, xI676⟩ := hw
        have hM : Mem D A ad ns I676 L677 G H := hM
        have hK := hK.trans hkI676 rfl
        have pw678 : (I676 (1000) 24).toInt = (I (1000) 24 : Int32).toInt := (congrArg Int32.toInt ((hkI676.get (1000) 24 rfl))).trans pw3
        have pw679 : (I676 (1000) 25).toInt = (I1 (1000) 25 : Int32).toInt := congrArg Int32.toInt ((hkI676.get (1000) 25 rfl))
        have pw680 : (I676 (1000) 27).toInt = (I (1000) 27 : Int32).toInt := (congrArg Int32.toInt ((hkI676.get (1000) 27 rfl))).trans pw4
        have pw681 : (I676 (1000) 29).toInt = (I1 (1000) 29 : Int32).toInt := congrArg Int32.toInt ((hkI676.get (1000) 29 rfl))
        have pw682 : (I676 (1000) 30).toInt = (I (1000) 30 : Int32).toInt := (congrArg Int32.toInt ((hkI676.get (1000) 30 rfl))).trans pw5
        have pw683 : (I676 (1000) 31).toInt = (I1 (1000) 31 : Int32).toInt := congrArg Int32.toInt ((hkI676.get (1000) 31 rfl))
        have pw684 : (I676 (1000) 32).toInt = (I (1000) 32 : Int32).toInt := (congrArg Int32.toInt ((hkI676.get (1000) 32 rfl))).trans pw6
        replace hC := CT.link (I2 := I676) hC ((hkI676.getA 1035 rfl)) ((hkI676.getA 1036 rfl)) (by omega) (fun hz => by have w0 := xI676.2.1 (by omega); exact w0.elim)
        have z1 := tn (i := I1 1000 25) (by omega)
        have hcm : CMP (TM I) I I676 := by
          by_cases hz : (I1 1000 26).toInt = 0
          · have w0 := nw9.2.na hz; have w1 := xI676.2.2.1 hz; have w2 := nw9.2 hz; exact cmp_bad2 hT nw9.1.1 hz (by rw [w0.1]; omega) (by rw [w0.1]; omega)
          · have w1 := xI676.2.2.2 hz; exact cmp_bad1 nw9.1.1 hz (by omega)
        exact m_vret hx hb hr hlocks hM hS (Nat.le_of_ble_eq_true rfl) (Nat.le_of_ble_eq_true rfl) ⟨_, _, rfl, hI, hK, ⟨⟨hcm, fun hz => (xI676.2.1 hz).elim⟩, by omega, by omega, by omega, (fun hz => by have w0 := xI676.2.1 (by omega); exact w0.elim), hC⟩⟩ dX10_compared_36
