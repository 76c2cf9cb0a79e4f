set_option maxHeartbeats 4000000 in
set_option maxRecDepth 20000 in
theorem V_X10_fact_h (l : Launch) (D : va_G) (A : Nat → Prop) (ad : Nat → Nat) (ns : List Nat) (I : MI) (L : ML) (G : MG) (hJ : SGM ns G) (hI : INV I) (hp : (I 1000 25).toInt ≤ 400) (hPN : Imp ((I 1000 26).toInt = 0) (0 ≤ (I 1000 31).toInt ∧ (I 1000 31).toInt ≤ 60 ∧ 3 * (I 1000 29).toInt + 3 * (NS I : Int) ≤ 6 * (I 1000 31).toInt + (I 1000 25).toInt)) (ho : (I 1000 32).toInt ≤ (I 1000 25).toInt) (hbt : BTM I) : Met l yX10_fact (wd yX10_fact cX10_fact 1 (some .boolean)) ({ frames := 9, cells := 0, slots := 0, locals := 195 }) (va_Pc [.ref (ad (1000))] (PM D A ad ns I L G)) (va_Qi (fun r u => ∃ I2 L2, u = (ad, ns, I2, L2, G) ∧ INV I2 ∧ Kp [(1035, 1037), (1042, 1043)] [(1000, 25), (1000, 26), (1000, 29), (1000, 30), (1000, 31), (1000, 32)] I I2 ∧ (FCT (TM I) I I2 r.toInt ∧ 0 ≤ r.toInt ∧ r.toInt ≤ 1 ∧ (I 1000 25).toInt ≤ (I2 1000 25).toInt ∧ (I2 1000 25).toInt ≤ 400 ∧ (I 1000 29).toInt ≤ (I2 1000 29).toInt ∧ (I2 1000 32).toInt ≤ (I2 1000 25).toInt ∧ (I 1000 25).toInt + 1 ≤ (I2 1000 25).toInt + r.toInt ∧ Imp ((I2 1000 26).toInt = 0) ((I 1000 26).toInt = 0 ∧ 0 ≤ (I2 1000 31).toInt ∧ (I2 1000 31).toInt ≤ 60 ∧ 3 * (I2 1000 29).toInt + 3 * (NS I2 : Int) + 9 * r.toInt ≤ 6 * (I2 1000 31).toInt + (I2 1000 25).toInt) ∧ Imp (r.toInt = 0) (CT I I2 (NB I) (NB I2)) ∧ Imp (r.toInt = 1) (CT I I2 (NB I) (NB I2 + 1)))) (BM D A) A) 0 0 A := by
  refine m_ofW (by decide) (Nat.le_of_ble_eq_true rfl) ?_
  intro p e s m below meth c ls args hC hE hM hA hS hl
  obtain ⟨hx, hb, hml, hown, hts, hr, hlocks, hin⟩ := hC
  have k0 : (0 : Int32).toInt = 0 := by decide
  have k1 : (1 : Int32).toInt = 1 := by decide
  have k3 : (3 : Int32).toInt = 3 := by decide
  have k9 : (9 : Int32).toInt = 9 := by decide
  have k12 : (12 : Int32).toInt = 12 := by decide
  have k91 : (91 : Int32).toInt = 91 := by decide
  have hC := CT.rf I (NB I)
  have hI0 := hI
  have gO0 := hI.get 1000 32 (lo := 0) (hi := 402) rfl
  have gPP := hI.get 1000 25 (lo := 0) (hi := 100000) rfl
  have hT := TM_ok hI
  have k1 : (1 : Int32).toInt = 1 := by decide
  have hK : Kp [(1035, 1037), (1042, 1043)] [(1000, 25), (1000, 26), (1000, 29), (1000, 30), (1000, 31), (1000, 32)] I I := Kp.rf
  have hl : lv_has ls 1 [(0, .ref (ad (1000)))] := hl
  refine lv_aload_n hx hb dX10_fact_0 rfl (lv_at hl 0 rfl) ?_
  refine m_callv (m_runV (1000) (As := []) (rest := []) hx hb hml hown hts hE hM hS hA ce_X10_blanks tb_1506 (V_X10_blanks_h l D A ad ns I L G hJ hI (by omega)) rfl rfl ⟨Nat.le_of_ble_eq_true rfl, Nat.le_of_ble_eq_true rfl⟩ hJ.1 rfl rfl (by decide) rfl hl.1 rfl (Nat.le_of_ble_eq_true rfl) dX10_fact_1 ⟨Nat.le_of_ble_eq_true rfl, Nat.le_of_ble_eq_true rfl⟩) hS (fun u H locs hw hM hS => ?_)
  obtain ⟨I1, L2, rfl, hI, hkI1, xI1⟩ := hw
  have hM : Mem D A ad ns I1 L2 G H := hM
  have hK := hK.trans hkI1 rfl
  have pw3 : (I1 (1000) 24).toInt = (I (1000) 24 : Int32).toInt := congrArg Int32.toInt ((hkI1.get (1000) 24 rfl))
  have pw4 : (I1 (1000) 26).toInt = (I (1000) 26 : Int32).toInt := congrArg Int32.toInt ((hkI1.get (1000) 26 rfl))
  have pw5 : (I1 (1000) 27).toInt = (I (1000) 27 : Int32).toInt := congrArg Int32.toInt ((hkI1.get (1000) 27 rfl))
  have pw6 : (I1 (1000) 29).toInt = (I (1000) 29 : Int32).toInt := congrArg Int32.toInt ((hkI1.get (1000) 29 rfl))
  have pw7 : (I1 (1000) 30).toInt = (I (1000) 30 : Int32).toInt := congrArg Int32.toInt ((hkI1.get (1000) 30 rfl))
  have pw8 : (I1 (1000) 31).toInt = (I (1000) 31 : Int32).toInt := congrArg Int32.toInt ((hkI1.get (1000) 31 rfl))
  have pw9 : (I1 (1000) 32).toInt = (I (1000) 32 : Int32).toInt := congrArg Int32.toInt ((hkI1.get (1000) 32 rfl))
  have nw10 := xI1.1
  refine lv_aload_n hx hb dX10_fact_4 rfl (lv_at hl 0 rfl) ?_
  refine m_ldcwS hx hb hown (EV.str hE 25 rfl).1 dX10_fact_5 ?_
  refine m_calli (m_runV (1000) (As := [.ref (D.2 100 25)]) (rest := []) hx hb hml hown hts hE hM hS hA ce_X10_stands tb_1515 (V_X10_stands_h l D A ad ns I1 L2 G 25 _ hJ hI rfl (by decide) (by decide) (hbt.of (hK.getA 1034 rfl) (hK.get 1000 24 rfl))) rfl rfl ⟨Nat.le_of_ble_eq_true rfl, Nat.le_of_ble_eq_true rfl⟩ hJ.1 rfl rfl (by decide) rfl hl.1 rfl (Nat.le_of_ble_eq_true rfl) dX10_fact_8 ⟨Nat.le_of_ble_eq_true rfl, Nat.le_of_ble_eq_true rfl⟩) hS (fun r11 u H locs hw hM hS => ?_)
  obtain ⟨rfl, xr11⟩ := hw
  have hM : Mem D A ad ns I1 L2 G H := hM
  have g12 := hI.get 1000 24 (lo := 0) (hi := 400) rfl
  have g13 := hI.get 1000 25 (lo := 0) (hi := 100000) rfl
  have slr11 : Imp ((r11).toInt ≠ 0) ((I1 (1000) 25).toInt + 3 ≤ (I1 (1000) 24).toInt) := xr11.2.2.2
  have sx14 : WQX (TM I1) (I1 1000 25).toNatClampNeg (([110, 111, 116] : List Int32).map b8) r11 := xr11.1
  rw [mb_not] at sx14
  rw [show TM I1 = TM I from (TM_of (hK.getA 1034 rfl) (hK.get 1000 24 rfl))] at sx14
  refine lv_if_eq (tgt := 32) hx hb dX10_fact_11 (by decide) (fun c15 => ?_) (fun c15 => ?_)
  · have hc15 := c15
    have q15 := q_eq hc15
    have sc16 := sx14.n (by omega)
    refine lv_aload_n hx hb dX10_fact_32 rfl (lv_at hl 0 rfl) ?_
    refine m_calli (m_runV (1000) (As := []) (rest := []) hx hb hml hown hts hE hM hS hA ce_X10_sign tb_1510 (V_X10_sign_h l D A ad ns I1 L2 G hJ hI) rfl rfl ⟨Nat.le_of_ble_eq_true rfl, Nat.le_of_ble_eq_true rfl⟩ hJ.1 rfl rfl (by decide) rfl hl.1 rfl (Nat.le_of_ble_eq_true rfl) dX10_fact_33 ⟨Nat.le_of_ble_eq_true rfl, Nat.le_of_ble_eq_true rfl⟩) hS (fun r17 u H locs hw hM hS => ?_)
    obtain ⟨rfl, xr17⟩ := hw
    have hM : Mem D A ad ns I1 L2 G H := hM
    have g18 := hI.get 1000 24 (lo := 0) (hi := 400) rfl
    have g19 := hI.get 1000 25 (lo := 0) (hi := 100000) rfl
    have sx20 := xr17.1
    rw [show TM I1 = TM I from (TM_of (hK.getA 1034 rfl) (hK.get 1000 24 rfl))] at sx20
    refine lv_bipush (v := (91)) hx hb dX10_fact_36 (by decide) ?_
    refine lv_icmp_ne (tgt := 59) hx hb dX10_fact_38 (by decide) (fun c21 => ?_) (fun c21 => ?_)
    · have hc21 := c21
      have q21 := q_ne hc21
      have sc22 := sx20.n (k := 91) (by omega) (by decide)
      refine lv_aload_n hx hb dX10_fact_59 rfl (lv_at hl 0 rfl) ?_
      refine m_callv (m_runV (1000) (As := []) (rest := []) hx hb hml hown hts hE hM hS hA ce_X10_compared tb_1590 (V_X10_compared_h l D A ad ns I1 L2 G hJ hI (by omega) (fun hz => by have w0 := hPN (by omega); omega) (hbt.of (hK.getA 1034 rfl) (hK.get 1000 24 rfl))) rfl rfl ⟨Nat.le_of_ble_eq_true rfl, Nat.le_of_ble_eq_true rfl⟩ hJ.1 rfl rfl (by decide) rfl hl.1 rfl (Nat.le_of_ble_eq_true rfl) dX10_fact_60 ⟨Nat.le_of_ble_eq_true rfl, Nat.le_of_ble_eq_true rfl⟩) hS (fun u H locs hw hM hS => ?_)
      obtain ⟨I23, L24, rfl, hI, hkI23, xI23⟩ := hw
      have hM : Mem D A ad ns I23 L24 G H := hM
      have hK := hK.trans hkI23 rfl
      replace hC := CT.link (I2 := I1) hC ((hkI1.getA 1035 rfl)) ((hkI1.getA 1036 rfl)) (by omega) (fun hz => by have w0 := hPN (by omega); omega)
      have pw25 : (I23 (1000) 24).toInt = (I (1000) 24 : Int32).toInt := (congrArg Int32.toInt ((hkI23.get (1000) 24 rfl))).trans pw3
      have pw26 : (I23 (1000) 27).toInt = (I (1000) 27 : Int32).toInt := (congrArg Int32.toInt ((hkI23.get (1000) 27 rfl))).trans pw5
      have pw27 : (I23 (1000) 30).toInt = (I (1000) 30 : Int32).toInt := (congrArg Int32.toInt ((hkI23.get (1000) 30 rfl))).trans pw7
      have pw28 : (I23 (1000) 32).toInt = (I (1000) 32 : Int32).toInt := (congrArg Int32.toInt ((hkI23.get (1000) 32 rfl))).trans pw9
      have g29 := hI0.get 1000 27 (lo := 0) (hi := 5) rfl
      have g30 := hI0.get 1000 29 (lo := 0) (hi := 300) rfl
      replace hC := hC.comp ((xI23.2.2.2.2.2).mono0 (NB I)) (by omega) (by omega) (by omega) (by omega) (fun hz => (xI23.2.2.2.2.1 hz).1)
      have nw31 := xI23.1
      rw [show TM I1 = TM I from (TM_of (hkI23.getA 1034 rfl) (hkI23.get 1000 24 rfl)).symm.trans (TM_of (hK.getA 1034 rfl) (hK.get 1000 24 rfl))] at nw31
      refine lv_iconst (v := (1)) hx hb dX10_fact_63 (by decide) ?_
      have nn32 := NS_of (I2 := I23) (I := I) (((hkI23.getA 1042 rfl)).trans (hkI1.getA 1042 rfl)) (by omega)
      have gO := hI.get 1000 32 (lo := 0) (hi := 402) rfl
      have z1 := tn (i := I1 1000 25) (by omega)
      have z2 := tn (i := I23 1000 25) (by omega)
      exact m_zret hx hb hr rfl hlocks hM hS (Nat.le_of_ble_eq_true rfl) (Nat.le_of_ble_eq_true rfl) ⟨_, _, rfl, hI, hK, ⟨(by rw [k1]; exact FCT.beg (I := I) (I2 := I1) (fct_cmp nw31.1 (fun e => by rw [nw10, skp_i hT, ← nw10] at e; rcases e with e | e; have w1 := tk_not2 hT e; rw [sc16] at w1; cases w1; exact sc22 (tk_op2 hT e)) (RK_of (J := I1) (J2 := I23) ((hkI23.getA 1042 rfl)) (by omega)) (Int32.toInt_inj.mp (by omega)) (fun hz => (nw31.2.na hz).2)) (by omega) (by rw [nw10, skp_i hT]) (by omega) (RC_of (J := I) (J2 := I1) ((hkI1.getA 1035 rfl)) ((hkI1.getA 1036 rfl)) (by omega) (by omega)) (RK_of (J := I) (J2 := I1) ((hkI1.getA 1042 rfl)) (by omega)) (Int32.toInt_inj.mp (by omega))), by omega, by omega, by omega, by omega, by omega, by omega, by omega, (fun hz => by have w0 := xI23.2.2.2.2.1 (by omega); have w1 := hPN (by omega); omega), fun h => absurd h (by decide), fun _ => (by rw [show NB I23 + 1 = 1 + NB I from by omega]; exact hC)⟩⟩ dX10_fact_64
    · have hc21 := c21
      have q21 := q_eq hc21
      have sg33 := xr17.2.2.2 (by omega)
      have sc34 := sx20.y (k := 91) (by omega) (by decide)
      refine lv_aload_n hx hb dX10_fact_41 rfl (lv_at hl 0 rfl) ?_
      refine lv_bipush (v := (12)) hx hb dX10_fact_42 (by decide) ?_
      refine m_callv (m_runV (1000) (As := [.int (12)]) (rest := []) hx hb hml hown hts hE hM hS hA ce_X10_opens tb_1586 (V_X10_opens_h l D A ad ns I1 L2 G (12) hJ hI (by first | omega | decide) (by omega)) rfl rfl ⟨Nat.le_of_ble_eq_true rfl, Nat.le_of_ble_eq_true rfl⟩ hJ.1 rfl rfl (by decide) rfl hl.1 rfl (Nat.le_of_ble_eq_true rfl) dX10_fact_44 ⟨Nat.le_of_ble_eq_true rfl, Nat.le_of_ble_eq_true rfl⟩) hS (fun u H locs hw hM hS => ?_)
      obtain ⟨I35, L36, rfl, hI, hkI35, xI35⟩ := hw
      have hM : Mem D A ad ns I35 L36 G H := hM
      have hK := hK.trans hkI35 rfl
      have g37 := hI.get 1000 32 (lo := 0) (hi := 402) rfl
      have nn38 := NS_of (I2 := I1) (I := I) ((hkI1.getA 1042 rfl)) (by omega)
      have pw39 : (I35 (1000) 24).toInt = (I (1000) 24 : Int32).toInt := (congrArg Int32.toInt ((hkI35.get (1000) 24 rfl))).trans pw3
      have pw40 : (I35 (1000) 25).toInt = (I1 (1000) 25 : Int32).toInt := congrArg Int32.toInt ((hkI35.get (1000) 25 rfl))
      have pw41 : (I35 (1000) 27).toInt = (I (1000) 27 : Int32).toInt := (congrArg Int32.toInt ((hkI35.get (1000) 27 rfl))).trans pw5
      have pw42 : (I35 (1000) 29).toInt = (I (1000) 29 : Int32).toInt := (congrArg Int32.toInt ((hkI35.get (1000) 29 rfl))).trans pw6
      have pw43 : (I35 (1000) 31).toInt = (I (1000) 31 : Int32).toInt := (congrArg Int32.toInt ((hkI35.get (1000) 31 rfl))).trans pw8
      have pv44 : pN 12 = 0 ∧ pB 12 = 0 := by decide
      have po45 := xI35.2.2
      refine lv_aload_n hx hb dX10_fact_47 rfl (lv_at hl 0 rfl) ?_
      refine lv_dup hx hb dX10_fact_48 rfl ?_
      refine m_geti (1000) 25 hx hb hts hown hE oc10 hM hJ.1 rfl (by decide) rfl tb_1202 dX10_fact_49 ?_
      have g46 := hI.get (1000) 25 (lo := 0) (hi := 100000) rfl
      have z47 : I35 (1000) 25 = I1 (1000) 25 := (hkI35.get (1000) 25 rfl)
      rw [z47] at g46 ⊢
      refine lv_iconst (v := (1)) hx hb dX10_fact_52 (by decide) ?_
      refine lv_iadd hx hb dX10_fact_53 ?_
      refine lv_topi (fun v48 ev48 => ?_)
      have tv48 := a_add ev48 (by omega) (by omega)
      refine m_puti (1000) 25 hx hb hts hown hE oc10 hM hS hJ.1 rfl (by decide) rfl rfl rfl rfl tb_1202 dX10_fact_54 (fun H locs I49 eI49 hM hS => ?_)
      subst eI49
      have hI := hI.put (n := 1000) (k := 25) (v := v48) (lo := 0) (hi := 100000) rfl (by first | omega | decide)
      have hK := hK.put (n := 1000) (k := 25) (v := v48) (by first | rfl | simp [inR])
      refine lv_iconst (v := (0)) hx hb dX10_fact_57 (by decide) ?_
      have pw50 : ((u2 I35 (1000) 25 (v48)) (1000) 24).toInt = (I (1000) 24 : Int32).toInt := (congrArg Int32.toInt ((show (u2 I35 (1000) 25 (v48)) (1000) 24 = I35 (1000) 24 from by simp [u2_v]))).trans pw39
      have pw51 : ((u2 I35 (1000) 25 (v48)) (1000) 25).toInt = (v48 : Int32).toInt := congrArg Int32.toInt ((show (u2 I35 (1000) 25 (v48)) (1000) 25 = v48 from by simp [u2_v]))
      have pw52 : ((u2 I35 (1000) 25 (v48)) (1000) 26).toInt = (I35 (1000) 26 : Int32).toInt := congrArg Int32.toInt ((show (u2 I35 (1000) 25 (v48)) (1000) 26 = I35 (1000) 26 from by simp [u2_v]))
      have pw53 : ((u2 I35 (1000) 25 (v48)) (1000) 27).toInt = (I (1000) 27 : Int32).toInt := (congrArg Int32.toInt ((show (u2 I35 (1000) 25 (v48)) (1000) 27 = I35 (1000) 27 from by simp [u2_v]))).trans pw41
      have pw54 : ((u2 I35 (1000) 25 (v48)) (1000) 29).toInt = (I (1000) 29 : Int32).toInt := (congrArg Int32.toInt ((show (u2 I35 (1000) 25 (v48)) (1000) 29 = I35 (1000) 29 from by simp [u2_v]))).trans pw42
      have pw55 : ((u2 I35 (1000) 25 (v48)) (1000) 31).toInt = (I (1000) 31 : Int32).toInt := (congrArg Int32.toInt ((show (u2 I35 (1000) 25 (v48)) (1000) 31 = I35 (1000) 31 from by simp [u2_v]))).trans pw43
      have pw56 : ((u2 I35 (1000) 25 (v48)) (1000) 32).toInt = (I35 (1000) 32 : Int32).toInt := congrArg Int32.toInt ((show (u2 I35 (1000) 25 (v48)) (1000) 32 = I35 (1000) 32 from by simp [u2_v]))
      replace hC := CT.link (I2 := (u2 I35 (1000) 25 (v48))) hC ((((show (u2 I35 (1000) 25 (v48)) 1035 = I35 1035 from by funext zz; simp [u2_v])).trans (hkI35.getA 1035 rfl)).trans (hkI1.getA 1035 rfl)) ((((show (u2 I35 (1000) 25 (v48)) 1036 = I35 1036 from by funext zz; simp [u2_v])).trans (hkI35.getA 1036 rfl)).trans (hkI1.getA 1036 rfl)) (by omega) (fun hz => by have w0 := xI35.2.1 (by omega); have w1 := hPN (by omega); omega)
      have pw57 : ((u2 I35 (1000) 25 (v48)) (1000) 30).toInt = (I35 (1000) 30 : Int32).toInt := congrArg Int32.toInt ((show (u2 I35 (1000) 25 (v48)) (1000) 30 = I35 (1000) 30 from by simp [u2_v]))
      have nn58 := NS_of (I2 := (u2 I35 (1000) 25 (v48))) (I := I35) ((show (u2 I35 (1000) 25 (v48)) 1042 = I35 1042 from by funext zz; simp [u2_v])) (by omega)
      have gO := hI.get 1000 32 (lo := 0) (hi := 402) rfl
      have z1 := tn (i := I1 1000 25) (by omega)
      have z2 := tn (i := (u2 I35 (1000) 25 (v48)) 1000 25) (by omega)
      have hdo := xI35.1.2.1 (by decide)
      exact m_zret hx hb hr rfl hlocks hM hS (Nat.le_of_ble_eq_true rfl) (Nat.le_of_ble_eq_true rfl) ⟨_, _, rfl, hI, hK, ⟨(by rw [k0]; exact FCT.beg (I := I) (I2 := I1) (FCT.of (fun hf => fct_push (q := (I1 1000 25).toNatClampNeg) (o := -42) (by rw [nw10, skp_i hT]) (by decide) (tk_op hT sc34).1 (fun hz => by have w1 := (hdo.2 (by omega)).1 hz; omega) (fun hz => by have w1 := (hdo.2 (by omega)).2 hz; exact ⟨by omega, by rw [(tk_op hT sc34).2]; omega, by omega, (RC_of (J := I1) (J2 := (u2 I35 (1000) 25 (v48))) (((show (u2 I35 (1000) 25 (v48)) 1035 = I35 1035 from by funext zz; simp [u2_v])).trans (hkI35.getA 1035 rfl)) (((show (u2 I35 (1000) 25 (v48)) 1036 = I35 1036 from by funext zz; simp [u2_v])).trans (hkI35.getA 1036 rfl)) (by omega) (by omega)), ((RK_of (J := I35) (J2 := (u2 I35 (1000) 25 (v48))) ((show (u2 I35 (1000) 25 (v48)) 1042 = I35 1042 from by funext zz; simp [u2_v])) (by omega))).trans (xI35.1.1.trans (by rw [show encs (12 : Int32).toInt = -42 from by decide])), (Int32.toInt_inj.mp (by omega)).trans hdo.1⟩))) (by omega) (by rw [nw10, skp_i hT]) (by omega) (RC_of (J := I) (J2 := I1) ((hkI1.getA 1035 rfl)) ((hkI1.getA 1036 rfl)) (by omega) (by omega)) (RK_of (J := I) (J2 := I1) ((hkI1.getA 1042 rfl)) (by omega)) (Int32.toInt_inj.mp (by omega))), by omega, by omega, by omega, by omega, by omega, by omega, by omega, (fun hz => by have w0 := xI35.2.1 (by omega); have w1 := hPN (by omega); omega), fun _ => (by rw [show NB (u2 I35 (1000) 25 (v48)) = NB I from by omega]; exact hC), fun h => absurd h (by decide)⟩⟩ dX10_fact_58
  · have hc15 := c15
    have q15 := q_ne hc15
    have sg59 := slr11 (by omega)
    have sc60 := sx14.y (by omega)
    refine lv_aload_n hx hb dX10_fact_14 rfl (lv_at hl 0 rfl) ?_
    refine lv_bipush (v := (9)) hx hb dX10_fact_15 (by decide) ?_
    refine m_callv (m_runV (1000) (As := [.int (9)]) (rest := []) hx hb hml hown hts hE hM hS hA ce_X10_opens tb_1586 (V_X10_opens_h l D A ad ns I1 L2 G (9) hJ hI (by first | omega | decide) (by omega)) rfl rfl ⟨Nat.le_of_ble_eq_true rfl, Nat.le_of_ble_eq_true rfl⟩ hJ.1 rfl rfl (by decide) rfl hl.1 rfl (Nat.le_of_ble_eq_true rfl) dX10_fact_17 ⟨Nat.le_of_ble_eq_true rfl, Nat.le_of_ble_eq_true rfl⟩) hS (fun u H locs hw hM hS => ?_)
    obtain ⟨I61, L62, rfl, hI, hkI61, xI61⟩ := hw
    have hM : Mem D A ad ns I61 L62 G H := hM
    have hK := hK.trans hkI61 rfl
    have g63 := hI.get 1000 32 (lo := 0) (hi := 402) rfl
    have nn64 := NS_of (I2 := I1) (I := I) ((hkI1.getA 1042 rfl)) (by omega)
    have pw65 : (I61 (1000) 24).toInt = (I (1000) 24 : Int32).toInt := (congrArg Int32.toInt ((hkI61.get (1000) 24 rfl))).trans pw3
    have pw66 : (I61 (1000) 25).toInt = (I1 (1000) 25 : Int32).toInt := congrArg Int32.toInt ((hkI61.get (1000) 25 rfl))
    have pw67 : (I61 (1000) 27).toInt = (I (1000) 27 : Int32).toInt := (congrArg Int32.toInt ((hkI61.get (1000) 27 rfl))).trans pw5
    have pw68 : (I61 (1000) 29).toInt = (I (1000) 29 : Int32).toInt := (congrArg Int32.toInt ((hkI61.get (1000) 29 rfl))).trans pw6
    have pw69 : (I61 (1000) 31).toInt = (I (1000) 31 : Int32).toInt := (congrArg Int32.toInt ((hkI61.get (1000) 31 rfl))).trans pw8
    have pv70 : pN 9 = 1 ∧ pB 9 = 0 := by decide
    have po71 := xI61.2.2
    refine lv_aload_n hx hb dX10_fact_20 rfl (lv_at hl 0 rfl) ?_
    refine lv_dup hx hb dX10_fact_21 rfl ?_
    refine m_geti (1000) 25 hx hb hts hown hE oc10 hM hJ.1 rfl (by decide) rfl tb_1202 dX10_fact_22 ?_
    have g72 := hI.get (1000) 25 (lo := 0) (hi := 100000) rfl
    have z73 : I61 (1000) 25 = I1 (1000) 25 := (hkI61.get (1000) 25 rfl)
    rw [z73] at g72 ⊢
    refine lv_iconst (v := (3)) hx hb dX10_fact_25 (by decide) ?_
    refine lv_iadd hx hb dX10_fact_26 ?_
    refine lv_topi (fun v74 ev74 => ?_)
    have tv74 := a_add ev74 (by omega) (by omega)
    refine m_puti (1000) 25 hx hb hts hown hE oc10 hM hS hJ.1 rfl (by decide) rfl rfl rfl rfl tb_1202 dX10_fact_27 (fun H locs I75 eI75 hM hS => ?_)
    subst eI75
    have hI := hI.put (n := 1000) (k := 25) (v := v74) (lo := 0) (hi := 100000) rfl (by first | omega | decide)
    have hK := hK.put (n := 1000) (k := 25) (v := v74) (by first | rfl | simp [inR])
    refine lv_iconst (v := (0)) hx hb dX10_fact_30 (by decide) ?_
    have pw76 : ((u2 I61 (1000) 25 (v74)) (1000) 24).toInt = (I (1000) 24 : Int32).toInt := (congrArg Int32.toInt ((show (u2 I61 (1000) 25 (v74)) (1000) 24 = I61 (1000) 24 from by simp [u2_v]))).trans pw65
    have pw77 : ((u2 I61 (1000) 25 (v74)) (1000) 25).toInt = (v74 : Int32).toInt := congrArg Int32.toInt ((show (u2 I61 (1000) 25 (v74)) (1000) 25 = v74 from by simp [u2_v]))
    have pw78 : ((u2 I61 (1000) 25 (v74)) (1000) 26).toInt = (I61 (1000) 26 : Int32).toInt := congrArg Int32.toInt ((show (u2 I61 (1000) 25 (v74)) (1000) 26 = I61 (1000) 26 from by simp [u2_v]))
    have pw79 : ((u2 I61 (1000) 25 (v74)) (1000) 27).toInt = (I (1000) 27 : Int32).toInt := (congrArg Int32.toInt ((show (u2 I61 (1000) 25 (v74)) (1000) 27 = I61 (1000) 27 from by simp [u2_v]))).trans pw67
    have pw80 : ((u2 I61 (1000) 25 (v74)) (1000) 29).toInt = (I (1000) 29 : Int32).toInt := (congrArg Int32.toInt ((show (u2 I61 (1000) 25 (v74)) (1000) 29 = I61 (1000) 29 from by simp [u2_v]))).trans pw68
    have pw81 : ((u2 I61 (1000) 25 (v74)) (1000) 31).toInt = (I (1000) 31 : Int32).toInt := (congrArg Int32.toInt ((show (u2 I61 (1000) 25 (v74)) (1000) 31 = I61 (1000) 31 from by simp [u2_v]))).trans pw69
    have pw82 : ((u2 I61 (1000) 25 (v74)) (1000) 32).toInt = (I61 (1000) 32 : Int32).toInt := congrArg Int32.toInt ((show (u2 I61 (1000) 25 (v74)) (1000) 32 = I61 (1000) 32 from by simp [u2_v]))
    replace hC := CT.link (I2 := (u2 I61 (1000) 25 (v74))) hC ((((show (u2 I61 (1000) 25 (v74)) 1035 = I61 1035 from by funext zz; simp [u2_v])).trans (hkI61.getA 1035 rfl)).trans (hkI1.getA 1035 rfl)) ((((show (u2 I61 (1000) 25 (v74)) 1036 = I61 1036 from by funext zz; simp [u2_v])).trans (hkI61.getA 1036 rfl)).trans (hkI1.getA 1036 rfl)) (by omega) (fun hz => by have w0 := xI61.2.1 (by omega); have w1 := hPN (by omega); omega)
    have pw83 : ((u2 I61 (1000) 25 (v74)) (1000) 30).toInt = (I61 (1000) 30 : Int32).toInt := congrArg Int32.toInt ((show (u2 I61 (1000) 25 (v74)) (1000) 30 = I61 (1000) 30 from by simp [u2_v]))
    have nn84 := NS_of (I2 := (u2 I61 (1000) 25 (v74))) (I := I61) ((show (u2 I61 (1000) 25 (v74)) 1042 = I61 1042 from by funext zz; simp [u2_v])) (by omega)
    have gO := hI.get 1000 32 (lo := 0) (hi := 402) rfl
    have z1 := tn (i := I1 1000 25) (by omega)
    have z2 := tn (i := (u2 I61 (1000) 25 (v74)) 1000 25) (by omega)
    have hdo := xI61.1.2.1 (by decide)
    exact m_zret hx hb hr rfl hlocks hM hS (Nat.le_of_ble_eq_true rfl) (Nat.le_of_ble_eq_true rfl) ⟨_, _, rfl, hI, hK, ⟨(by rw [k0]; exact FCT.beg (I := I) (I2 := I1) (FCT.of (fun hf => fct_push (q := (I1 1000 25).toNatClampNeg) (o := -14) (by rw [nw10, skp_i hT]) (by decide) (tk_not sc60).1 (fun hz => by have w1 := (hdo.2 (by omega)).1 hz; omega) (fun hz => by have w1 := (hdo.2 (by omega)).2 hz; exact ⟨by omega, by rw [(tk_not sc60).2.1]; omega, by omega, (RC_of (J := I1) (J2 := (u2 I61 (1000) 25 (v74))) (((show (u2 I61 (1000) 25 (v74)) 1035 = I61 1035 from by funext zz; simp [u2_v])).trans (hkI61.getA 1035 rfl)) (((show (u2 I61 (1000) 25 (v74)) 1036 = I61 1036 from by funext zz; simp [u2_v])).trans (hkI61.getA 1036 rfl)) (by omega) (by omega)), ((RK_of (J := I61) (J2 := (u2 I61 (1000) 25 (v74))) ((show (u2 I61 (1000) 25 (v74)) 1042 = I61 1042 from by funext zz; simp [u2_v])) (by omega))).trans (xI61.1.1.trans (by rw [show encs (9 : Int32).toInt = -14 from by decide])), (Int32.toInt_inj.mp (by omega)).trans hdo.1⟩))) (by omega) (by rw [nw10, skp_i hT]) (by omega) (RC_of (J := I) (J2 := I1) ((hkI1.getA 1035 rfl)) ((hkI1.getA 1036 rfl)) (by omega) (by omega)) (RK_of (J := I) (J2 := I1) ((hkI1.getA 1042 rfl)) (by omega)) (Int32.toInt_inj.mp (by omega))), by omega, by omega, by omega, by omega, by omega, by omega, by omega, (fun hz => by have w0 := xI61.2.1 (by omega); have w1 := hPN (by omega); omega), fun _ => (by rw [show NB (u2 I61 (1000) 25 (v74)) = NB I from by omega]; exact hC), fun h => absurd h (by decide)⟩⟩ dX10_fact_31
