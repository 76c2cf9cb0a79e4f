set_option maxHeartbeats 4000000 in
set_option maxRecDepth 20000 in
theorem V_X10_term_h (l : Launch) (D : va_G) (A : Nat → Prop) (ad : Nat → Nat) (ns : List Nat) (I : MI) (L : ML) (G : MG) (hJ : SGM ns G) (hI : INV I) (hp : (I 1000 25).toInt ≤ 400) (hPI : Imp ((I 1000 26).toInt = 0) (0 ≤ (I 1000 31).toInt ∧ (I 1000 31).toInt ≤ 60 ∧ 3 * (I 1000 29).toInt ≤ 6 * (I 1000 31).toInt + (I 1000 25).toInt)) (hbt : BTM I) : Met l yX10_term (wd yX10_term cX10_term 2 none) ({ frames := 6, cells := 0, slots := 0, locals := 131 }) (va_Pc [.ref (ad (1000))] (PM D A ad ns I L G)) (va_Qv (fun u => ∃ I2 L2, u = (ad, ns, I2, L2, G) ∧ INV I2 ∧ Kp [(1035, 1037)] [(1000, 25), (1000, 26), (1000, 29), (1000, 31)] I I2 ∧ (((EXP (TM I) I I2 6 ∧ KF I I2) ∧ NX6 (TM I) I2) ∧ (I 1000 25).toInt ≤ (I2 1000 25).toInt ∧ (I2 1000 25).toInt ≤ 400 ∧ (I 1000 29).toInt ≤ (I2 1000 29).toInt ∧ Imp ((I2 1000 26).toInt = 0) ((I 1000 26).toInt = 0 ∧ (I 1000 31).toInt + 1 ≤ (I2 1000 31).toInt ∧ (I2 1000 31).toInt ≤ 60 ∧ (I2 1000 29).toInt + 1 ≤ (I 1000 29).toInt + 2 * ((I2 1000 31).toInt - (I 1000 31).toInt)) ∧ CT I I2 0 1)) (BM D A) A) 0 0 A := by
  refine m_ofW (by decide) (Nat.le_of_ble_eq_true rfl) ?_
  intro p e s m below meth c ls args hC hE hM hA hS hl
  obtain ⟨hx, hb, hml, hown, hts, hr, hlocks, hin⟩ := hC
  have k0 : (0 : Int32).toInt = 0 := by decide
  have k1 : (1 : Int32).toInt = 1 := by decide
  have k13 : (13 : Int32).toInt = 13 := by decide
  have k14 : (14 : Int32).toInt = 14 := by decide
  have k42 : (42 : Int32).toInt = 42 := by decide
  have k47 : (47 : Int32).toInt = 47 := by decide
  have hC := CT.rf I 0
  have hI0 := hI
  have hT := TM_ok hI
  have gRL := hI.get 1000 29 (lo := 0) (hi := 300) rfl
  have hRL := RC_len (J := I) gRL.1
  have gPP := hI.get 1000 25 (lo := 0) (hi := 100000) rfl
  have hK : Kp [(1035, 1037)] [(1000, 25), (1000, 26), (1000, 29), (1000, 31)] I I := Kp.rf
  have hl : lv_has ls 2 [(0, .ref (ad (1000)))] := hl
  refine lv_aload_n hx hb dX10_term_0 rfl (lv_at hl 0 rfl) ?_
  refine m_callv (m_runV (1000) (As := []) (rest := []) hx hb hml hown hts hE hM hS hA ce_X10_value tb_1543 (V_X10_value_h l D A ad ns I L G hJ hI (by omega) (fun hz => by have w0 := hPI (by omega); omega) hbt) rfl rfl ⟨Nat.le_of_ble_eq_true rfl, Nat.le_of_ble_eq_true rfl⟩ hJ.1 rfl rfl (by decide) rfl hl.1 rfl (Nat.le_of_ble_eq_true rfl) dX10_term_1 ⟨Nat.le_of_ble_eq_true rfl, Nat.le_of_ble_eq_true rfl⟩) hS (fun u H locs hw hM hS => ?_)
  obtain ⟨I1, L2, rfl, hI, hkI1, xI1⟩ := hw
  have hM : Mem D A ad ns I1 L2 G H := hM
  have hK := hK.trans hkI1 rfl
  have pw3 : (I1 (1000) 24).toInt = (I (1000) 24 : Int32).toInt := congrArg Int32.toInt ((hkI1.get (1000) 24 rfl))
  have pw4 : (I1 (1000) 27).toInt = (I (1000) 27 : Int32).toInt := congrArg Int32.toInt ((hkI1.get (1000) 27 rfl))
  have pw5 : (I1 (1000) 30).toInt = (I (1000) 30 : Int32).toInt := congrArg Int32.toInt ((hkI1.get (1000) 30 rfl))
  have pw6 : (I1 (1000) 32).toInt = (I (1000) 32 : Int32).toInt := congrArg Int32.toInt ((hkI1.get (1000) 32 rfl))
  have g7 := hI0.get 1000 27 (lo := 0) (hi := 5) rfl
  have g8 := hI0.get 1000 29 (lo := 0) (hi := 300) rfl
  replace hC := hC.comp ((xI1.2.2.2.2.2).mono0 (0)) (by omega) (by omega) (by omega) (by omega) (fun hz => (xI1.2.2.2.2.1 hz).1)
  have nw9 := xI1.1
  refine lv_aload_n hx hb dX10_term_4 rfl (lv_at hl 0 rfl) ?_
  refine m_callv (m_runV (1000) (As := []) (rest := []) hx hb hml hown hts hE hM hS hA ce_X10_blanks tb_1506 (V_X10_blanks_h l D A ad ns I1 L2 G hJ hI (by omega)) rfl rfl ⟨Nat.le_of_ble_eq_true rfl, Nat.le_of_ble_eq_true rfl⟩ hJ.1 rfl rfl (by decide) rfl hl.1 rfl (Nat.le_of_ble_eq_true rfl) dX10_term_5 ⟨Nat.le_of_ble_eq_true rfl, Nat.le_of_ble_eq_true rfl⟩) hS (fun u H locs hw hM hS => ?_)
  obtain ⟨I10, L11, rfl, hI, hkI10, xI10⟩ := hw
  have hM : Mem D A ad ns I10 L11 G H := hM
  have hK := hK.trans hkI10 rfl
  have pw12 : (I10 (1000) 24).toInt = (I (1000) 24 : Int32).toInt := (congrArg Int32.toInt ((hkI10.get (1000) 24 rfl))).trans pw3
  have pw13 : (I10 (1000) 26).toInt = (I1 (1000) 26 : Int32).toInt := congrArg Int32.toInt ((hkI10.get (1000) 26 rfl))
  have pw14 : (I10 (1000) 27).toInt = (I (1000) 27 : Int32).toInt := (congrArg Int32.toInt ((hkI10.get (1000) 27 rfl))).trans pw4
  have pw15 : (I10 (1000) 29).toInt = (I1 (1000) 29 : Int32).toInt := congrArg Int32.toInt ((hkI10.get (1000) 29 rfl))
  have pw16 : (I10 (1000) 30).toInt = (I (1000) 30 : Int32).toInt := (congrArg Int32.toInt ((hkI10.get (1000) 30 rfl))).trans pw5
  have pw17 : (I10 (1000) 31).toInt = (I1 (1000) 31 : Int32).toInt := congrArg Int32.toInt ((hkI10.get (1000) 31 rfl))
  have pw18 : (I10 (1000) 32).toInt = (I (1000) 32 : Int32).toInt := (congrArg Int32.toInt ((hkI10.get (1000) 32 rfl))).trans pw6
  have nw19 := xI10.1
  rw [show TM I1 = TM I from (TM_of (hkI10.getA 1034 rfl) (hkI10.get 1000 24 rfl)).symm.trans (TM_of (hK.getA 1034 rfl) (hK.get 1000 24 rfl))] at nw19
  replace hC := CT.link (I2 := I10) hC ((hkI10.getA 1035 rfl)) ((hkI10.getA 1036 rfl)) (by omega) (fun hz => by have w0 := xI1.2.2.2.2.1 (by omega); have w1 := hPI (by omega); omega)
  have loop8 : ∀ (n : Nat)  (Ia8 : MI) (La8 : ML) (H : Heap) (locs : List Loc) (ls : Array Slot), INV Ia8 → Kp [(1035, 1037)] [(1000, 25), (1000, 26), (1000, 29), (1000, 31)] I Ia8 → ((I 1000 25).toInt ≤ (Ia8 1000 25).toInt ∧ (Ia8 1000 25).toInt ≤ 400 ∧ (I 1000 29).toInt ≤ (Ia8 1000 29).toInt) → (Imp ((Ia8 1000 26).toInt = 0) ((I 1000 26).toInt = 0 ∧ (I 1000 31).toInt + 1 ≤ (Ia8 1000 31).toInt ∧ (Ia8 1000 31).toInt ≤ 60 ∧ (Ia8 1000 29).toInt + 1 ≤ (I 1000 29).toInt + 2 * ((Ia8 1000 31).toInt - (I 1000 31).toInt))) → (CT I Ia8 0 1) → (EXP (TM I) I Ia8 6) → (KF I Ia8) → (NXB (TM I) Ia8) → (400 - (Ia8 1000 25).toInt).toNat < n → Mem D A ad ns Ia8 La8 G H → va_S A s.heap H locs → lv_has ls 2 [(0, .ref (ad (1000)))] → W p l e ({ frames := 6, cells := 0, slots := 0, locals := 131 } : Room) s m args below meth c H locs 0 0 (MQ below (va_Qv (fun u => ∃ I2 L2, u = (ad, ns, I2, L2, G) ∧ INV I2 ∧ Kp [(1035, 1037)] [(1000, 25), (1000, 26), (1000, 29), (1000, 31)] I I2 ∧ (((EXP (TM I) I I2 6 ∧ KF I I2) ∧ NX6 (TM I) I2) ∧ (I 1000 25).toInt ≤ (I2 1000 25).toInt ∧ (I2 1000 25).toInt ≤ 400 ∧ (I 1000 29).toInt ≤ (I2 1000 29).toInt ∧ Imp ((I2 1000 26).toInt = 0) ((I 1000 26).toInt = 0 ∧ (I 1000 31).toInt + 1 ≤ (I2 1000 31).toInt ∧ (I2 1000 31).toInt ≤ 60 ∧ (I2 1000 29).toInt + 1 ≤ (I 1000 29).toInt + 2 * ((I2 1000 31).toInt - (I 1000 31).toInt)) ∧ CT I I2 0 1)) (BM D A) A) args s 0 0 A) (F0 m 8 ls []) := by
    intro n
    induction n with
    | zero =>
      intro  Ia8 La8 H locs ls hI hK hlin hcn hC hEX hKF hNB hmu
      exact absurd hmu (Nat.not_lt_zero _)
    | succ n ih8 =>
      intro  Ia8 La8 H locs ls hI hK hlin hcn hC hEX hKF hNB hmu8 hM hS hl
      have pk27 := congrArg Int32.toInt (hK.get 1000 27 rfl)
      have pk24 := congrArg Int32.toInt (hK.get 1000 24 rfl)
      have gx27 := hI0.get 1000 27 (lo := 0) (hi := 5) rfl
      have gx29 := hI0.get 1000 29 (lo := 0) (hi := 300) rfl
      have gR9 := hI.get 1000 29 (lo := 0) (hi := 300) rfl
      have hR9 := RC_len (J := Ia8) gR9.1
      have gP9 := hI.get 1000 25 (lo := 0) (hi := 100000) rfl
      refine lv_aload_n hx hb dX10_term_8 rfl (lv_at hl 0 rfl) ?_
      refine m_geti (1000) 26 hx hb hts hown hE oc10 hM hJ.1 rfl (by decide) rfl tb_1203 dX10_term_9 ?_
      refine lv_if_ne (tgt := 77) hx hb dX10_term_12 (by decide) (fun c20 => ?_) (fun c20 => ?_)
      · have hc20 := c20
        have q20 := q_ne hc20
        exact m_vret hx hb hr hlocks hM hS (Nat.le_of_ble_eq_true rfl) (Nat.le_of_ble_eq_true rfl) ⟨_, _, rfl, hI, hK, ⟨⟨⟨hEX, hKF⟩, fun hz => by omega⟩, by omega, by omega, by omega, (fun hz => by have w0 := hcn (by omega); have w1 := hPI (by omega); omega), hC⟩⟩ dX10_term_77
      · have hc20 := c20
        have q20 := q_eq hc20
        have w21 := hcn (by omega)
        have w22 := hPI (by omega)
        refine lv_aload_n hx hb dX10_term_15 rfl (lv_at hl 0 rfl) ?_
        refine m_calli (m_runV (1000) (As := []) (rest := []) hx hb hml hown hts hE hM hS hA ce_X10_sign tb_1510 (V_X10_sign_h l D A ad ns Ia8 La8 G hJ hI) rfl rfl ⟨Nat.le_of_ble_eq_true rfl, Nat.le_of_ble_eq_true rfl⟩ hJ.1 rfl rfl (by decide) rfl hl.1 rfl (Nat.le_of_ble_eq_true rfl) dX10_term_16 ⟨Nat.le_of_ble_eq_true rfl, Nat.le_of_ble_eq_true rfl⟩) hS (fun r23 u H locs hw hM hS => ?_)
        obtain ⟨rfl, xr23⟩ := hw
        have hM : Mem D A ad ns Ia8 La8 G H := hM
        have g24 := hI.get 1000 24 (lo := 0) (hi := 400) rfl
        have g25 := hI.get 1000 25 (lo := 0) (hi := 100000) rfl
        have sx26 := xr23.1
        rw [show TM Ia8 = TM I from (TM_of (hK.getA 1034 rfl) (hK.get 1000 24 rfl))] at sx26
        refine lv_bipush (v := (42)) hx hb dX10_term_19 (by decide) ?_
        refine lv_icmp_eq (tgt := 33) hx hb dX10_term_21 (by decide) (fun c27 => ?_) (fun c27 => ?_)
        · have hc27 := c27
          have q27 := q_eq hc27
          have sg28 := xr23.2.2.2 (by omega)
          have sc29 := sx26.y (k := 42) (by omega) (by decide)
          refine lv_aload_n hx hb dX10_term_33 rfl (lv_at hl 0 rfl) ?_
          refine m_calli (m_runV (1000) (As := []) (rest := []) hx hb hml hown hts hE hM hS hA ce_X10_sign tb_1510 (V_X10_sign_h l D A ad ns Ia8 La8 G hJ hI) rfl rfl ⟨Nat.le_of_ble_eq_true rfl, Nat.le_of_ble_eq_true rfl⟩ hJ.1 rfl rfl (by decide) rfl hl.1 rfl (Nat.le_of_ble_eq_true rfl) dX10_term_34 ⟨Nat.le_of_ble_eq_true rfl, Nat.le_of_ble_eq_true rfl⟩) hS (fun r30 u H locs hw hM hS => ?_)
          obtain ⟨rfl, xr30⟩ := hw
          have hM : Mem D A ad ns Ia8 La8 G H := hM
          have g31 := hI.get 1000 24 (lo := 0) (hi := 400) rfl
          have g32 := hI.get 1000 25 (lo := 0) (hi := 100000) rfl
          have sx33 := xr30.1
          rw [show TM Ia8 = TM I from (TM_of (hK.getA 1034 rfl) (hK.get 1000 24 rfl))] at sx33
          refine lv_bipush (v := (42)) hx hb dX10_term_37 (by decide) ?_
          refine lv_icmp_ne (tgt := 47) hx hb dX10_term_39 (by decide) (fun c34 => ?_) (fun c34 => ?_)
          · have hc34 := c34
            have q34 := q_ne hc34
            have sc35 := sx33.n (k := 42) (by omega) (by decide)
            refine lv_bipush (v := (14)) hx hb dX10_term_47 (by decide) ?_
            refine lv_istore_n (lv' := [(1, .int (14)), (0, .ref (ad (1000)))]) hx hb dX10_term_49 rfl hl (by decide) rfl (fun ls hl => ?_)
            refine lv_aload_n hx hb dX10_term_50 rfl (lv_at hl 1 rfl) ?_
            refine lv_dup hx hb dX10_term_51 rfl ?_
            refine m_geti (1000) 25 hx hb hts hown hE oc10 hM hJ.1 rfl (by decide) rfl tb_1202 dX10_term_52 ?_
            have g36 := hI.get (1000) 25 (lo := 0) (hi := 100000) rfl
            refine lv_iconst (v := (1)) hx hb dX10_term_55 (by decide) ?_
            refine lv_iadd hx hb dX10_term_56 ?_
            refine lv_topi (fun v37 ev37 => ?_)
            have tv37 := a_add ev37 (by omega) (by omega)
            refine m_puti (1000) 25 hx hb hts hown hE oc10 hM hS hJ.1 rfl (by decide) rfl rfl rfl rfl tb_1202 dX10_term_57 (fun H locs I38 eI38 hM hS => ?_)
            subst eI38
            have hI := hI.put (n := 1000) (k := 25) (v := v37) (lo := 0) (hi := 100000) rfl (by first | omega | decide)
            have hK := hK.put (n := 1000) (k := 25) (v := v37) (by first | rfl | simp [inR])
            refine lv_aload_n hx hb dX10_term_60 rfl (lv_at hl 1 rfl) ?_
            have pw39 : ((u2 Ia8 (1000) 25 (v37)) (1000) 24).toInt = (Ia8 (1000) 24 : Int32).toInt := congrArg Int32.toInt ((show (u2 Ia8 (1000) 25 (v37)) (1000) 24 = Ia8 (1000) 24 from by simp [u2_v]))
            have pw40 : ((u2 Ia8 (1000) 25 (v37)) (1000) 25).toInt = (v37 : Int32).toInt := congrArg Int32.toInt ((show (u2 Ia8 (1000) 25 (v37)) (1000) 25 = v37 from by simp [u2_v]))
            have pw41 : ((u2 Ia8 (1000) 25 (v37)) (1000) 26).toInt = (Ia8 (1000) 26 : Int32).toInt := congrArg Int32.toInt ((show (u2 Ia8 (1000) 25 (v37)) (1000) 26 = Ia8 (1000) 26 from by simp [u2_v]))
            have pw42 : ((u2 Ia8 (1000) 25 (v37)) (1000) 27).toInt = (Ia8 (1000) 27 : Int32).toInt := congrArg Int32.toInt ((show (u2 Ia8 (1000) 25 (v37)) (1000) 27 = Ia8 (1000) 27 from by simp [u2_v]))
            have pw43 : ((u2 Ia8 (1000) 25 (v37)) (1000) 29).toInt = (Ia8 (1000) 29 : Int32).toInt := congrArg Int32.toInt ((show (u2 Ia8 (1000) 25 (v37)) (1000) 29 = Ia8 (1000) 29 from by simp [u2_v]))
            have pw44 : ((u2 Ia8 (1000) 25 (v37)) (1000) 30).toInt = (Ia8 (1000) 30 : Int32).toInt := congrArg Int32.toInt ((show (u2 Ia8 (1000) 25 (v37)) (1000) 30 = Ia8 (1000) 30 from by simp [u2_v]))
            have pw45 : ((u2 Ia8 (1000) 25 (v37)) (1000) 31).toInt = (Ia8 (1000) 31 : Int32).toInt := congrArg Int32.toInt ((show (u2 Ia8 (1000) 25 (v37)) (1000) 31 = Ia8 (1000) 31 from by simp [u2_v]))
            have pw46 : ((u2 Ia8 (1000) 25 (v37)) (1000) 32).toInt = (Ia8 (1000) 32 : Int32).toInt := congrArg Int32.toInt ((show (u2 Ia8 (1000) 25 (v37)) (1000) 32 = Ia8 (1000) 32 from by simp [u2_v]))
            refine m_callv (m_runV (1000) (As := []) (rest := []) hx hb hml hown hts hE hM hS hA ce_X10_value tb_1543 (V_X10_value_h l D A ad ns (u2 Ia8 (1000) 25 (v37)) La8 G hJ hI (by omega) (fun hz => by omega) (hbt.of (hK.getA 1034 rfl) (hK.get 1000 24 rfl))) rfl rfl ⟨Nat.le_of_ble_eq_true rfl, Nat.le_of_ble_eq_true rfl⟩ hJ.1 rfl rfl (by decide) rfl hl.1 rfl (Nat.le_of_ble_eq_true rfl) dX10_term_61 ⟨Nat.le_of_ble_eq_true rfl, Nat.le_of_ble_eq_true rfl⟩) hS (fun u H locs hw hM hS => ?_)
            obtain ⟨I47, L48, rfl, hI, hkI47, xI47⟩ := hw
            have hM : Mem D A ad ns I47 L48 G H := hM
            have hK := hK.trans hkI47 rfl
            replace hC := CT.link (I2 := (u2 Ia8 (1000) 25 (v37))) hC ((show (u2 Ia8 (1000) 25 (v37)) 1035 = Ia8 1035 from by funext zz; simp [u2_v])) ((show (u2 Ia8 (1000) 25 (v37)) 1036 = Ia8 1036 from by funext zz; simp [u2_v])) (by omega) (fun hz => by omega)
            have pw49 : (I47 (1000) 24).toInt = (Ia8 (1000) 24 : Int32).toInt := (congrArg Int32.toInt ((hkI47.get (1000) 24 rfl))).trans pw39
            have pw50 : (I47 (1000) 27).toInt = (Ia8 (1000) 27 : Int32).toInt := (congrArg Int32.toInt ((hkI47.get (1000) 27 rfl))).trans pw42
            have pw51 : (I47 (1000) 30).toInt = (Ia8 (1000) 30 : Int32).toInt := (congrArg Int32.toInt ((hkI47.get (1000) 30 rfl))).trans pw44
            have pw52 : (I47 (1000) 32).toInt = (Ia8 (1000) 32 : Int32).toInt := (congrArg Int32.toInt ((hkI47.get (1000) 32 rfl))).trans pw46
            replace hC := hC.comp ((xI47.2.2.2.2.2).mono0 (1)) (by omega) (by omega) (by omega) (by omega) (fun hz => (xI47.2.2.2.2.1 hz).1)
            have nw53 := xI47.1
            rw [show TM (u2 Ia8 (1000) 25 (v37)) = TM I from (TM_of (hkI47.getA 1034 rfl) (hkI47.get 1000 24 rfl)).symm.trans (TM_of (hK.getA 1034 rfl) (hK.get 1000 24 rfl))] at nw53
            refine lv_aload_n hx hb dX10_term_64 rfl (lv_at hl 1 rfl) ?_
            refine lv_iload_n hx hb dX10_term_65 rfl (lv_at hl 0 rfl) ?_
            refine lv_iconst (v := (0)) hx hb dX10_term_66 (by decide) ?_
            refine m_callv (m_runV (1000) (As := [.int (14), .int (0)]) (rest := []) hx hb hml hown hts hE hM hS hA ce_X10_entry tb_1552 (V_X10_entry_h l D A ad ns I47 L48 G (14) (0) hJ hI (fun hz => by have w0 := xI47.2.2.2.2.1 (by omega); omega)) rfl rfl ⟨Nat.le_of_ble_eq_true rfl, Nat.le_of_ble_eq_true rfl⟩ hJ.1 rfl rfl (by decide) rfl hl.1 rfl (Nat.le_of_ble_eq_true rfl) dX10_term_67 ⟨Nat.le_of_ble_eq_true rfl, Nat.le_of_ble_eq_true rfl⟩) hS (fun u H locs hw hM hS => ?_)
            obtain ⟨I54, L55, rfl, hI, hkI54, xI54⟩ := hw
            have hM : Mem D A ad ns I54 L55 G H := hM
            have hK := hK.trans hkI54 rfl
            have pw56 : (I54 (1000) 24).toInt = (Ia8 (1000) 24 : Int32).toInt := (congrArg Int32.toInt ((hkI54.get (1000) 24 rfl))).trans pw49
            have pw57 : (I54 (1000) 25).toInt = (I47 (1000) 25 : Int32).toInt := congrArg Int32.toInt ((hkI54.get (1000) 25 rfl))
            have pw58 : (I54 (1000) 26).toInt = (I47 (1000) 26 : Int32).toInt := congrArg Int32.toInt ((hkI54.get (1000) 26 rfl))
            have pw59 : (I54 (1000) 27).toInt = (Ia8 (1000) 27 : Int32).toInt := (congrArg Int32.toInt ((hkI54.get (1000) 27 rfl))).trans pw50
            have pw60 : (I54 (1000) 30).toInt = (Ia8 (1000) 30 : Int32).toInt := (congrArg Int32.toInt ((hkI54.get (1000) 30 rfl))).trans pw51
            have pw61 : (I54 (1000) 31).toInt = (I47 (1000) 31 : Int32).toInt := congrArg Int32.toInt ((hkI54.get (1000) 31 rfl))
            have pw62 : (I54 (1000) 32).toInt = (Ia8 (1000) 32 : Int32).toInt := (congrArg Int32.toInt ((hkI54.get (1000) 32 rfl))).trans pw52
            replace hC := hC.comp (n2 := 1) (xI54.2.2.2.2.2.ct (by omega) (by omega) xI54.2.2.2.1 (by omega)) (by omega) (by omega) (by omega) (by omega) (fun hz => by omega)
            have xeI54 : Imp ((I54 1000 26).toInt = 0) ((I54 1000 29).toInt = (I47 1000 29).toInt + 1) := fun hz => xI54.2.2.2.1 (by omega)
            have hen63 : Imp ((I47 1000 26).toInt = 0) (RC I54 = RC I47 ++ [enc (14 : Int32).toInt (0 : Int32).toInt]) := fun hz => RC_ent xI54.2.2.2.2.2 hz (by omega) (by omega) (xI54.2.2.2.1 hz)
            refine lv_aload_n hx hb dX10_term_70 rfl (lv_at hl 1 rfl) ?_
            refine m_callv (m_runV (1000) (As := []) (rest := []) hx hb hml hown hts hE hM hS hA ce_X10_blanks tb_1506 (V_X10_blanks_h l D A ad ns I54 L55 G hJ hI (by omega)) rfl rfl ⟨Nat.le_of_ble_eq_true rfl, Nat.le_of_ble_eq_true rfl⟩ hJ.1 rfl rfl (by decide) rfl hl.1 rfl (Nat.le_of_ble_eq_true rfl) dX10_term_71 ⟨Nat.le_of_ble_eq_true rfl, Nat.le_of_ble_eq_true rfl⟩) hS (fun u H locs hw hM hS => ?_)
            obtain ⟨I64, L65, rfl, hI, hkI64, xI64⟩ := hw
            have hM : Mem D A ad ns I64 L65 G H := hM
            have hK := hK.trans hkI64 rfl
            have pw66 : (I64 (1000) 24).toInt = (Ia8 (1000) 24 : Int32).toInt := (congrArg Int32.toInt ((hkI64.get (1000) 24 rfl))).trans pw56
            have pw67 : (I64 (1000) 26).toInt = (I47 (1000) 26 : Int32).toInt := (congrArg Int32.toInt ((hkI64.get (1000) 26 rfl))).trans pw58
            have pw68 : (I64 (1000) 27).toInt = (Ia8 (1000) 27 : Int32).toInt := (congrArg Int32.toInt ((hkI64.get (1000) 27 rfl))).trans pw59
            have pw69 : (I64 (1000) 29).toInt = (I54 (1000) 29 : Int32).toInt := congrArg Int32.toInt ((hkI64.get (1000) 29 rfl))
            have pw70 : (I64 (1000) 30).toInt = (Ia8 (1000) 30 : Int32).toInt := (congrArg Int32.toInt ((hkI64.get (1000) 30 rfl))).trans pw60
            have pw71 : (I64 (1000) 31).toInt = (I47 (1000) 31 : Int32).toInt := (congrArg Int32.toInt ((hkI64.get (1000) 31 rfl))).trans pw61
            have pw72 : (I64 (1000) 32).toInt = (Ia8 (1000) 32 : Int32).toInt := (congrArg Int32.toInt ((hkI64.get (1000) 32 rfl))).trans pw62
            have nw73 := xI64.1
            rw [show TM I54 = TM I from (TM_of (hkI64.getA 1034 rfl) (hkI64.get 1000 24 rfl)).symm.trans (TM_of (hK.getA 1034 rfl) (hK.get 1000 24 rfl))] at nw73
            refine lv_goto (tgt := 8) hx hb dX10_term_74 (by decide) ?_
            replace hC := CT.link (I2 := I64) hC ((hkI64.getA 1035 rfl)) ((hkI64.getA 1036 rfl)) (by omega) (fun hz => by have w0 := xeI54 (by omega); have w1 := xI47.2.2.2.2.1 (by omega); omega)
            exact ih8  I64 L65 _ _ ls hI hK (by omega) (fun hz => by have w0 := xeI54 (by omega); have w1 := xI47.2.2.2.2.1 (by omega); omega) hC (EXP.keep (opr_w (k := 47) (o := -18) hT hEX (by omega) (by decide) (by omega) (by omega) (by have z1 := tn (i := (u2 Ia8 (1000) 25 (v37)) 1000 25) (by omega); have z2 := tn (i := Ia8 1000 25) (by omega); omega) (by omega) (RC_of (J := Ia8) (J2 := (u2 Ia8 (1000) 25 (v37))) ((show (u2 Ia8 (1000) 25 (v37)) 1035 = Ia8 1035 from by funext zz; simp [u2_v])) ((show (u2 Ia8 (1000) 25 (v37)) 1036 = Ia8 1036 from by funext zz; simp [u2_v])) (by omega) (by omega)) (by omega) nw53.1 (by omega) (fun hz => ⟨by rw [show (I54 1000 25).toNatClampNeg = (I47 1000 25).toNatClampNeg from cl_eq (by omega)], by omega, by rw [hen63 hz, enc_v (v := -18) (Or.inr (Or.inr (Or.inr (Or.inr (Or.inl ⟨by omega, rfl⟩)))))]⟩)) (by omega) (fun hz => ⟨by rw [nw73, skp_i hT], by omega, (RC_of (J := I54) (J2 := I64) ((hkI64.getA 1035 rfl)) ((hkI64.getA 1036 rfl)) (by omega) (by omega))⟩)) (fun hz => by have w1 := hKF hz; omega) (fun hz => by rw [nw73]; exact skp_b hT _) (by omega) hM hS (lv_sub hl [1] rfl)
          · have hc34 := c34
            have q34 := q_eq hc34
            have sg74 := xr30.2.2.2 (by omega)
            have sc75 := sx33.y (k := 42) (by omega) (by decide)
            refine lv_bipush (v := (13)) hx hb dX10_term_42 (by decide) ?_
            refine lv_goto (tgt := 49) hx hb dX10_term_44 (by decide) ?_
            refine lv_istore_n (lv' := [(1, .int (13)), (0, .ref (ad (1000)))]) hx hb dX10_term_49 rfl hl (by decide) rfl (fun ls hl => ?_)
            refine lv_aload_n hx hb dX10_term_50 rfl (lv_at hl 1 rfl) ?_
            refine lv_dup hx hb dX10_term_51 rfl ?_
            refine m_geti (1000) 25 hx hb hts hown hE oc10 hM hJ.1 rfl (by decide) rfl tb_1202 dX10_term_52 ?_
            have g76 := hI.get (1000) 25 (lo := 0) (hi := 100000) rfl
            refine lv_iconst (v := (1)) hx hb dX10_term_55 (by decide) ?_
            refine lv_iadd hx hb dX10_term_56 ?_
            refine lv_topi (fun v77 ev77 => ?_)
            have tv77 := a_add ev77 (by omega) (by omega)
            refine m_puti (1000) 25 hx hb hts hown hE oc10 hM hS hJ.1 rfl (by decide) rfl rfl rfl rfl tb_1202 dX10_term_57 (fun H locs I78 eI78 hM hS => ?_)
            subst eI78
            have hI := hI.put (n := 1000) (k := 25) (v := v77) (lo := 0) (hi := 100000) rfl (by first | omega | decide)
            have hK := hK.put (n := 1000) (k := 25) (v := v77) (by first | rfl | simp [inR])
            refine lv_aload_n hx hb dX10_term_60 rfl (lv_at hl 1 rfl) ?_
            have pw79 : ((u2 Ia8 (1000) 25 (v77)) (1000) 24).toInt = (Ia8 (1000) 24 : Int32).toInt := congrArg Int32.toInt ((show (u2 Ia8 (1000) 25 (v77)) (1000) 24 = Ia8 (1000) 24 from by simp [u2_v]))
            have pw80 : ((u2 Ia8 (1000) 25 (v77)) (1000) 25).toInt = (v77 : Int32).toInt := congrArg Int32.toInt ((show (u2 Ia8 (1000) 25 (v77)) (1000) 25 = v77 from by simp [u2_v]))
            have pw81 : ((u2 Ia8 (1000) 25 (v77)) (1000) 26).toInt = (Ia8 (1000) 26 : Int32).toInt := congrArg Int32.toInt ((show (u2 Ia8 (1000) 25 (v77)) (1000) 26 = Ia8 (1000) 26 from by simp [u2_v]))
            have pw82 : ((u2 Ia8 (1000) 25 (v77)) (1000) 27).toInt = (Ia8 (1000) 27 : Int32).toInt := congrArg Int32.toInt ((show (u2 Ia8 (1000) 25 (v77)) (1000) 27 = Ia8 (1000) 27 from by simp [u2_v]))
            have pw83 : ((u2 Ia8 (1000) 25 (v77)) (1000) 29).toInt = (Ia8 (1000) 29 : Int32).toInt := congrArg Int32.toInt ((show (u2 Ia8 (1000) 25 (v77)) (1000) 29 = Ia8 (1000) 29 from by simp [u2_v]))
            have pw84 : ((u2 Ia8 (1000) 25 (v77)) (1000) 30).toInt = (Ia8 (1000) 30 : Int32).toInt := congrArg Int32.toInt ((show (u2 Ia8 (1000) 25 (v77)) (1000) 30 = Ia8 (1000) 30 from by simp [u2_v]))
            have pw85 : ((u2 Ia8 (1000) 25 (v77)) (1000) 31).toInt = (Ia8 (1000) 31 : Int32).toInt := congrArg Int32.toInt ((show (u2 Ia8 (1000) 25 (v77)) (1000) 31 = Ia8 (1000) 31 from by simp [u2_v]))
            have pw86 : ((u2 Ia8 (1000) 25 (v77)) (1000) 32).toInt = (Ia8 (1000) 32 : Int32).toInt := congrArg Int32.toInt ((show (u2 Ia8 (1000) 25 (v77)) (1000) 32 = Ia8 (1000) 32 from by simp [u2_v]))
            refine m_callv (m_runV (1000) (As := []) (rest := []) hx hb hml hown hts hE hM hS hA ce_X10_value tb_1543 (V_X10_value_h l D A ad ns (u2 Ia8 (1000) 25 (v77)) La8 G hJ hI (by omega) (fun hz => by omega) (hbt.of (hK.getA 1034 rfl) (hK.get 1000 24 rfl))) rfl rfl ⟨Nat.le_of_ble_eq_true rfl, Nat.le_of_ble_eq_true rfl⟩ hJ.1 rfl rfl (by decide) rfl hl.1 rfl (Nat.le_of_ble_eq_true rfl) dX10_term_61 ⟨Nat.le_of_ble_eq_true rfl, Nat.le_of_ble_eq_true rfl⟩) hS (fun u H locs hw hM hS => ?_)
            obtain ⟨I87, L88, rfl, hI, hkI87, xI87⟩ := hw
            have hM : Mem D A ad ns I87 L88 G H := hM
            have hK := hK.trans hkI87 rfl
            replace hC := CT.link (I2 := (u2 Ia8 (1000) 25 (v77))) hC ((show (u2 Ia8 (1000) 25 (v77)) 1035 = Ia8 1035 from by funext zz; simp [u2_v])) ((show (u2 Ia8 (1000) 25 (v77)) 1036 = Ia8 1036 from by funext zz; simp [u2_v])) (by omega) (fun hz => by omega)
            have pw89 : (I87 (1000) 24).toInt = (Ia8 (1000) 24 : Int32).toInt := (congrArg Int32.toInt ((hkI87.get (1000) 24 rfl))).trans pw79
            have pw90 : (I87 (1000) 27).toInt = (Ia8 (1000) 27 : Int32).toInt := (congrArg Int32.toInt ((hkI87.get (1000) 27 rfl))).trans pw82
            have pw91 : (I87 (1000) 30).toInt = (Ia8 (1000) 30 : Int32).toInt := (congrArg Int32.toInt ((hkI87.get (1000) 30 rfl))).trans pw84
            have pw92 : (I87 (1000) 32).toInt = (Ia8 (1000) 32 : Int32).toInt := (congrArg Int32.toInt ((hkI87.get (1000) 32 rfl))).trans pw86
            replace hC := hC.comp ((xI87.2.2.2.2.2).mono0 (1)) (by omega) (by omega) (by omega) (by omega) (fun hz => (xI87.2.2.2.2.1 hz).1)
            have nw93 := xI87.1
            rw [show TM (u2 Ia8 (1000) 25 (v77)) = TM I from (TM_of (hkI87.getA 1034 rfl) (hkI87.get 1000 24 rfl)).symm.trans (TM_of (hK.getA 1034 rfl) (hK.get 1000 24 rfl))] at nw93
            refine lv_aload_n hx hb dX10_term_64 rfl (lv_at hl 1 rfl) ?_
            refine lv_iload_n hx hb dX10_term_65 rfl (lv_at hl 0 rfl) ?_
            refine lv_iconst (v := (0)) hx hb dX10_term_66 (by decide) ?_
            refine m_callv (m_runV (1000) (As := [.int (13), .int (0)]) (rest := []) hx hb hml hown hts hE hM hS hA ce_X10_entry tb_1552 (V_X10_entry_h l D A ad ns I87 L88 G (13) (0) hJ hI (fun hz => by have w0 := xI87.2.2.2.2.1 (by omega); omega)) rfl rfl ⟨Nat.le_of_ble_eq_true rfl, Nat.le_of_ble_eq_true rfl⟩ hJ.1 rfl rfl (by decide) rfl hl.1 rfl (Nat.le_of_ble_eq_true rfl) dX10_term_67 ⟨Nat.le_of_ble_eq_true rfl, Nat.le_of_ble_eq_true rfl⟩) hS (fun u H locs hw hM hS => ?_)
            obtain ⟨I94, L95, rfl, hI, hkI94, xI94⟩ := hw
            have hM : Mem D A ad ns I94 L95 G H := hM
            have hK := hK.trans hkI94 rfl
            have pw96 : (I94 (1000) 24).toInt = (Ia8 (1000) 24 : Int32).toInt := (congrArg Int32.toInt ((hkI94.get (1000) 24 rfl))).trans pw89
            have pw97 : (I94 (1000) 25).toInt = (I87 (1000) 25 : Int32).toInt := congrArg Int32.toInt ((hkI94.get (1000) 25 rfl))
            have pw98 : (I94 (1000) 26).toInt = (I87 (1000) 26 : Int32).toInt := congrArg Int32.toInt ((hkI94.get (1000) 26 rfl))
            have pw99 : (I94 (1000) 27).toInt = (Ia8 (1000) 27 : Int32).toInt := (congrArg Int32.toInt ((hkI94.get (1000) 27 rfl))).trans pw90
            have pw100 : (I94 (1000) 30).toInt = (Ia8 (1000) 30 : Int32).toInt := (congrArg Int32.toInt ((hkI94.get (1000) 30 rfl))).trans pw91
            have pw101 : (I94 (1000) 31).toInt = (I87 (1000) 31 : Int32).toInt := congrArg Int32.toInt ((hkI94.get (1000) 31 rfl))
            have pw102 : (I94 (1000) 32).toInt = (Ia8 (1000) 32 : Int32).toInt := (congrArg Int32.toInt ((hkI94.get (1000) 32 rfl))).trans pw92
            replace hC := hC.comp (n2 := 1) (xI94.2.2.2.2.2.ct (by omega) (by omega) xI94.2.2.2.1 (by omega)) (by omega) (by omega) (by omega) (by omega) (fun hz => by omega)
            have xeI94 : Imp ((I94 1000 26).toInt = 0) ((I94 1000 29).toInt = (I87 1000 29).toInt + 1) := fun hz => xI94.2.2.2.1 (by omega)
            have hen103 : Imp ((I87 1000 26).toInt = 0) (RC I94 = RC I87 ++ [enc (13 : Int32).toInt (0 : Int32).toInt]) := fun hz => RC_ent xI94.2.2.2.2.2 hz (by omega) (by omega) (xI94.2.2.2.1 hz)
            refine lv_aload_n hx hb dX10_term_70 rfl (lv_at hl 1 rfl) ?_
            refine m_callv (m_runV (1000) (As := []) (rest := []) hx hb hml hown hts hE hM hS hA ce_X10_blanks tb_1506 (V_X10_blanks_h l D A ad ns I94 L95 G hJ hI (by omega)) rfl rfl ⟨Nat.le_of_ble_eq_true rfl, Nat.le_of_ble_eq_true rfl⟩ hJ.1 rfl rfl (by decide) rfl hl.1 rfl (Nat.le_of_ble_eq_true rfl) dX10_term_71 ⟨Nat.le_of_ble_eq_true rfl, Nat.le_of_ble_eq_true rfl⟩) hS (fun u H locs hw hM hS => ?_)
            obtain ⟨I104, L105, rfl, hI, hkI104, xI104⟩ := hw
            have hM : Mem D A ad ns I104 L105 G H := hM
            have hK := hK.trans hkI104 rfl
            have pw106 : (I104 (1000) 24).toInt = (Ia8 (1000) 24 : Int32).toInt := (congrArg Int32.toInt ((hkI104.get (1000) 24 rfl))).trans pw96
            have pw107 : (I104 (1000) 26).toInt = (I87 (1000) 26 : Int32).toInt := (congrArg Int32.toInt ((hkI104.get (1000) 26 rfl))).trans pw98
            have pw108 : (I104 (1000) 27).toInt = (Ia8 (1000) 27 : Int32).toInt := (congrArg Int32.toInt ((hkI104.get (1000) 27 rfl))).trans pw99
            have pw109 : (I104 (1000) 29).toInt = (I94 (1000) 29 : Int32).toInt := congrArg Int32.toInt ((hkI104.get (1000) 29 rfl))
            have pw110 : (I104 (1000) 30).toInt = (Ia8 (1000) 30 : Int32).toInt := (congrArg Int32.toInt ((hkI104.get (1000) 30 rfl))).trans pw100
            have pw111 : (I104 (1000) 31).toInt = (I87 (1000) 31 : Int32).toInt := (congrArg Int32.toInt ((hkI104.get (1000) 31 rfl))).trans pw101
            have pw112 : (I104 (1000) 32).toInt = (Ia8 (1000) 32 : Int32).toInt := (congrArg Int32.toInt ((hkI104.get (1000) 32 rfl))).trans pw102
            have nw113 := xI104.1
            rw [show TM I94 = TM I from (TM_of (hkI104.getA 1034 rfl) (hkI104.get 1000 24 rfl)).symm.trans (TM_of (hK.getA 1034 rfl) (hK.get 1000 24 rfl))] at nw113
            refine lv_goto (tgt := 8) hx hb dX10_term_74 (by decide) ?_
            replace hC := CT.link (I2 := I104) hC ((hkI104.getA 1035 rfl)) ((hkI104.getA 1036 rfl)) (by omega) (fun hz => by have w0 := xeI94 (by omega); have w1 := xI87.2.2.2.2.1 (by omega); omega)
            exact ih8  I104 L105 _ _ ls hI hK (by omega) (fun hz => by have w0 := xeI94 (by omega); have w1 := xI87.2.2.2.2.1 (by omega); omega) hC (EXP.keep (opr_w (k := 42) (o := -17) hT hEX (by omega) (by decide) (by omega) (by omega) (by have z1 := tn (i := (u2 Ia8 (1000) 25 (v77)) 1000 25) (by omega); have z2 := tn (i := Ia8 1000 25) (by omega); omega) (by omega) (RC_of (J := Ia8) (J2 := (u2 Ia8 (1000) 25 (v77))) ((show (u2 Ia8 (1000) 25 (v77)) 1035 = Ia8 1035 from by funext zz; simp [u2_v])) ((show (u2 Ia8 (1000) 25 (v77)) 1036 = Ia8 1036 from by funext zz; simp [u2_v])) (by omega) (by omega)) (by omega) nw93.1 (by omega) (fun hz => ⟨by rw [show (I94 1000 25).toNatClampNeg = (I87 1000 25).toNatClampNeg from cl_eq (by omega)], by omega, by rw [hen103 hz, enc_v (v := -17) (Or.inr (Or.inr (Or.inr (Or.inl ⟨by omega, rfl⟩))))]⟩)) (by omega) (fun hz => ⟨by rw [nw113, skp_i hT], by omega, (RC_of (J := I94) (J2 := I104) ((hkI104.getA 1035 rfl)) ((hkI104.getA 1036 rfl)) (by omega) (by omega))⟩)) (fun hz => by have w1 := hKF hz; omega) (fun hz => by rw [nw113]; exact skp_b hT _) (by omega) hM hS (lv_sub hl [1] rfl)
        · have hc27 := c27
          have q27 := q_ne hc27
          have sc114 := sx26.n (k := 42) (by omega) (by decide)
          refine lv_aload_n hx hb dX10_term_24 rfl (lv_at hl 0 rfl) ?_
          refine m_calli (m_runV (1000) (As := []) (rest := []) hx hb hml hown hts hE hM hS hA ce_X10_sign tb_1510 (V_X10_sign_h l D A ad ns Ia8 La8 G hJ hI) rfl rfl ⟨Nat.le_of_ble_eq_true rfl, Nat.le_of_ble_eq_true rfl⟩ hJ.1 rfl rfl (by decide) rfl hl.1 rfl (Nat.le_of_ble_eq_true rfl) dX10_term_25 ⟨Nat.le_of_ble_eq_true rfl, Nat.le_of_ble_eq_true rfl⟩) hS (fun r115 u H locs hw hM hS => ?_)
          obtain ⟨rfl, xr115⟩ := hw
          have hM : Mem D A ad ns Ia8 La8 G H := hM
          have g116 := hI.get 1000 24 (lo := 0) (hi := 400) rfl
          have g117 := hI.get 1000 25 (lo := 0) (hi := 100000) rfl
          have sx118 := xr115.1
          rw [show TM Ia8 = TM I from (TM_of (hK.getA 1034 rfl) (hK.get 1000 24 rfl))] at sx118
          refine lv_bipush (v := (47)) hx hb dX10_term_28 (by decide) ?_
          refine lv_icmp_ne (tgt := 77) hx hb dX10_term_30 (by decide) (fun c119 => ?_) (fun c119 => ?_)
          · have hc119 := c119
            have q119 := q_ne hc119
            have sc120 := sx118.n (k := 47) (by omega) (by decide)
            exact m_vret hx hb hr hlocks hM hS (Nat.le_of_ble_eq_true rfl) (Nat.le_of_ble_eq_true rfl) ⟨_, _, rfl, hI, hK, ⟨⟨⟨hEX, hKF⟩, fun hz => ⟨hNB hz, by omega, by omega⟩⟩, by omega, by omega, by omega, (fun hz => by omega), hC⟩⟩ dX10_term_77
          · have hc119 := c119
            have q119 := q_eq hc119
            have sg121 := xr115.2.2.2 (by omega)
            have sc122 := sx118.y (k := 47) (by omega) (by decide)
            refine lv_aload_n hx hb dX10_term_33 rfl (lv_at hl 0 rfl) ?_
            refine m_calli (m_runV (1000) (As := []) (rest := []) hx hb hml hown hts hE hM hS hA ce_X10_sign tb_1510 (V_X10_sign_h l D A ad ns Ia8 La8 G hJ hI) rfl rfl ⟨Nat.le_of_ble_eq_true rfl, Nat.le_of_ble_eq_true rfl⟩ hJ.1 rfl rfl (by decide) rfl hl.1 rfl (Nat.le_of_ble_eq_true rfl) dX10_term_34 ⟨Nat.le_of_ble_eq_true rfl, Nat.le_of_ble_eq_true rfl⟩) hS (fun r123 u H locs hw hM hS => ?_)
            obtain ⟨rfl, xr123⟩ := hw
            have hM : Mem D A ad ns Ia8 La8 G H := hM
            have g124 := hI.get 1000 24 (lo := 0) (hi := 400) rfl
            have g125 := hI.get 1000 25 (lo := 0) (hi := 100000) rfl
            have sx126 := xr123.1
            rw [show TM Ia8 = TM I from (TM_of (hK.getA 1034 rfl) (hK.get 1000 24 rfl))] at sx126
            refine lv_bipush (v := (42)) hx hb dX10_term_37 (by decide) ?_
            refine lv_icmp_ne (tgt := 47) hx hb dX10_term_39 (by decide) (fun c127 => ?_) (fun c127 => ?_)
            · have hc127 := c127
              have q127 := q_ne hc127
              have sc128 := sx126.n (k := 42) (by omega) (by decide)
              refine lv_bipush (v := (14)) hx hb dX10_term_47 (by decide) ?_
              refine lv_istore_n (lv' := [(1, .int (14)), (0, .ref (ad (1000)))]) hx hb dX10_term_49 rfl hl (by decide) rfl (fun ls hl => ?_)
              refine lv_aload_n hx hb dX10_term_50 rfl (lv_at hl 1 rfl) ?_
              refine lv_dup hx hb dX10_term_51 rfl ?_
              refine m_geti (1000) 25 hx hb hts hown hE oc10 hM hJ.1 rfl (by decide) rfl tb_1202 dX10_term_52 ?_
              have g129 := hI.get (1000) 25 (lo := 0) (hi := 100000) rfl
              refine lv_iconst (v := (1)) hx hb dX10_term_55 (by decide) ?_
              refine lv_iadd hx hb dX10_term_56 ?_
              refine lv_topi (fun v130 ev130 => ?_)
              have tv130 := a_add ev130 (by omega) (by omega)
              refine m_puti (1000) 25 hx hb hts hown hE oc10 hM hS hJ.1 rfl (by decide) rfl rfl rfl rfl tb_1202 dX10_term_57 (fun H locs I131 eI131 hM hS => ?_)
              subst eI131
              have hI := hI.put (n := 1000) (k := 25) (v := v130) (lo := 0) (hi := 100000) rfl (by first | omega | decide)
              have hK := hK.put (n := 1000) (k := 25) (v := v130) (by first | rfl | simp [inR])
              refine lv_aload_n hx hb dX10_term_60 rfl (lv_at hl 1 rfl) ?_
              have pw132 : ((u2 Ia8 (1000) 25 (v130)) (1000) 24).toInt = (Ia8 (1000) 24 : Int32).toInt := congrArg Int32.toInt ((show (u2 Ia8 (1000) 25 (v130)) (1000) 24 = Ia8 (1000) 24 from by simp [u2_v]))
              have pw133 : ((u2 Ia8 (1000) 25 (v130)) (1000) 25).toInt = (v130 : Int32).toInt := congrArg Int32.toInt ((show (u2 Ia8 (1000) 25 (v130)) (1000) 25 = v130 from by simp [u2_v]))
              have pw134 : ((u2 Ia8 (1000) 25 (v130)) (1000) 26).toInt = (Ia8 (1000) 26 : Int32).toInt := congrArg Int32.toInt ((show (u2 Ia8 (1000) 25 (v130)) (1000) 26 = Ia8 (1000) 26 from by simp [u2_v]))
              have pw135 : ((u2 Ia8 (1000) 25 (v130)) (1000) 27).toInt = (Ia8 (1000) 27 : Int32).toInt := congrArg Int32.toInt ((show (u2 Ia8 (1000) 25 (v130)) (1000) 27 = Ia8 (1000) 27 from by simp [u2_v]))
              have pw136 : ((u2 Ia8 (1000) 25 (v130)) (1000) 29).toInt = (Ia8 (1000) 29 : Int32).toInt := congrArg Int32.toInt ((show (u2 Ia8 (1000) 25 (v130)) (1000) 29 = Ia8 (1000) 29 from by simp [u2_v]))
              have pw137 : ((u2 Ia8 (1000) 25 (v130)) (1000) 30).toInt = (Ia8 (1000) 30 : Int32).toInt := congrArg Int32.toInt ((show (u2 Ia8 (1000) 25 (v130)) (1000) 30 = Ia8 (1000) 30 from by simp [u2_v]))
              have pw138 : ((u2 Ia8 (1000) 25 (v130)) (1000) 31).toInt = (Ia8 (1000) 31 : Int32).toInt := congrArg Int32.toInt ((show (u2 Ia8 (1000) 25 (v130)) (1000) 31 = Ia8 (1000) 31 from by simp [u2_v]))
              have pw139 : ((u2 Ia8 (1000) 25 (v130)) (1000) 32).toInt = (Ia8 (1000) 32 : Int32).toInt := congrArg Int32.toInt ((show (u2 Ia8 (1000) 25 (v130)) (1000) 32 = Ia8 (1000) 32 from by simp [u2_v]))
              refine m_callv (m_runV (1000) (As := []) (rest := []) hx hb hml hown hts hE hM hS hA ce_X10_value tb_1543 (V_X10_value_h l D A ad ns (u2 Ia8 (1000) 25 (v130)) La8 G hJ hI (by omega) (fun hz => by omega) (hbt.of (hK.getA 1034 rfl) (hK.get 1000 24 rfl))) rfl rfl ⟨Nat.le_of_ble_eq_true rfl, Nat.le_of_ble_eq_true rfl⟩ hJ.1 rfl rfl (by decide) rfl hl.1 rfl (Nat.le_of_ble_eq_true rfl) dX10_term_61 ⟨Nat.le_of_ble_eq_true rfl, Nat.le_of_ble_eq_true rfl⟩) hS (fun u H locs hw hM hS => ?_)
              obtain ⟨I140, L141, rfl, hI, hkI140, xI140⟩ := hw
              have hM : Mem D A ad ns I140 L141 G H := hM
              have hK := hK.trans hkI140 rfl
              replace hC := CT.link (I2 := (u2 Ia8 (1000) 25 (v130))) hC ((show (u2 Ia8 (1000) 25 (v130)) 1035 = Ia8 1035 from by funext zz; simp [u2_v])) ((show (u2 Ia8 (1000) 25 (v130)) 1036 = Ia8 1036 from by funext zz; simp [u2_v])) (by omega) (fun hz => by omega)
              have pw142 : (I140 (1000) 24).toInt = (Ia8 (1000) 24 : Int32).toInt := (congrArg Int32.toInt ((hkI140.get (1000) 24 rfl))).trans pw132
              have pw143 : (I140 (1000) 27).toInt = (Ia8 (1000) 27 : Int32).toInt := (congrArg Int32.toInt ((hkI140.get (1000) 27 rfl))).trans pw135
              have pw144 : (I140 (1000) 30).toInt = (Ia8 (1000) 30 : Int32).toInt := (congrArg Int32.toInt ((hkI140.get (1000) 30 rfl))).trans pw137
              have pw145 : (I140 (1000) 32).toInt = (Ia8 (1000) 32 : Int32).toInt := (congrArg Int32.toInt ((hkI140.get (1000) 32 rfl))).trans pw139
              replace hC := hC.comp ((xI140.2.2.2.2.2).mono0 (1)) (by omega) (by omega) (by omega) (by omega) (fun hz => (xI140.2.2.2.2.1 hz).1)
              have nw146 := xI140.1
              rw [show TM (u2 Ia8 (1000) 25 (v130)) = TM I from (TM_of (hkI140.getA 1034 rfl) (hkI140.get 1000 24 rfl)).symm.trans (TM_of (hK.getA 1034 rfl) (hK.get 1000 24 rfl))] at nw146
              refine lv_aload_n hx hb dX10_term_64 rfl (lv_at hl 1 rfl) ?_
              refine lv_iload_n hx hb dX10_term_65 rfl (lv_at hl 0 rfl) ?_
              refine lv_iconst (v := (0)) hx hb dX10_term_66 (by decide) ?_
              refine m_callv (m_runV (1000) (As := [.int (14), .int (0)]) (rest := []) hx hb hml hown hts hE hM hS hA ce_X10_entry tb_1552 (V_X10_entry_h l D A ad ns I140 L141 G (14) (0) hJ hI (fun hz => by have w0 := xI140.2.2.2.2.1 (by omega); omega)) rfl rfl ⟨Nat.le_of_ble_eq_true rfl, Nat.le_of_ble_eq_true rfl⟩ hJ.1 rfl rfl (by decide) rfl hl.1 rfl (Nat.le_of_ble_eq_true rfl) dX10_term_67 ⟨Nat.le_of_ble_eq_true rfl, Nat.le_of_ble_eq_true rfl⟩) hS (fun u H locs hw hM hS => ?_)
              obtain ⟨I147, L148, rfl, hI, hkI147, xI147⟩ := hw
              have hM : Mem D A ad ns I147 L148 G H := hM
              have hK := hK.trans hkI147 rfl
              have pw149 : (I147 (1000) 24).toInt = (Ia8 (1000) 24 : Int32).toInt := (congrArg Int32.toInt ((hkI147.get (1000) 24 rfl))).trans pw142
              have pw150 : (I147 (1000) 25).toInt = (I140 (1000) 25 : Int32).toInt := congrArg Int32.toInt ((hkI147.get (1000) 25 rfl))
              have pw151 : (I147 (1000) 26).toInt = (I140 (1000) 26 : Int32).toInt := congrArg Int32.toInt ((hkI147.get (1000) 26 rfl))
              have pw152 : (I147 (1000) 27).toInt = (Ia8 (1000) 27 : Int32).toInt := (congrArg Int32.toInt ((hkI147.get (1000) 27 rfl))).trans pw143
              have pw153 : (I147 (1000) 30).toInt = (Ia8 (1000) 30 : Int32).toInt := (congrArg Int32.toInt ((hkI147.get (1000) 30 rfl))).trans pw144
              have pw154 : (I147 (1000) 31).toInt = (I140 (1000) 31 : Int32).toInt := congrArg Int32.toInt ((hkI147.get (1000) 31 rfl))
              have pw155 : (I147 (1000) 32).toInt = (Ia8 (1000) 32 : Int32).toInt := (congrArg Int32.toInt ((hkI147.get (1000) 32 rfl))).trans pw145
              replace hC := hC.comp (n2 := 1) (xI147.2.2.2.2.2.ct (by omega) (by omega) xI147.2.2.2.1 (by omega)) (by omega) (by omega) (by omega) (by omega) (fun hz => by omega)
              have xeI147 : Imp ((I147 1000 26).toInt = 0) ((I147 1000 29).toInt = (I140 1000 29).toInt + 1) := fun hz => xI147.2.2.2.1 (by omega)
              have hen156 : Imp ((I140 1000 26).toInt = 0) (RC I147 = RC I140 ++ [enc (14 : Int32).toInt (0 : Int32).toInt]) := fun hz => RC_ent xI147.2.2.2.2.2 hz (by omega) (by omega) (xI147.2.2.2.1 hz)
              refine lv_aload_n hx hb dX10_term_70 rfl (lv_at hl 1 rfl) ?_
              refine m_callv (m_runV (1000) (As := []) (rest := []) hx hb hml hown hts hE hM hS hA ce_X10_blanks tb_1506 (V_X10_blanks_h l D A ad ns I147 L148 G hJ hI (by omega)) rfl rfl ⟨Nat.le_of_ble_eq_true rfl, Nat.le_of_ble_eq_true rfl⟩ hJ.1 rfl rfl (by decide) rfl hl.1 rfl (Nat.le_of_ble_eq_true rfl) dX10_term_71 ⟨Nat.le_of_ble_eq_true rfl, Nat.le_of_ble_eq_true rfl⟩) hS (fun u H locs hw hM hS => ?_)
              obtain ⟨I157, L158, rfl, hI, hkI157, xI157⟩ := hw
              have hM : Mem D A ad ns I157 L158 G H := hM
              have hK := hK.trans hkI157 rfl
              have pw159 : (I157 (1000) 24).toInt = (Ia8 (1000) 24 : Int32).toInt := (congrArg Int32.toInt ((hkI157.get (1000) 24 rfl))).trans pw149
              have pw160 : (I157 (1000) 26).toInt = (I140 (1000) 26 : Int32).toInt := (congrArg Int32.toInt ((hkI157.get (1000) 26 rfl))).trans pw151
              have pw161 : (I157 (1000) 27).toInt = (Ia8 (1000) 27 : Int32).toInt := (congrArg Int32.toInt ((hkI157.get (1000) 27 rfl))).trans pw152
              have pw162 : (I157 (1000) 29).toInt = (I147 (1000) 29 : Int32).toInt := congrArg Int32.toInt ((hkI157.get (1000) 29 rfl))
              have pw163 : (I157 (1000) 30).toInt = (Ia8 (1000) 30 : Int32).toInt := (congrArg Int32.toInt ((hkI157.get (1000) 30 rfl))).trans pw153
              have pw164 : (I157 (1000) 31).toInt = (I140 (1000) 31 : Int32).toInt := (congrArg Int32.toInt ((hkI157.get (1000) 31 rfl))).trans pw154
              have pw165 : (I157 (1000) 32).toInt = (Ia8 (1000) 32 : Int32).toInt := (congrArg Int32.toInt ((hkI157.get (1000) 32 rfl))).trans pw155
              have nw166 := xI157.1
              rw [show TM I147 = TM I from (TM_of (hkI157.getA 1034 rfl) (hkI157.get 1000 24 rfl)).symm.trans (TM_of (hK.getA 1034 rfl) (hK.get 1000 24 rfl))] at nw166
              refine lv_goto (tgt := 8) hx hb dX10_term_74 (by decide) ?_
              replace hC := CT.link (I2 := I157) hC ((hkI157.getA 1035 rfl)) ((hkI157.getA 1036 rfl)) (by omega) (fun hz => by have w0 := xeI147 (by omega); have w1 := xI140.2.2.2.2.1 (by omega); omega)
              exact ih8  I157 L158 _ _ ls hI hK (by omega) (fun hz => by have w0 := xeI147 (by omega); have w1 := xI140.2.2.2.2.1 (by omega); omega) hC (EXP.keep (opr_w (k := 47) (o := -18) hT hEX (by omega) (by decide) (by omega) (by omega) (by have z1 := tn (i := (u2 Ia8 (1000) 25 (v130)) 1000 25) (by omega); have z2 := tn (i := Ia8 1000 25) (by omega); omega) (by omega) (RC_of (J := Ia8) (J2 := (u2 Ia8 (1000) 25 (v130))) ((show (u2 Ia8 (1000) 25 (v130)) 1035 = Ia8 1035 from by funext zz; simp [u2_v])) ((show (u2 Ia8 (1000) 25 (v130)) 1036 = Ia8 1036 from by funext zz; simp [u2_v])) (by omega) (by omega)) (by omega) nw146.1 (by omega) (fun hz => ⟨by rw [show (I147 1000 25).toNatClampNeg = (I140 1000 25).toNatClampNeg from cl_eq (by omega)], by omega, by rw [hen156 hz, enc_v (v := -18) (Or.inr (Or.inr (Or.inr (Or.inr (Or.inl ⟨by omega, rfl⟩)))))]⟩)) (by omega) (fun hz => ⟨by rw [nw166, skp_i hT], by omega, (RC_of (J := I147) (J2 := I157) ((hkI157.getA 1035 rfl)) ((hkI157.getA 1036 rfl)) (by omega) (by omega))⟩)) (fun hz => by have w1 := hKF hz; omega) (fun hz => by rw [nw166]; exact skp_b hT _) (by omega) hM hS (lv_sub hl [1] rfl)
            · have hc127 := c127
              have q127 := q_eq hc127
              have sg167 := xr123.2.2.2 (by omega)
              have sc168 := sx126.y (k := 42) (by omega) (by decide)
              refine lv_bipush (v := (13)) hx hb dX10_term_42 (by decide) ?_
              refine lv_goto (tgt := 49) hx hb dX10_term_44 (by decide) ?_
              refine lv_istore_n (lv' := [(1, .int (13)), (0, .ref (ad (1000)))]) hx hb dX10_term_49 rfl hl (by decide) rfl (fun ls hl => ?_)
              refine lv_aload_n hx hb dX10_term_50 rfl (lv_at hl 1 rfl) ?_
              refine lv_dup hx hb dX10_term_51 rfl ?_
              refine m_geti (1000) 25 hx hb hts hown hE oc10 hM hJ.1 rfl (by decide) rfl tb_1202 dX10_term_52 ?_
              have g169 := hI.get (1000) 25 (lo := 0) (hi := 100000) rfl
              refine lv_iconst (v := (1)) hx hb dX10_term_55 (by decide) ?_
              refine lv_iadd hx hb dX10_term_56 ?_
              refine lv_topi (fun v170 ev170 => ?_)
              have tv170 := a_add ev170 (by omega) (by omega)
              refine m_puti (1000) 25 hx hb hts hown hE oc10 hM hS hJ.1 rfl (by decide) rfl rfl rfl rfl tb_1202 dX10_term_57 (fun H locs I171 eI171 hM hS => ?_)
              subst eI171
              have hI := hI.put (n := 1000) (k := 25) (v := v170) (lo := 0) (hi := 100000) rfl (by first | omega | decide)
              have hK := hK.put (n := 1000) (k := 25) (v := v170) (by first | rfl | simp [inR])
              refine lv_aload_n hx hb dX10_term_60 rfl (lv_at hl 1 rfl) ?_
              have pw172 : ((u2 Ia8 (1000) 25 (v170)) (1000) 24).toInt = (Ia8 (1000) 24 : Int32).toInt := congrArg Int32.toInt ((show (u2 Ia8 (1000) 25 (v170)) (1000) 24 = Ia8 (1000) 24 from by simp [u2_v]))
              have pw173 : ((u2 Ia8 (1000) 25 (v170)) (1000) 25).toInt = (v170 : Int32).toInt := congrArg Int32.toInt ((show (u2 Ia8 (1000) 25 (v170)) (1000) 25 = v170 from by simp [u2_v]))
              have pw174 : ((u2 Ia8 (1000) 25 (v170)) (1000) 26).toInt = (Ia8 (1000) 26 : Int32).toInt := congrArg Int32.toInt ((show (u2 Ia8 (1000) 25 (v170)) (1000) 26 = Ia8 (1000) 26 from by simp [u2_v]))
              have pw175 : ((u2 Ia8 (1000) 25 (v170)) (1000) 27).toInt = (Ia8 (1000) 27 : Int32).toInt := congrArg Int32.toInt ((show (u2 Ia8 (1000) 25 (v170)) (1000) 27 = Ia8 (1000) 27 from by simp [u2_v]))
              have pw176 : ((u2 Ia8 (1000) 25 (v170)) (1000) 29).toInt = (Ia8 (1000) 29 : Int32).toInt := congrArg Int32.toInt ((show (u2 Ia8 (1000) 25 (v170)) (1000) 29 = Ia8 (1000) 29 from by simp [u2_v]))
              have pw177 : ((u2 Ia8 (1000) 25 (v170)) (1000) 30).toInt = (Ia8 (1000) 30 : Int32).toInt := congrArg Int32.toInt ((show (u2 Ia8 (1000) 25 (v170)) (1000) 30 = Ia8 (1000) 30 from by simp [u2_v]))
              have pw178 : ((u2 Ia8 (1000) 25 (v170)) (1000) 31).toInt = (Ia8 (1000) 31 : Int32).toInt := congrArg Int32.toInt ((show (u2 Ia8 (1000) 25 (v170)) (1000) 31 = Ia8 (1000) 31 from by simp [u2_v]))
              have pw179 : ((u2 Ia8 (1000) 25 (v170)) (1000) 32).toInt = (Ia8 (1000) 32 : Int32).toInt := congrArg Int32.toInt ((show (u2 Ia8 (1000) 25 (v170)) (1000) 32 = Ia8 (1000) 32 from by simp [u2_v]))
              refine m_callv (m_runV (1000) (As := []) (rest := []) hx hb hml hown hts hE hM hS hA ce_X10_value tb_1543 (V_X10_value_h l D A ad ns (u2 Ia8 (1000) 25 (v170)) La8 G hJ hI (by omega) (fun hz => by omega) (hbt.of (hK.getA 1034 rfl) (hK.get 1000 24 rfl))) rfl rfl ⟨Nat.le_of_ble_eq_true rfl, Nat.le_of_ble_eq_true rfl⟩ hJ.1 rfl rfl (by decide) rfl hl.1 rfl (Nat.le_of_ble_eq_true rfl) dX10_term_61 ⟨Nat.le_of_ble_eq_true rfl, Nat.le_of_ble_eq_true rfl⟩) hS (fun u H locs hw hM hS => ?_)
              obtain ⟨I180, L181, rfl, hI, hkI180, xI180⟩ := hw
              have hM : Mem D A ad ns I180 L181 G H := hM
              have hK := hK.trans hkI180 rfl
              replace hC := CT.link (I2 := (u2 Ia8 (1000) 25 (v170))) hC ((show (u2 Ia8 (1000) 25 (v170)) 1035 = Ia8 1035 from by funext zz; simp [u2_v])) ((show (u2 Ia8 (1000) 25 (v170)) 1036 = Ia8 1036 from by funext zz; simp [u2_v])) (by omega) (fun hz => by omega)
              have pw182 : (I180 (1000) 24).toInt = (Ia8 (1000) 24 : Int32).toInt := (congrArg Int32.toInt ((hkI180.get (1000) 24 rfl))).trans pw172
              have pw183 : (I180 (1000) 27).toInt = (Ia8 (1000) 27 : Int32).toInt := (congrArg Int32.toInt ((hkI180.get (1000) 27 rfl))).trans pw175
              have pw184 : (I180 (1000) 30).toInt = (Ia8 (1000) 30 : Int32).toInt := (congrArg Int32.toInt ((hkI180.get (1000) 30 rfl))).trans pw177
              have pw185 : (I180 (1000) 32).toInt = (Ia8 (1000) 32 : Int32).toInt := (congrArg Int32.toInt ((hkI180.get (1000) 32 rfl))).trans pw179
              replace hC := hC.comp ((xI180.2.2.2.2.2).mono0 (1)) (by omega) (by omega) (by omega) (by omega) (fun hz => (xI180.2.2.2.2.1 hz).1)
              have nw186 := xI180.1
              rw [show TM (u2 Ia8 (1000) 25 (v170)) = TM I from (TM_of (hkI180.getA 1034 rfl) (hkI180.get 1000 24 rfl)).symm.trans (TM_of (hK.getA 1034 rfl) (hK.get 1000 24 rfl))] at nw186
              refine lv_aload_n hx hb dX10_term_64 rfl (lv_at hl 1 rfl) ?_
              refine lv_iload_n hx hb dX10_term_65 rfl (lv_at hl 0 rfl) ?_
              refine lv_iconst (v := (0)) hx hb dX10_term_66 (by decide) ?_
              refine m_callv (m_runV (1000) (As := [.int (13), .int (0)]) (rest := []) hx hb hml hown hts hE hM hS hA ce_X10_entry tb_1552 (V_X10_entry_h l D A ad ns I180 L181 G (13) (0) hJ hI (fun hz => by have w0 := xI180.2.2.2.2.1 (by omega); omega)) rfl rfl ⟨Nat.le_of_ble_eq_true rfl, Nat.le_of_ble_eq_true rfl⟩ hJ.1 rfl rfl (by decide) rfl hl.1 rfl (Nat.le_of_ble_eq_true rfl) dX10_term_67 ⟨Nat.le_of_ble_eq_true rfl, Nat.le_of_ble_eq_true rfl⟩) hS (fun u H locs hw hM hS => ?_)
              obtain ⟨I187, L188, rfl, hI, hkI187, xI187⟩ := hw
              have hM : Mem D A ad ns I187 L188 G H := hM
              have hK := hK.trans hkI187 rfl
              have pw189 : (I187 (1000) 24).toInt = (Ia8 (1000) 24 : Int32).toInt := (congrArg Int32.toInt ((hkI187.get (1000) 24 rfl))).trans pw182
              have pw190 : (I187 (1000) 25).toInt = (I180 (1000) 25 : Int32).toInt := congrArg Int32.toInt ((hkI187.get (1000) 25 rfl))
              have pw191 : (I187 (1000) 26).toInt = (I180 (1000) 26 : Int32).toInt := congrArg Int32.toInt ((hkI187.get (1000) 26 rfl))
              have pw192 : (I187 (1000) 27).toInt = (Ia8 (1000) 27 : Int32).toInt := (congrArg Int32.toInt ((hkI187.get (1000) 27 rfl))).trans pw183
              have pw193 : (I187 (1000) 30).toInt = (Ia8 (1000) 30 : Int32).toInt := (congrArg Int32.toInt ((hkI187.get (1000) 30 rfl))).trans pw184
              have pw194 : (I187 (1000) 31).toInt = (I180 (1000) 31 : Int32).toInt := congrArg Int32.toInt ((hkI187.get (1000) 31 rfl))
              have pw195 : (I187 (1000) 32).toInt = (Ia8 (1000) 32 : Int32).toInt := (congrArg Int32.toInt ((hkI187.get (1000) 32 rfl))).trans pw185
              replace hC := hC.comp (n2 := 1) (xI187.2.2.2.2.2.ct (by omega) (by omega) xI187.2.2.2.1 (by omega)) (by omega) (by omega) (by omega) (by omega) (fun hz => by omega)
              have xeI187 : Imp ((I187 1000 26).toInt = 0) ((I187 1000 29).toInt = (I180 1000 29).toInt + 1) := fun hz => xI187.2.2.2.1 (by omega)
              have hen196 : Imp ((I180 1000 26).toInt = 0) (RC I187 = RC I180 ++ [enc (13 : Int32).toInt (0 : Int32).toInt]) := fun hz => RC_ent xI187.2.2.2.2.2 hz (by omega) (by omega) (xI187.2.2.2.1 hz)
              refine lv_aload_n hx hb dX10_term_70 rfl (lv_at hl 1 rfl) ?_
              refine m_callv (m_runV (1000) (As := []) (rest := []) hx hb hml hown hts hE hM hS hA ce_X10_blanks tb_1506 (V_X10_blanks_h l D A ad ns I187 L188 G hJ hI (by omega)) rfl rfl ⟨Nat.le_of_ble_eq_true rfl, Nat.le_of_ble_eq_true rfl⟩ hJ.1 rfl rfl (by decide) rfl hl.1 rfl (Nat.le_of_ble_eq_true rfl) dX10_term_71 ⟨Nat.le_of_ble_eq_true rfl, Nat.le_of_ble_eq_true rfl⟩) hS (fun u H locs hw hM hS => ?_)
              obtain ⟨I197, L198, rfl, hI, hkI197, xI197⟩ := hw
              have hM : Mem D A ad ns I197 L198 G H := hM
              have hK := hK.trans hkI197 rfl
              have pw199 : (I197 (1000) 24).toInt = (Ia8 (1000) 24 : Int32).toInt := (congrArg Int32.toInt ((hkI197.get (1000) 24 rfl))).trans pw189
              have pw200 : (I197 (1000) 26).toInt = (I180 (1000) 26 : Int32).toInt := (congrArg Int32.toInt ((hkI197.get (1000) 26 rfl))).trans pw191
              have pw201 : (I197 (1000) 27).toInt = (Ia8 (1000) 27 : Int32).toInt := (congrArg Int32.toInt ((hkI197.get (1000) 27 rfl))).trans pw192
              have pw202 : (I197 (1000) 29).toInt = (I187 (1000) 29 : Int32).toInt := congrArg Int32.toInt ((hkI197.get (1000) 29 rfl))
              have pw203 : (I197 (1000) 30).toInt = (Ia8 (1000) 30 : Int32).toInt := (congrArg Int32.toInt ((hkI197.get (1000) 30 rfl))).trans pw193
              have pw204 : (I197 (1000) 31).toInt = (I180 (1000) 31 : Int32).toInt := (congrArg Int32.toInt ((hkI197.get (1000) 31 rfl))).trans pw194
              have pw205 : (I197 (1000) 32).toInt = (Ia8 (1000) 32 : Int32).toInt := (congrArg Int32.toInt ((hkI197.get (1000) 32 rfl))).trans pw195
              have nw206 := xI197.1
              rw [show TM I187 = TM I from (TM_of (hkI197.getA 1034 rfl) (hkI197.get 1000 24 rfl)).symm.trans (TM_of (hK.getA 1034 rfl) (hK.get 1000 24 rfl))] at nw206
              refine lv_goto (tgt := 8) hx hb dX10_term_74 (by decide) ?_
              replace hC := CT.link (I2 := I197) hC ((hkI197.getA 1035 rfl)) ((hkI197.getA 1036 rfl)) (by omega) (fun hz => by have w0 := xeI187 (by omega); have w1 := xI180.2.2.2.2.1 (by omega); omega)
              exact ih8  I197 L198 _ _ ls hI hK (by omega) (fun hz => by have w0 := xeI187 (by omega); have w1 := xI180.2.2.2.2.1 (by omega); omega) hC (EXP.keep (opr_w (k := 42) (o := -17) hT hEX (by omega) (by decide) (by omega) (by omega) (by have z1 := tn (i := (u2 Ia8 (1000) 25 (v170)) 1000 25) (by omega); have z2 := tn (i := Ia8 1000 25) (by omega); omega) (by omega) (RC_of (J := Ia8) (J2 := (u2 Ia8 (1000) 25 (v170))) ((show (u2 Ia8 (1000) 25 (v170)) 1035 = Ia8 1035 from by funext zz; simp [u2_v])) ((show (u2 Ia8 (1000) 25 (v170)) 1036 = Ia8 1036 from by funext zz; simp [u2_v])) (by omega) (by omega)) (by omega) nw186.1 (by omega) (fun hz => ⟨by rw [show (I187 1000 25).toNatClampNeg = (I180 1000 25).toNatClampNeg from cl_eq (by omega)], by omega, by rw [hen196 hz, enc_v (v := -17) (Or.inr (Or.inr (Or.inr (Or.inl ⟨by omega, rfl⟩))))]⟩)) (by omega) (fun hz => ⟨by rw [nw206, skp_i hT], by omega, (RC_of (J := I187) (J2 := I197) ((hkI197.getA 1035 rfl)) ((hkI197.getA 1036 rfl)) (by omega) (by omega))⟩)) (fun hz => by have w1 := hKF hz; omega) (fun hz => by rw [nw206]; exact skp_b hT _) (by omega) hM hS (lv_sub hl [1] rfl)
  exact loop8 (_ + 1)  I10 L11 _ _ ls hI hK (by omega) (fun hz => by have w0 := xI1.2.2.2.2.1 (by omega); have w1 := hPI (by omega); omega) hC (EXP.keep (nw9.1.mono (by decide)) (by omega) (fun hz => ⟨by rw [nw19, skp_i hT], by omega, (RC_of (J := I1) (J2 := I10) ((hkI10.getA 1035 rfl)) ((hkI10.getA 1036 rfl)) (by omega) (by omega))⟩)) (fun hz => by have w1 := nw9.2 hz; omega) (fun hz => by rw [nw19]; exact skp_b hT _) (Nat.lt_succ_self _) hM hS (lv_sub hl [0] rfl)
set_option maxHeartbeats 4000000 in
set_option maxRecDepth 20000 in
theorem V_X10_sum_h (l : Launch) (D : va_G) (A : Nat → Prop) (ad : Nat → Nat) (ns : List Nat) (I : MI) (L : ML) (G : MG) (hJ : SGM ns G) (hI : INV I) (hp : (I 1000 25).toInt ≤ 400) (hPI : Imp ((I 1000 26).toInt = 0) (0 ≤ (I 1000 31).toInt ∧ (I 1000 31).toInt ≤ 60 ∧ 3 * (I 1000 29).toInt ≤ 6 * (I 1000 31).toInt + (I 1000 25).toInt)) (hbt : BTM I) : Met l yX10_sum (wd yX10_sum cX10_sum 2 none) ({ frames := 7, cells := 0, slots := 0, locals := 152 }) (va_Pc [.ref (ad (1000))] (PM D A ad ns I L G)) (va_Qv (fun u => ∃ I2 L2, u = (ad, ns, I2, L2, G) ∧ INV I2 ∧ Kp [(1035, 1037)] [(1000, 25), (1000, 26), (1000, 29), (1000, 31)] I I2 ∧ (((EXP (TM I) I I2 5 ∧ KF I I2) ∧ NX5 (TM I) I2) ∧ (I 1000 25).toInt ≤ (I2 1000 25).toInt ∧ (I2 1000 25).toInt ≤ 400 ∧ (I 1000 29).toInt ≤ (I2 1000 29).toInt ∧ Imp ((I2 1000 26).toInt = 0) ((I 1000 26).toInt = 0 ∧ (I 1000 31).toInt + 1 ≤ (I2 1000 31).toInt ∧ (I2 1000 31).toInt ≤ 60 ∧ (I2 1000 29).toInt + 1 ≤ (I 1000 29).toInt + 2 * ((I2 1000 31).toInt - (I 1000 31).toInt)) ∧ CT I I2 0 1)) (BM D A) A) 0 0 A := by
  refine m_ofW (by decide) (Nat.le_of_ble_eq_true rfl) ?_
  intro p e s m below meth c ls args hC hE hM hA hS hl
  obtain ⟨hx, hb, hml, hown, hts, hr, hlocks, hin⟩ := hC
  have k0 : (0 : Int32).toInt = 0 := by decide
  have k1 : (1 : Int32).toInt = 1 := by decide
  have k2 : (2 : Int32).toInt = 2 := by decide
  have k3 : (3 : Int32).toInt = 3 := by decide
  have k43 : (43 : Int32).toInt = 43 := by decide
  have k45 : (45 : Int32).toInt = 45 := by decide
  have hC := CT.rf I 0
  have hI0 := hI
  have hT := TM_ok hI
  have gRL := hI.get 1000 29 (lo := 0) (hi := 300) rfl
  have hRL := RC_len (J := I) gRL.1
  have gPP := hI.get 1000 25 (lo := 0) (hi := 100000) rfl
  have hK : Kp [(1035, 1037)] [(1000, 25), (1000, 26), (1000, 29), (1000, 31)] I I := Kp.rf
  have hl : lv_has ls 2 [(0, .ref (ad (1000)))] := hl
  refine lv_aload_n hx hb dX10_sum_0 rfl (lv_at hl 0 rfl) ?_
  refine m_callv (m_runV (1000) (As := []) (rest := []) hx hb hml hown hts hE hM hS hA ce_X10_term tb_1539 (V_X10_term_h l D A ad ns I L G hJ hI (by omega) (fun hz => by have w0 := hPI (by omega); omega) hbt) rfl rfl ⟨Nat.le_of_ble_eq_true rfl, Nat.le_of_ble_eq_true rfl⟩ hJ.1 rfl rfl (by decide) rfl hl.1 rfl (Nat.le_of_ble_eq_true rfl) dX10_sum_1 ⟨Nat.le_of_ble_eq_true rfl, Nat.le_of_ble_eq_true rfl⟩) hS (fun u H locs hw hM hS => ?_)
  obtain ⟨I1, L2, rfl, hI, hkI1, xI1⟩ := hw
  have hM : Mem D A ad ns I1 L2 G H := hM
  have hK := hK.trans hkI1 rfl
  have pw3 : (I1 (1000) 24).toInt = (I (1000) 24 : Int32).toInt := congrArg Int32.toInt ((hkI1.get (1000) 24 rfl))
  have pw4 : (I1 (1000) 27).toInt = (I (1000) 27 : Int32).toInt := congrArg Int32.toInt ((hkI1.get (1000) 27 rfl))
  have pw5 : (I1 (1000) 30).toInt = (I (1000) 30 : Int32).toInt := congrArg Int32.toInt ((hkI1.get (1000) 30 rfl))
  have pw6 : (I1 (1000) 32).toInt = (I (1000) 32 : Int32).toInt := congrArg Int32.toInt ((hkI1.get (1000) 32 rfl))
  have g7 := hI0.get 1000 27 (lo := 0) (hi := 5) rfl
  have g8 := hI0.get 1000 29 (lo := 0) (hi := 300) rfl
  replace hC := hC.comp ((xI1.2.2.2.2.2).mono0 (0)) (by omega) (by omega) (by omega) (by omega) (fun hz => (xI1.2.2.2.2.1 hz).1)
  have nw9 := xI1.1
  have loop4 : ∀ (n : Nat)  (Ia4 : MI) (La4 : ML) (H : Heap) (locs : List Loc) (ls : Array Slot), INV Ia4 → Kp [(1035, 1037)] [(1000, 25), (1000, 26), (1000, 29), (1000, 31)] I Ia4 → ((I 1000 25).toInt ≤ (Ia4 1000 25).toInt ∧ (Ia4 1000 25).toInt ≤ 400 ∧ (I 1000 29).toInt ≤ (Ia4 1000 29).toInt) → (Imp ((Ia4 1000 26).toInt = 0) ((I 1000 26).toInt = 0 ∧ (I 1000 31).toInt + 1 ≤ (Ia4 1000 31).toInt ∧ (Ia4 1000 31).toInt ≤ 60 ∧ (Ia4 1000 29).toInt + 1 ≤ (I 1000 29).toInt + 2 * ((Ia4 1000 31).toInt - (I 1000 31).toInt))) → (CT I Ia4 0 1) → (EXP (TM I) I Ia4 5) → (KF I Ia4) → (NX6 (TM I) Ia4) → (400 - (Ia4 1000 25).toInt).toNat < n → Mem D A ad ns Ia4 La4 G H → va_S A s.heap H locs → lv_has ls 2 [(0, .ref (ad (1000)))] → W p l e ({ frames := 7, cells := 0, slots := 0, locals := 152 } : Room) s m args below meth c H locs 0 0 (MQ below (va_Qv (fun u => ∃ I2 L2, u = (ad, ns, I2, L2, G) ∧ INV I2 ∧ Kp [(1035, 1037)] [(1000, 25), (1000, 26), (1000, 29), (1000, 31)] I I2 ∧ (((EXP (TM I) I I2 5 ∧ KF I I2) ∧ NX5 (TM I) I2) ∧ (I 1000 25).toInt ≤ (I2 1000 25).toInt ∧ (I2 1000 25).toInt ≤ 400 ∧ (I 1000 29).toInt ≤ (I2 1000 29).toInt ∧ Imp ((I2 1000 26).toInt = 0) ((I 1000 26).toInt = 0 ∧ (I 1000 31).toInt + 1 ≤ (I2 1000 31).toInt ∧ (I2 1000 31).toInt ≤ 60 ∧ (I2 1000 29).toInt + 1 ≤ (I 1000 29).toInt + 2 * ((I2 1000 31).toInt - (I 1000 31).toInt)) ∧ CT I I2 0 1)) (BM D A) A) args s 0 0 A) (F0 m 4 ls []) := by
    intro n
    induction n with
    | zero =>
      intro  Ia4 La4 H locs ls hI hK hlin hcn hC hEX hKF hN6 hmu
      exact absurd hmu (Nat.not_lt_zero _)
    | succ n ih4 =>
      intro  Ia4 La4 H locs ls hI hK hlin hcn hC hEX hKF hN6 hmu4 hM hS hl
      have pk27 := congrArg Int32.toInt (hK.get 1000 27 rfl)
      have pk24 := congrArg Int32.toInt (hK.get 1000 24 rfl)
      have gx27 := hI0.get 1000 27 (lo := 0) (hi := 5) rfl
      have gx29 := hI0.get 1000 29 (lo := 0) (hi := 300) rfl
      have gR9 := hI.get 1000 29 (lo := 0) (hi := 300) rfl
      have hR9 := RC_len (J := Ia4) gR9.1
      have gP9 := hI.get 1000 25 (lo := 0) (hi := 100000) rfl
      refine lv_aload_n hx hb dX10_sum_4 rfl (lv_at hl 0 rfl) ?_
      refine m_geti (1000) 26 hx hb hts hown hE oc10 hM hJ.1 rfl (by decide) rfl tb_1203 dX10_sum_5 ?_
      refine lv_if_ne (tgt := 67) hx hb dX10_sum_8 (by decide) (fun c10 => ?_) (fun c10 => ?_)
      · have hc10 := c10
        have q10 := q_ne hc10
        exact m_vret hx hb hr hlocks hM hS (Nat.le_of_ble_eq_true rfl) (Nat.le_of_ble_eq_true rfl) ⟨_, _, rfl, hI, hK, ⟨⟨⟨hEX, hKF⟩, fun hz => by omega⟩, by omega, by omega, by omega, (fun hz => by have w0 := hcn (by omega); have w1 := hPI (by omega); omega), hC⟩⟩ dX10_sum_67
      · have hc10 := c10
        have q10 := q_eq hc10
        have w11 := hcn (by omega)
        have w12 := hPI (by omega)
        refine lv_aload_n hx hb dX10_sum_11 rfl (lv_at hl 0 rfl) ?_
        refine m_calli (m_runV (1000) (As := []) (rest := []) hx hb hml hown hts hE hM hS hA ce_X10_sign tb_1510 (V_X10_sign_h l D A ad ns Ia4 La4 G hJ hI) rfl rfl ⟨Nat.le_of_ble_eq_true rfl, Nat.le_of_ble_eq_true rfl⟩ hJ.1 rfl rfl (by decide) rfl hl.1 rfl (Nat.le_of_ble_eq_true rfl) dX10_sum_12 ⟨Nat.le_of_ble_eq_true rfl, Nat.le_of_ble_eq_true rfl⟩) hS (fun r13 u H locs hw hM hS => ?_)
        obtain ⟨rfl, xr13⟩ := hw
        have hM : Mem D A ad ns Ia4 La4 G H := hM
        have g14 := hI.get 1000 24 (lo := 0) (hi := 400) rfl
        have g15 := hI.get 1000 25 (lo := 0) (hi := 100000) rfl
        have sx16 := xr13.1
        rw [show TM Ia4 = TM I from (TM_of (hK.getA 1034 rfl) (hK.get 1000 24 rfl))] at sx16
        refine lv_bipush (v := (43)) hx hb dX10_sum_15 (by decide) ?_
        refine lv_icmp_eq (tgt := 29) hx hb dX10_sum_17 (by decide) (fun c17 => ?_) (fun c17 => ?_)
        · have hc17 := c17
          have q17 := q_eq hc17
          have sg18 := xr13.2.2.2 (by omega)
          have sc19 := sx16.y (k := 43) (by omega) (by decide)
          refine lv_aload_n hx hb dX10_sum_29 rfl (lv_at hl 0 rfl) ?_
          refine m_calli (m_runV (1000) (As := []) (rest := []) hx hb hml hown hts hE hM hS hA ce_X10_sign tb_1510 (V_X10_sign_h l D A ad ns Ia4 La4 G hJ hI) rfl rfl ⟨Nat.le_of_ble_eq_true rfl, Nat.le_of_ble_eq_true rfl⟩ hJ.1 rfl rfl (by decide) rfl hl.1 rfl (Nat.le_of_ble_eq_true rfl) dX10_sum_30 ⟨Nat.le_of_ble_eq_true rfl, Nat.le_of_ble_eq_true rfl⟩) hS (fun r20 u H locs hw hM hS => ?_)
          obtain ⟨rfl, xr20⟩ := hw
          have hM : Mem D A ad ns Ia4 La4 G H := hM
          have g21 := hI.get 1000 24 (lo := 0) (hi := 400) rfl
          have g22 := hI.get 1000 25 (lo := 0) (hi := 100000) rfl
          have sx23 := xr20.1
          rw [show TM Ia4 = TM I from (TM_of (hK.getA 1034 rfl) (hK.get 1000 24 rfl))] at sx23
          refine lv_bipush (v := (43)) hx hb dX10_sum_33 (by decide) ?_
          refine lv_icmp_ne (tgt := 42) hx hb dX10_sum_35 (by decide) (fun c24 => ?_) (fun c24 => ?_)
          · have hc24 := c24
            have q24 := q_ne hc24
            have sc25 := sx23.n (k := 43) (by omega) (by decide)
            refine lv_iconst (v := (3)) hx hb dX10_sum_42 (by decide) ?_
            refine lv_istore_n (lv' := [(1, .int (3)), (0, .ref (ad (1000)))]) hx hb dX10_sum_43 rfl hl (by decide) rfl (fun ls hl => ?_)
            refine lv_aload_n hx hb dX10_sum_44 rfl (lv_at hl 1 rfl) ?_
            refine lv_dup hx hb dX10_sum_45 rfl ?_
            refine m_geti (1000) 25 hx hb hts hown hE oc10 hM hJ.1 rfl (by decide) rfl tb_1202 dX10_sum_46 ?_
            have g26 := hI.get (1000) 25 (lo := 0) (hi := 100000) rfl
            refine lv_iconst (v := (1)) hx hb dX10_sum_49 (by decide) ?_
            refine lv_iadd hx hb dX10_sum_50 ?_
            refine lv_topi (fun v27 ev27 => ?_)
            have tv27 := a_add ev27 (by omega) (by omega)
            refine m_puti (1000) 25 hx hb hts hown hE oc10 hM hS hJ.1 rfl (by decide) rfl rfl rfl rfl tb_1202 dX10_sum_51 (fun H locs I28 eI28 hM hS => ?_)
            subst eI28
            have hI := hI.put (n := 1000) (k := 25) (v := v27) (lo := 0) (hi := 100000) rfl (by first | omega | decide)
            have hK := hK.put (n := 1000) (k := 25) (v := v27) (by first | rfl | simp [inR])
            refine lv_aload_n hx hb dX10_sum_54 rfl (lv_at hl 1 rfl) ?_
            have pw29 : ((u2 Ia4 (1000) 25 (v27)) (1000) 24).toInt = (Ia4 (1000) 24 : Int32).toInt := congrArg Int32.toInt ((show (u2 Ia4 (1000) 25 (v27)) (1000) 24 = Ia4 (1000) 24 from by simp [u2_v]))
            have pw30 : ((u2 Ia4 (1000) 25 (v27)) (1000) 25).toInt = (v27 : Int32).toInt := congrArg Int32.toInt ((show (u2 Ia4 (1000) 25 (v27)) (1000) 25 = v27 from by simp [u2_v]))
            have pw31 : ((u2 Ia4 (1000) 25 (v27)) (1000) 26).toInt = (Ia4 (1000) 26 : Int32).toInt := congrArg Int32.toInt ((show (u2 Ia4 (1000) 25 (v27)) (1000) 26 = Ia4 (1000) 26 from by simp [u2_v]))
            have pw32 : ((u2 Ia4 (1000) 25 (v27)) (1000) 27).toInt = (Ia4 (1000) 27 : Int32).toInt := congrArg Int32.toInt ((show (u2 Ia4 (1000) 25 (v27)) (1000) 27 = Ia4 (1000) 27 from by simp [u2_v]))
            have pw33 : ((u2 Ia4 (1000) 25 (v27)) (1000) 29).toInt = (Ia4 (1000) 29 : Int32).toInt := congrArg Int32.toInt ((show (u2 Ia4 (1000) 25 (v27)) (1000) 29 = Ia4 (1000) 29 from by simp [u2_v]))
            have pw34 : ((u2 Ia4 (1000) 25 (v27)) (1000) 30).toInt = (Ia4 (1000) 30 : Int32).toInt := congrArg Int32.toInt ((show (u2 Ia4 (1000) 25 (v27)) (1000) 30 = Ia4 (1000) 30 from by simp [u2_v]))
            have pw35 : ((u2 Ia4 (1000) 25 (v27)) (1000) 31).toInt = (Ia4 (1000) 31 : Int32).toInt := congrArg Int32.toInt ((show (u2 Ia4 (1000) 25 (v27)) (1000) 31 = Ia4 (1000) 31 from by simp [u2_v]))
            have pw36 : ((u2 Ia4 (1000) 25 (v27)) (1000) 32).toInt = (Ia4 (1000) 32 : Int32).toInt := congrArg Int32.toInt ((show (u2 Ia4 (1000) 25 (v27)) (1000) 32 = Ia4 (1000) 32 from by simp [u2_v]))
            refine m_callv (m_runV (1000) (As := []) (rest := []) hx hb hml hown hts hE hM hS hA ce_X10_term tb_1539 (V_X10_term_h l D A ad ns (u2 Ia4 (1000) 25 (v27)) La4 G hJ hI (by omega) (fun hz => by omega) (hbt.of (hK.getA 1034 rfl) (hK.get 1000 24 rfl))) rfl rfl ⟨Nat.le_of_ble_eq_true rfl, Nat.le_of_ble_eq_true rfl⟩ hJ.1 rfl rfl (by decide) rfl hl.1 rfl (Nat.le_of_ble_eq_true rfl) dX10_sum_55 ⟨Nat.le_of_ble_eq_true rfl, Nat.le_of_ble_eq_true rfl⟩) hS (fun u H locs hw hM hS => ?_)
            obtain ⟨I37, L38, rfl, hI, hkI37, xI37⟩ := hw
            have hM : Mem D A ad ns I37 L38 G H := hM
            have hK := hK.trans hkI37 rfl
            replace hC := CT.link (I2 := (u2 Ia4 (1000) 25 (v27))) hC ((show (u2 Ia4 (1000) 25 (v27)) 1035 = Ia4 1035 from by funext zz; simp [u2_v])) ((show (u2 Ia4 (1000) 25 (v27)) 1036 = Ia4 1036 from by funext zz; simp [u2_v])) (by omega) (fun hz => by omega)
            have pw39 : (I37 (1000) 24).toInt = (Ia4 (1000) 24 : Int32).toInt := (congrArg Int32.toInt ((hkI37.get (1000) 24 rfl))).trans pw29
            have pw40 : (I37 (1000) 27).toInt = (Ia4 (1000) 27 : Int32).toInt := (congrArg Int32.toInt ((hkI37.get (1000) 27 rfl))).trans pw32
            have pw41 : (I37 (1000) 30).toInt = (Ia4 (1000) 30 : Int32).toInt := (congrArg Int32.toInt ((hkI37.get (1000) 30 rfl))).trans pw34
            have pw42 : (I37 (1000) 32).toInt = (Ia4 (1000) 32 : Int32).toInt := (congrArg Int32.toInt ((hkI37.get (1000) 32 rfl))).trans pw36
            replace hC := hC.comp ((xI37.2.2.2.2.2).mono0 (1)) (by omega) (by omega) (by omega) (by omega) (fun hz => (xI37.2.2.2.2.1 hz).1)
            have nw43 := xI37.1
            rw [show TM (u2 Ia4 (1000) 25 (v27)) = TM I from (TM_of (hkI37.getA 1034 rfl) (hkI37.get 1000 24 rfl)).symm.trans (TM_of (hK.getA 1034 rfl) (hK.get 1000 24 rfl))] at nw43
            refine lv_aload_n hx hb dX10_sum_58 rfl (lv_at hl 1 rfl) ?_
            refine lv_iload_n hx hb dX10_sum_59 rfl (lv_at hl 0 rfl) ?_
            refine lv_iconst (v := (0)) hx hb dX10_sum_60 (by decide) ?_
            refine m_callv (m_runV (1000) (As := [.int (3), .int (0)]) (rest := []) hx hb hml hown hts hE hM hS hA ce_X10_entry tb_1552 (V_X10_entry_h l D A ad ns I37 L38 G (3) (0) hJ hI (fun hz => by have w0 := xI37.2.2.2.2.1 (by omega); omega)) rfl rfl ⟨Nat.le_of_ble_eq_true rfl, Nat.le_of_ble_eq_true rfl⟩ hJ.1 rfl rfl (by decide) rfl hl.1 rfl (Nat.le_of_ble_eq_true rfl) dX10_sum_61 ⟨Nat.le_of_ble_eq_true rfl, Nat.le_of_ble_eq_true rfl⟩) hS (fun u H locs hw hM hS => ?_)
            obtain ⟨I44, L45, rfl, hI, hkI44, xI44⟩ := hw
            have hM : Mem D A ad ns I44 L45 G H := hM
            have hK := hK.trans hkI44 rfl
            have pw46 : (I44 (1000) 24).toInt = (Ia4 (1000) 24 : Int32).toInt := (congrArg Int32.toInt ((hkI44.get (1000) 24 rfl))).trans pw39
            have pw47 : (I44 (1000) 25).toInt = (I37 (1000) 25 : Int32).toInt := congrArg Int32.toInt ((hkI44.get (1000) 25 rfl))
            have pw48 : (I44 (1000) 26).toInt = (I37 (1000) 26 : Int32).toInt := congrArg Int32.toInt ((hkI44.get (1000) 26 rfl))
            have pw49 : (I44 (1000) 27).toInt = (Ia4 (1000) 27 : Int32).toInt := (congrArg Int32.toInt ((hkI44.get (1000) 27 rfl))).trans pw40
            have pw50 : (I44 (1000) 30).toInt = (Ia4 (1000) 30 : Int32).toInt := (congrArg Int32.toInt ((hkI44.get (1000) 30 rfl))).trans pw41
            have pw51 : (I44 (1000) 31).toInt = (I37 (1000) 31 : Int32).toInt := congrArg Int32.toInt ((hkI44.get (1000) 31 rfl))
            have pw52 : (I44 (1000) 32).toInt = (Ia4 (1000) 32 : Int32).toInt := (congrArg Int32.toInt ((hkI44.get (1000) 32 rfl))).trans pw42
            replace hC := hC.comp (n2 := 1) (xI44.2.2.2.2.2.ct (by omega) (by omega) xI44.2.2.2.1 (by omega)) (by omega) (by omega) (by omega) (by omega) (fun hz => by omega)
            have xeI44 : Imp ((I44 1000 26).toInt = 0) ((I44 1000 29).toInt = (I37 1000 29).toInt + 1) := fun hz => xI44.2.2.2.1 (by omega)
            have hen53 : Imp ((I37 1000 26).toInt = 0) (RC I44 = RC I37 ++ [enc (3 : Int32).toInt (0 : Int32).toInt]) := fun hz => RC_ent xI44.2.2.2.2.2 hz (by omega) (by omega) (xI44.2.2.2.1 hz)
            refine lv_goto (tgt := 4) hx hb dX10_sum_64 (by decide) ?_
            exact ih4  I44 L45 _ _ ls hI hK (by omega) (fun hz => by have w0 := xeI44 (by omega); have w1 := xI37.2.2.2.2.1 (by omega); omega) hC (opr_w (k := 45) (o := -16) hT hEX (by omega) (by decide) (by omega) (by omega) (by have z1 := tn (i := (u2 Ia4 (1000) 25 (v27)) 1000 25) (by omega); have z2 := tn (i := Ia4 1000 25) (by omega); omega) (by omega) (RC_of (J := Ia4) (J2 := (u2 Ia4 (1000) 25 (v27))) ((show (u2 Ia4 (1000) 25 (v27)) 1035 = Ia4 1035 from by funext zz; simp [u2_v])) ((show (u2 Ia4 (1000) 25 (v27)) 1036 = Ia4 1036 from by funext zz; simp [u2_v])) (by omega) (by omega)) (by omega) nw43.1.1 (by omega) (fun hz => ⟨by rw [show (I44 1000 25).toNatClampNeg = (I37 1000 25).toNatClampNeg from cl_eq (by omega)], by omega, by rw [hen53 hz, enc_v (v := -16) (Or.inr (Or.inr (Or.inl ⟨by omega, rfl⟩)))]⟩)) (fun hz => by have w1 := hKF hz; omega) (fun hz => by rw [show (I44 1000 25).toNatClampNeg = (I37 1000 25).toNatClampNeg from cl_eq (by omega)]; exact nw43.2 (by omega)) (by omega) hM hS (lv_sub hl [1] rfl)
          · have hc24 := c24
            have q24 := q_eq hc24
            have sg54 := xr20.2.2.2 (by omega)
            have sc55 := sx23.y (k := 43) (by omega) (by decide)
            refine lv_iconst (v := (2)) hx hb dX10_sum_38 (by decide) ?_
            refine lv_goto (tgt := 43) hx hb dX10_sum_39 (by decide) ?_
            refine lv_istore_n (lv' := [(1, .int (2)), (0, .ref (ad (1000)))]) hx hb dX10_sum_43 rfl hl (by decide) rfl (fun ls hl => ?_)
            refine lv_aload_n hx hb dX10_sum_44 rfl (lv_at hl 1 rfl) ?_
            refine lv_dup hx hb dX10_sum_45 rfl ?_
            refine m_geti (1000) 25 hx hb hts hown hE oc10 hM hJ.1 rfl (by decide) rfl tb_1202 dX10_sum_46 ?_
            have g56 := hI.get (1000) 25 (lo := 0) (hi := 100000) rfl
            refine lv_iconst (v := (1)) hx hb dX10_sum_49 (by decide) ?_
            refine lv_iadd hx hb dX10_sum_50 ?_
            refine lv_topi (fun v57 ev57 => ?_)
            have tv57 := a_add ev57 (by omega) (by omega)
            refine m_puti (1000) 25 hx hb hts hown hE oc10 hM hS hJ.1 rfl (by decide) rfl rfl rfl rfl tb_1202 dX10_sum_51 (fun H locs I58 eI58 hM hS => ?_)
            subst eI58
            have hI := hI.put (n := 1000) (k := 25) (v := v57) (lo := 0) (hi := 100000) rfl (by first | omega | decide)
            have hK := hK.put (n := 1000) (k := 25) (v := v57) (by first | rfl | simp [inR])
            refine lv_aload_n hx hb dX10_sum_54 rfl (lv_at hl 1 rfl) ?_
            have pw59 : ((u2 Ia4 (1000) 25 (v57)) (1000) 24).toInt = (Ia4 (1000) 24 : Int32).toInt := congrArg Int32.toInt ((show (u2 Ia4 (1000) 25 (v57)) (1000) 24 = Ia4 (1000) 24 from by simp [u2_v]))
            have pw60 : ((u2 Ia4 (1000) 25 (v57)) (1000) 25).toInt = (v57 : Int32).toInt := congrArg Int32.toInt ((show (u2 Ia4 (1000) 25 (v57)) (1000) 25 = v57 from by simp [u2_v]))
            have pw61 : ((u2 Ia4 (1000) 25 (v57)) (1000) 26).toInt = (Ia4 (1000) 26 : Int32).toInt := congrArg Int32.toInt ((show (u2 Ia4 (1000) 25 (v57)) (1000) 26 = Ia4 (1000) 26 from by simp [u2_v]))
            have pw62 : ((u2 Ia4 (1000) 25 (v57)) (1000) 27).toInt = (Ia4 (1000) 27 : Int32).toInt := congrArg Int32.toInt ((show (u2 Ia4 (1000) 25 (v57)) (1000) 27 = Ia4 (1000) 27 from by simp [u2_v]))
            have pw63 : ((u2 Ia4 (1000) 25 (v57)) (1000) 29).toInt = (Ia4 (1000) 29 : Int32).toInt := congrArg Int32.toInt ((show (u2 Ia4 (1000) 25 (v57)) (1000) 29 = Ia4 (1000) 29 from by simp [u2_v]))
            have pw64 : ((u2 Ia4 (1000) 25 (v57)) (1000) 30).toInt = (Ia4 (1000) 30 : Int32).toInt := congrArg Int32.toInt ((show (u2 Ia4 (1000) 25 (v57)) (1000) 30 = Ia4 (1000) 30 from by simp [u2_v]))
            have pw65 : ((u2 Ia4 (1000) 25 (v57)) (1000) 31).toInt = (Ia4 (1000) 31 : Int32).toInt := congrArg Int32.toInt ((show (u2 Ia4 (1000) 25 (v57)) (1000) 31 = Ia4 (1000) 31 from by simp [u2_v]))
            have pw66 : ((u2 Ia4 (1000) 25 (v57)) (1000) 32).toInt = (Ia4 (1000) 32 : Int32).toInt := congrArg Int32.toInt ((show (u2 Ia4 (1000) 25 (v57)) (1000) 32 = Ia4 (1000) 32 from by simp [u2_v]))
            refine m_callv (m_runV (1000) (As := []) (rest := []) hx hb hml hown hts hE hM hS hA ce_X10_term tb_1539 (V_X10_term_h l D A ad ns (u2 Ia4 (1000) 25 (v57)) La4 G hJ hI (by omega) (fun hz => by omega) (hbt.of (hK.getA 1034 rfl) (hK.get 1000 24 rfl))) rfl rfl ⟨Nat.le_of_ble_eq_true rfl, Nat.le_of_ble_eq_true rfl⟩ hJ.1 rfl rfl (by decide) rfl hl.1 rfl (Nat.le_of_ble_eq_true rfl) dX10_sum_55 ⟨Nat.le_of_ble_eq_true rfl, Nat.le_of_ble_eq_true rfl⟩) hS (fun u H locs hw hM hS => ?_)
            obtain ⟨I67, L68, rfl, hI, hkI67, xI67⟩ := hw
            have hM : Mem D A ad ns I67 L68 G H := hM
            have hK := hK.trans hkI67 rfl
            replace hC := CT.link (I2 := (u2 Ia4 (1000) 25 (v57))) hC ((show (u2 Ia4 (1000) 25 (v57)) 1035 = Ia4 1035 from by funext zz; simp [u2_v])) ((show (u2 Ia4 (1000) 25 (v57)) 1036 = Ia4 1036 from by funext zz; simp [u2_v])) (by omega) (fun hz => by omega)
            have pw69 : (I67 (1000) 24).toInt = (Ia4 (1000) 24 : Int32).toInt := (congrArg Int32.toInt ((hkI67.get (1000) 24 rfl))).trans pw59
            have pw70 : (I67 (1000) 27).toInt = (Ia4 (1000) 27 : Int32).toInt := (congrArg Int32.toInt ((hkI67.get (1000) 27 rfl))).trans pw62
            have pw71 : (I67 (1000) 30).toInt = (Ia4 (1000) 30 : Int32).toInt := (congrArg Int32.toInt ((hkI67.get (1000) 30 rfl))).trans pw64
            have pw72 : (I67 (1000) 32).toInt = (Ia4 (1000) 32 : Int32).toInt := (congrArg Int32.toInt ((hkI67.get (1000) 32 rfl))).trans pw66
            replace hC := hC.comp ((xI67.2.2.2.2.2).mono0 (1)) (by omega) (by omega) (by omega) (by omega) (fun hz => (xI67.2.2.2.2.1 hz).1)
            have nw73 := xI67.1
            rw [show TM (u2 Ia4 (1000) 25 (v57)) = TM I from (TM_of (hkI67.getA 1034 rfl) (hkI67.get 1000 24 rfl)).symm.trans (TM_of (hK.getA 1034 rfl) (hK.get 1000 24 rfl))] at nw73
            refine lv_aload_n hx hb dX10_sum_58 rfl (lv_at hl 1 rfl) ?_
            refine lv_iload_n hx hb dX10_sum_59 rfl (lv_at hl 0 rfl) ?_
            refine lv_iconst (v := (0)) hx hb dX10_sum_60 (by decide) ?_
            refine m_callv (m_runV (1000) (As := [.int (2), .int (0)]) (rest := []) hx hb hml hown hts hE hM hS hA ce_X10_entry tb_1552 (V_X10_entry_h l D A ad ns I67 L68 G (2) (0) hJ hI (fun hz => by have w0 := xI67.2.2.2.2.1 (by omega); omega)) rfl rfl ⟨Nat.le_of_ble_eq_true rfl, Nat.le_of_ble_eq_true rfl⟩ hJ.1 rfl rfl (by decide) rfl hl.1 rfl (Nat.le_of_ble_eq_true rfl) dX10_sum_61 ⟨Nat.le_of_ble_eq_true rfl, Nat.le_of_ble_eq_true rfl⟩) hS (fun u H locs hw hM hS => ?_)
            obtain ⟨I74, L75, rfl, hI, hkI74, xI74⟩ := hw
            have hM : Mem D A ad ns I74 L75 G H := hM
            have hK := hK.trans hkI74 rfl
            have pw76 : (I74 (1000) 24).toInt = (Ia4 (1000) 24 : Int32).toInt := (congrArg Int32.toInt ((hkI74.get (1000) 24 rfl))).trans pw69
            have pw77 : (I74 (1000) 25).toInt = (I67 (1000) 25 : Int32).toInt := congrArg Int32.toInt ((hkI74.get (1000) 25 rfl))
            have pw78 : (I74 (1000) 26).toInt = (I67 (1000) 26 : Int32).toInt := congrArg Int32.toInt ((hkI74.get (1000) 26 rfl))
            have pw79 : (I74 (1000) 27).toInt = (Ia4 (1000) 27 : Int32).toInt := (congrArg Int32.toInt ((hkI74.get (1000) 27 rfl))).trans pw70
            have pw80 : (I74 (1000) 30).toInt = (Ia4 (1000) 30 : Int32).toInt := (congrArg Int32.toInt ((hkI74.get (1000) 30 rfl))).trans pw71
            have pw81 : (I74 (1000) 31).toInt = (I67 (1000) 31 : Int32).toInt := congrArg Int32.toInt ((hkI74.get (1000) 31 rfl))
            have pw82 : (I74 (1000) 32).toInt = (Ia4 (1000) 32 : Int32).toInt := (congrArg Int32.toInt ((hkI74.get (1000) 32 rfl))).trans pw72
            replace hC := hC.comp (n2 := 1) (xI74.2.2.2.2.2.ct (by omega) (by omega) xI74.2.2.2.1 (by omega)) (by omega) (by omega) (by omega) (by omega) (fun hz => by omega)
            have xeI74 : Imp ((I74 1000 26).toInt = 0) ((I74 1000 29).toInt = (I67 1000 29).toInt + 1) := fun hz => xI74.2.2.2.1 (by omega)
            have hen83 : Imp ((I67 1000 26).toInt = 0) (RC I74 = RC I67 ++ [enc (2 : Int32).toInt (0 : Int32).toInt]) := fun hz => RC_ent xI74.2.2.2.2.2 hz (by omega) (by omega) (xI74.2.2.2.1 hz)
            refine lv_goto (tgt := 4) hx hb dX10_sum_64 (by decide) ?_
            exact ih4  I74 L75 _ _ ls hI hK (by omega) (fun hz => by have w0 := xeI74 (by omega); have w1 := xI67.2.2.2.2.1 (by omega); omega) hC (opr_w (k := 43) (o := -15) hT hEX (by omega) (by decide) (by omega) (by omega) (by have z1 := tn (i := (u2 Ia4 (1000) 25 (v57)) 1000 25) (by omega); have z2 := tn (i := Ia4 1000 25) (by omega); omega) (by omega) (RC_of (J := Ia4) (J2 := (u2 Ia4 (1000) 25 (v57))) ((show (u2 Ia4 (1000) 25 (v57)) 1035 = Ia4 1035 from by funext zz; simp [u2_v])) ((show (u2 Ia4 (1000) 25 (v57)) 1036 = Ia4 1036 from by funext zz; simp [u2_v])) (by omega) (by omega)) (by omega) nw73.1.1 (by omega) (fun hz => ⟨by rw [show (I74 1000 25).toNatClampNeg = (I67 1000 25).toNatClampNeg from cl_eq (by omega)], by omega, by rw [hen83 hz, enc_v (v := -15) (Or.inr (Or.inl ⟨by omega, rfl⟩))]⟩)) (fun hz => by have w1 := hKF hz; omega) (fun hz => by rw [show (I74 1000 25).toNatClampNeg = (I67 1000 25).toNatClampNeg from cl_eq (by omega)]; exact nw73.2 (by omega)) (by omega) hM hS (lv_sub hl [1] rfl)
        · have hc17 := c17
          have q17 := q_ne hc17
          have sc84 := sx16.n (k := 43) (by omega) (by decide)
          refine lv_aload_n hx hb dX10_sum_20 rfl (lv_at hl 0 rfl) ?_
          refine m_calli (m_runV (1000) (As := []) (rest := []) hx hb hml hown hts hE hM hS hA ce_X10_sign tb_1510 (V_X10_sign_h l D A ad ns Ia4 La4 G hJ hI) rfl rfl ⟨Nat.le_of_ble_eq_true rfl, Nat.le_of_ble_eq_true rfl⟩ hJ.1 rfl rfl (by decide) rfl hl.1 rfl (Nat.le_of_ble_eq_true rfl) dX10_sum_21 ⟨Nat.le_of_ble_eq_true rfl, Nat.le_of_ble_eq_true rfl⟩) hS (fun r85 u H locs hw hM hS => ?_)
          obtain ⟨rfl, xr85⟩ := hw
          have hM : Mem D A ad ns Ia4 La4 G H := hM
          have g86 := hI.get 1000 24 (lo := 0) (hi := 400) rfl
          have g87 := hI.get 1000 25 (lo := 0) (hi := 100000) rfl
          have sx88 := xr85.1
          rw [show TM Ia4 = TM I from (TM_of (hK.getA 1034 rfl) (hK.get 1000 24 rfl))] at sx88
          refine lv_bipush (v := (45)) hx hb dX10_sum_24 (by decide) ?_
          refine lv_icmp_ne (tgt := 67) hx hb dX10_sum_26 (by decide) (fun c89 => ?_) (fun c89 => ?_)
          · have hc89 := c89
            have q89 := q_ne hc89
            have sc90 := sx88.n (k := 45) (by omega) (by decide)
            exact m_vret hx hb hr hlocks hM hS (Nat.le_of_ble_eq_true rfl) (Nat.le_of_ble_eq_true rfl) ⟨_, _, rfl, hI, hK, ⟨⟨⟨hEX, hKF⟩, fun hz => by have w1 := hN6 hz; exact ⟨w1.1, w1.2.1, w1.2.2, by omega, by omega⟩⟩, by omega, by omega, by omega, (fun hz => by omega), hC⟩⟩ dX10_sum_67
          · have hc89 := c89
            have q89 := q_eq hc89
            have sg91 := xr85.2.2.2 (by omega)
            have sc92 := sx88.y (k := 45) (by omega) (by decide)
            refine lv_aload_n hx hb dX10_sum_29 rfl (lv_at hl 0 rfl) ?_
            refine m_calli (m_runV (1000) (As := []) (rest := []) hx hb hml hown hts hE hM hS hA ce_X10_sign tb_1510 (V_X10_sign_h l D A ad ns Ia4 La4 G hJ hI) rfl rfl ⟨Nat.le_of_ble_eq_true rfl, Nat.le_of_ble_eq_true rfl⟩ hJ.1 rfl rfl (by decide) rfl hl.1 rfl (Nat.le_of_ble_eq_true rfl) dX10_sum_30 ⟨Nat.le_of_ble_eq_true rfl, Nat.le_of_ble_eq_true rfl⟩) hS (fun r93 u H locs hw hM hS => ?_)
            obtain ⟨rfl, xr93⟩ := hw
            have hM : Mem D A ad ns Ia4 La4 G H := hM
            have g94 := hI.get 1000 24 (lo := 0) (hi := 400) rfl
            have g95 := hI.get 1000 25 (lo := 0) (hi := 100000) rfl
            have sx96 := xr93.1
            rw [show TM Ia4 = TM I from (TM_of (hK.getA 1034 rfl) (hK.get 1000 24 rfl))] at sx96
            refine lv_bipush (v := (43)) hx hb dX10_sum_33 (by decide) ?_
            refine lv_icmp_ne (tgt := 42) hx hb dX10_sum_35 (by decide) (fun c97 => ?_) (fun c97 => ?_)
            · have hc97 := c97
              have q97 := q_ne hc97
              have sc98 := sx96.n (k := 43) (by omega) (by decide)
              refine lv_iconst (v := (3)) hx hb dX10_sum_42 (by decide) ?_
              refine lv_istore_n (lv' := [(1, .int (3)), (0, .ref (ad (1000)))]) hx hb dX10_sum_43 rfl hl (by decide) rfl (fun ls hl => ?_)
              refine lv_aload_n hx hb dX10_sum_44 rfl (lv_at hl 1 rfl) ?_
              refine lv_dup hx hb dX10_sum_45 rfl ?_
              refine m_geti (1000) 25 hx hb hts hown hE oc10 hM hJ.1 rfl (by decide) rfl tb_1202 dX10_sum_46 ?_
              have g99 := hI.get (1000) 25 (lo := 0) (hi := 100000) rfl
              refine lv_iconst (v := (1)) hx hb dX10_sum_49 (by decide) ?_
              refine lv_iadd hx hb dX10_sum_50 ?_
              refine lv_topi (fun v100 ev100 => ?_)
              have tv100 := a_add ev100 (by omega) (by omega)
              refine m_puti (1000) 25 hx hb hts hown hE oc10 hM hS hJ.1 rfl (by decide) rfl rfl rfl rfl tb_1202 dX10_sum_51 (fun H locs I101 eI101 hM hS => ?_)
              subst eI101
              have hI := hI.put (n := 1000) (k := 25) (v := v100) (lo := 0) (hi := 100000) rfl (by first | omega | decide)
              have hK := hK.put (n := 1000) (k := 25) (v := v100) (by first | rfl | simp [inR])
              refine lv_aload_n hx hb dX10_sum_54 rfl (lv_at hl 1 rfl) ?_
              have pw102 : ((u2 Ia4 (1000) 25 (v100)) (1000) 24).toInt = (Ia4 (1000) 24 : Int32).toInt := congrArg Int32.toInt ((show (u2 Ia4 (1000) 25 (v100)) (1000) 24 = Ia4 (1000) 24 from by simp [u2_v]))
              have pw103 : ((u2 Ia4 (1000) 25 (v100)) (1000) 25).toInt = (v100 : Int32).toInt := congrArg Int32.toInt ((show (u2 Ia4 (1000) 25 (v100)) (1000) 25 = v100 from by simp [u2_v]))
              have pw104 : ((u2 Ia4 (1000) 25 (v100)) (1000) 26).toInt = (Ia4 (1000) 26 : Int32).toInt := congrArg Int32.toInt ((show (u2 Ia4 (1000) 25 (v100)) (1000) 26 = Ia4 (1000) 26 from by simp [u2_v]))
              have pw105 : ((u2 Ia4 (1000) 25 (v100)) (1000) 27).toInt = (Ia4 (1000) 27 : Int32).toInt := congrArg Int32.toInt ((show (u2 Ia4 (1000) 25 (v100)) (1000) 27 = Ia4 (1000) 27 from by simp [u2_v]))
              have pw106 : ((u2 Ia4 (1000) 25 (v100)) (1000) 29).toInt = (Ia4 (1000) 29 : Int32).toInt := congrArg Int32.toInt ((show (u2 Ia4 (1000) 25 (v100)) (1000) 29 = Ia4 (1000) 29 from by simp [u2_v]))
              have pw107 : ((u2 Ia4 (1000) 25 (v100)) (1000) 30).toInt = (Ia4 (1000) 30 : Int32).toInt := congrArg Int32.toInt ((show (u2 Ia4 (1000) 25 (v100)) (1000) 30 = Ia4 (1000) 30 from by simp [u2_v]))
              have pw108 : ((u2 Ia4 (1000) 25 (v100)) (1000) 31).toInt = (Ia4 (1000) 31 : Int32).toInt := congrArg Int32.toInt ((show (u2 Ia4 (1000) 25 (v100)) (1000) 31 = Ia4 (1000) 31 from by simp [u2_v]))
              have pw109 : ((u2 Ia4 (1000) 25 (v100)) (1000) 32).toInt = (Ia4 (1000) 32 : Int32).toInt := congrArg Int32.toInt ((show (u2 Ia4 (1000) 25 (v100)) (1000) 32 = Ia4 (1000) 32 from by simp [u2_v]))
              refine m_callv (m_runV (1000) (As := []) (rest := []) hx hb hml hown hts hE hM hS hA ce_X10_term tb_1539 (V_X10_term_h l D A ad ns (u2 Ia4 (1000) 25 (v100)) La4 G hJ hI (by omega) (fun hz => by omega) (hbt.of (hK.getA 1034 rfl) (hK.get 1000 24 rfl))) rfl rfl ⟨Nat.le_of_ble_eq_true rfl, Nat.le_of_ble_eq_true rfl⟩ hJ.1 rfl rfl (by decide) rfl hl.1 rfl (Nat.le_of_ble_eq_true rfl) dX10_sum_55 ⟨Nat.le_of_ble_eq_true rfl, Nat.le_of_ble_eq_true rfl⟩) hS (fun u H locs hw hM hS => ?_)
              obtain ⟨I110, L111, rfl, hI, hkI110, xI110⟩ := hw
              have hM : Mem D A ad ns I110 L111 G H := hM
              have hK := hK.trans hkI110 rfl
              replace hC := CT.link (I2 := (u2 Ia4 (1000) 25 (v100))) hC ((show (u2 Ia4 (1000) 25 (v100)) 1035 = Ia4 1035 from by funext zz; simp [u2_v])) ((show (u2 Ia4 (1000) 25 (v100)) 1036 = Ia4 1036 from by funext zz; simp [u2_v])) (by omega) (fun hz => by omega)
              have pw112 : (I110 (1000) 24).toInt = (Ia4 (1000) 24 : Int32).toInt := (congrArg Int32.toInt ((hkI110.get (1000) 24 rfl))).trans pw102
              have pw113 : (I110 (1000) 27).toInt = (Ia4 (1000) 27 : Int32).toInt := (congrArg Int32.toInt ((hkI110.get (1000) 27 rfl))).trans pw105
              have pw114 : (I110 (1000) 30).toInt = (Ia4 (1000) 30 : Int32).toInt := (congrArg Int32.toInt ((hkI110.get (1000) 30 rfl))).trans pw107
              have pw115 : (I110 (1000) 32).toInt = (Ia4 (1000) 32 : Int32).toInt := (congrArg Int32.toInt ((hkI110.get (1000) 32 rfl))).trans pw109
              replace hC := hC.comp ((xI110.2.2.2.2.2).mono0 (1)) (by omega) (by omega) (by omega) (by omega) (fun hz => (xI110.2.2.2.2.1 hz).1)
              have nw116 := xI110.1
              rw [show TM (u2 Ia4 (1000) 25 (v100)) = TM I from (TM_of (hkI110.getA 1034 rfl) (hkI110.get 1000 24 rfl)).symm.trans (TM_of (hK.getA 1034 rfl) (hK.get 1000 24 rfl))] at nw116
              refine lv_aload_n hx hb dX10_sum_58 rfl (lv_at hl 1 rfl) ?_
              refine lv_iload_n hx hb dX10_sum_59 rfl (lv_at hl 0 rfl) ?_
              refine lv_iconst (v := (0)) hx hb dX10_sum_60 (by decide) ?_
              refine m_callv (m_runV (1000) (As := [.int (3), .int (0)]) (rest := []) hx hb hml hown hts hE hM hS hA ce_X10_entry tb_1552 (V_X10_entry_h l D A ad ns I110 L111 G (3) (0) hJ hI (fun hz => by have w0 := xI110.2.2.2.2.1 (by omega); omega)) rfl rfl ⟨Nat.le_of_ble_eq_true rfl, Nat.le_of_ble_eq_true rfl⟩ hJ.1 rfl rfl (by decide) rfl hl.1 rfl (Nat.le_of_ble_eq_true rfl) dX10_sum_61 ⟨Nat.le_of_ble_eq_true rfl, Nat.le_of_ble_eq_true rfl⟩) hS (fun u H locs hw hM hS => ?_)
              obtain ⟨I117, L118, rfl, hI, hkI117, xI117⟩ := hw
              have hM : Mem D A ad ns I117 L118 G H := hM
              have hK := hK.trans hkI117 rfl
              have pw119 : (I117 (1000) 24).toInt = (Ia4 (1000) 24 : Int32).toInt := (congrArg Int32.toInt ((hkI117.get (1000) 24 rfl))).trans pw112
              have pw120 : (I117 (1000) 25).toInt = (I110 (1000) 25 : Int32).toInt := congrArg Int32.toInt ((hkI117.get (1000) 25 rfl))
              have pw121 : (I117 (1000) 26).toInt = (I110 (1000) 26 : Int32).toInt := congrArg Int32.toInt ((hkI117.get (1000) 26 rfl))
              have pw122 : (I117 (1000) 27).toInt = (Ia4 (1000) 27 : Int32).toInt := (congrArg Int32.toInt ((hkI117.get (1000) 27 rfl))).trans pw113
              have pw123 : (I117 (1000) 30).toInt = (Ia4 (1000) 30 : Int32).toInt := (congrArg Int32.toInt ((hkI117.get (1000) 30 rfl))).trans pw114
              have pw124 : (I117 (1000) 31).toInt = (I110 (1000) 31 : Int32).toInt := congrArg Int32.toInt ((hkI117.get (1000) 31 rfl))
              have pw125 : (I117 (1000) 32).toInt = (Ia4 (1000) 32 : Int32).toInt := (congrArg Int32.toInt ((hkI117.get (1000) 32 rfl))).trans pw115
              replace hC := hC.comp (n2 := 1) (xI117.2.2.2.2.2.ct (by omega) (by omega) xI117.2.2.2.1 (by omega)) (by omega) (by omega) (by omega) (by omega) (fun hz => by omega)
              have xeI117 : Imp ((I117 1000 26).toInt = 0) ((I117 1000 29).toInt = (I110 1000 29).toInt + 1) := fun hz => xI117.2.2.2.1 (by omega)
              have hen126 : Imp ((I110 1000 26).toInt = 0) (RC I117 = RC I110 ++ [enc (3 : Int32).toInt (0 : Int32).toInt]) := fun hz => RC_ent xI117.2.2.2.2.2 hz (by omega) (by omega) (xI117.2.2.2.1 hz)
              refine lv_goto (tgt := 4) hx hb dX10_sum_64 (by decide) ?_
              exact ih4  I117 L118 _ _ ls hI hK (by omega) (fun hz => by have w0 := xeI117 (by omega); have w1 := xI110.2.2.2.2.1 (by omega); omega) hC (opr_w (k := 45) (o := -16) hT hEX (by omega) (by decide) (by omega) (by omega) (by have z1 := tn (i := (u2 Ia4 (1000) 25 (v100)) 1000 25) (by omega); have z2 := tn (i := Ia4 1000 25) (by omega); omega) (by omega) (RC_of (J := Ia4) (J2 := (u2 Ia4 (1000) 25 (v100))) ((show (u2 Ia4 (1000) 25 (v100)) 1035 = Ia4 1035 from by funext zz; simp [u2_v])) ((show (u2 Ia4 (1000) 25 (v100)) 1036 = Ia4 1036 from by funext zz; simp [u2_v])) (by omega) (by omega)) (by omega) nw116.1.1 (by omega) (fun hz => ⟨by rw [show (I117 1000 25).toNatClampNeg = (I110 1000 25).toNatClampNeg from cl_eq (by omega)], by omega, by rw [hen126 hz, enc_v (v := -16) (Or.inr (Or.inr (Or.inl ⟨by omega, rfl⟩)))]⟩)) (fun hz => by have w1 := hKF hz; omega) (fun hz => by rw [show (I117 1000 25).toNatClampNeg = (I110 1000 25).toNatClampNeg from cl_eq (by omega)]; exact nw116.2 (by omega)) (by omega) hM hS (lv_sub hl [1] rfl)
            · have hc97 := c97
              have q97 := q_eq hc97
              have sg127 := xr93.2.2.2 (by omega)
              have sc128 := sx96.y (k := 43) (by omega) (by decide)
              refine lv_iconst (v := (2)) hx hb dX10_sum_38 (by decide) ?_
              refine lv_goto (tgt := 43) hx hb dX10_sum_39 (by decide) ?_
              refine lv_istore_n (lv' := [(1, .int (2)), (0, .ref (ad (1000)))]) hx hb dX10_sum_43 rfl hl (by decide) rfl (fun ls hl => ?_)
              refine lv_aload_n hx hb dX10_sum_44 rfl (lv_at hl 1 rfl) ?_
              refine lv_dup hx hb dX10_sum_45 rfl ?_
              refine m_geti (1000) 25 hx hb hts hown hE oc10 hM hJ.1 rfl (by decide) rfl tb_1202 dX10_sum_46 ?_
              have g129 := hI.get (1000) 25 (lo := 0) (hi := 100000) rfl
              refine lv_iconst (v := (1)) hx hb dX10_sum_49 (by decide) ?_
              refine lv_iadd hx hb dX10_sum_50 ?_
              refine lv_topi (fun v130 ev130 => ?_)
              have tv130 := a_add ev130 (by omega) (by omega)
              refine m_puti (1000) 25 hx hb hts hown hE oc10 hM hS hJ.1 rfl (by decide) rfl rfl rfl rfl tb_1202 dX10_sum_51 (fun H locs I131 eI131 hM hS => ?_)
              subst eI131
              have hI := hI.put (n := 1000) (k := 25) (v := v130) (lo := 0) (hi := 100000) rfl (by first | omega | decide)
              have hK := hK.put (n := 1000) (k := 25) (v := v130) (by first | rfl | simp [inR])
              refine lv_aload_n hx hb dX10_sum_54 rfl (lv_at hl 1 rfl) ?_
              have pw132 : ((u2 Ia4 (1000) 25 (v130)) (1000) 24).toInt = (Ia4 (1000) 24 : Int32).toInt := congrArg Int32.toInt ((show (u2 Ia4 (1000) 25 (v130)) (1000) 24 = Ia4 (1000) 24 from by simp [u2_v]))
              have pw133 : ((u2 Ia4 (1000) 25 (v130)) (1000) 25).toInt = (v130 : Int32).toInt := congrArg Int32.toInt ((show (u2 Ia4 (1000) 25 (v130)) (1000) 25 = v130 from by simp [u2_v]))
              have pw134 : ((u2 Ia4 (1000) 25 (v130)) (1000) 26).toInt = (Ia4 (1000) 26 : Int32).toInt := congrArg Int32.toInt ((show (u2 Ia4 (1000) 25 (v130)) (1000) 26 = Ia4 (1000) 26 from by simp [u2_v]))
              have pw135 : ((u2 Ia4 (1000) 25 (v130)) (1000) 27).toInt = (Ia4 (1000) 27 : Int32).toInt := congrArg Int32.toInt ((show (u2 Ia4 (1000) 25 (v130)) (1000) 27 = Ia4 (1000) 27 from by simp [u2_v]))
              have pw136 : ((u2 Ia4 (1000) 25 (v130)) (1000) 29).toInt = (Ia4 (1000) 29 : Int32).toInt := congrArg Int32.toInt ((show (u2 Ia4 (1000) 25 (v130)) (1000) 29 = Ia4 (1000) 29 from by simp [u2_v]))
              have pw137 : ((u2 Ia4 (1000) 25 (v130)) (1000) 30).toInt = (Ia4 (1000) 30 : Int32).toInt := congrArg Int32.toInt ((show (u2 Ia4 (1000) 25 (v130)) (1000) 30 = Ia4 (1000) 30 from by simp [u2_v]))
              have pw138 : ((u2 Ia4 (1000) 25 (v130)) (1000) 31).toInt = (Ia4 (1000) 31 : Int32).toInt := congrArg Int32.toInt ((show (u2 Ia4 (1000) 25 (v130)) (1000) 31 = Ia4 (1000) 31 from by simp [u2_v]))
              have pw139 : ((u2 Ia4 (1000) 25 (v130)) (1000) 32).toInt = (Ia4 (1000) 32 : Int32).toInt := congrArg Int32.toInt ((show (u2 Ia4 (1000) 25 (v130)) (1000) 32 = Ia4 (1000) 32 from by simp [u2_v]))
              refine m_callv (m_runV (1000) (As := []) (rest := []) hx hb hml hown hts hE hM hS hA ce_X10_term tb_1539 (V_X10_term_h l D A ad ns (u2 Ia4 (1000) 25 (v130)) La4 G hJ hI (by omega) (fun hz => by omega) (hbt.of (hK.getA 1034 rfl) (hK.get 1000 24 rfl))) rfl rfl ⟨Nat.le_of_ble_eq_true rfl, Nat.le_of_ble_eq_true rfl⟩ hJ.1 rfl rfl (by decide) rfl hl.1 rfl (Nat.le_of_ble_eq_true rfl) dX10_sum_55 ⟨Nat.le_of_ble_eq_true rfl, Nat.le_of_ble_eq_true rfl⟩) hS (fun u H locs hw hM hS => ?_)
              obtain ⟨I140, L141, rfl, hI, hkI140, xI140⟩ := hw
              have hM : Mem D A ad ns I140 L141 G H := hM
              have hK := hK.trans hkI140 rfl
              replace hC := CT.link (I2 := (u2 Ia4 (1000) 25 (v130))) hC ((show (u2 Ia4 (1000) 25 (v130)) 1035 = Ia4 1035 from by funext zz; simp [u2_v])) ((show (u2 Ia4 (1000) 25 (v130)) 1036 = Ia4 1036 from by funext zz; simp [u2_v])) (by omega) (fun hz => by omega)
              have pw142 : (I140 (1000) 24).toInt = (Ia4 (1000) 24 : Int32).toInt := (congrArg Int32.toInt ((hkI140.get (1000) 24 rfl))).trans pw132
              have pw143 : (I140 (1000) 27).toInt = (Ia4 (1000) 27 : Int32).toInt := (congrArg Int32.toInt ((hkI140.get (1000) 27 rfl))).trans pw135
              have pw144 : (I140 (1000) 30).toInt = (Ia4 (1000) 30 : Int32).toInt := (congrArg Int32.toInt ((hkI140.get (1000) 30 rfl))).trans pw137
              have pw145 : (I140 (1000) 32).toInt = (Ia4 (1000) 32 : Int32).toInt := (congrArg Int32.toInt ((hkI140.get (1000) 32 rfl))).trans pw139
              replace hC := hC.comp ((xI140.2.2.2.2.2).mono0 (1)) (by omega) (by omega) (by omega) (by omega) (fun hz => (xI140.2.2.2.2.1 hz).1)
              have nw146 := xI140.1
              rw [show TM (u2 Ia4 (1000) 25 (v130)) = TM I from (TM_of (hkI140.getA 1034 rfl) (hkI140.get 1000 24 rfl)).symm.trans (TM_of (hK.getA 1034 rfl) (hK.get 1000 24 rfl))] at nw146
              refine lv_aload_n hx hb dX10_sum_58 rfl (lv_at hl 1 rfl) ?_
              refine lv_iload_n hx hb dX10_sum_59 rfl (lv_at hl 0 rfl) ?_
              refine lv_iconst (v := (0)) hx hb dX10_sum_60 (by decide) ?_
              refine m_callv (m_runV (1000) (As := [.int (2), .int (0)]) (rest := []) hx hb hml hown hts hE hM hS hA ce_X10_entry tb_1552 (V_X10_entry_h l D A ad ns I140 L141 G (2) (0) hJ hI (fun hz => by have w0 := xI140.2.2.2.2.1 (by omega); omega)) rfl rfl ⟨Nat.le_of_ble_eq_true rfl, Nat.le_of_ble_eq_true rfl⟩ hJ.1 rfl rfl (by decide) rfl hl.1 rfl (Nat.le_of_ble_eq_true rfl) dX10_sum_61 ⟨Nat.le_of_ble_eq_true rfl, Nat.le_of_ble_eq_true rfl⟩) hS (fun u H locs hw hM hS => ?_)
              obtain ⟨I147, L148, rfl, hI, hkI147, xI147⟩ := hw
              have hM : Mem D A ad ns I147 L148 G H := hM
              have hK := hK.trans hkI147 rfl
              have pw149 : (I147 (1000) 24).toInt = (Ia4 (1000) 24 : Int32).toInt := (congrArg Int32.toInt ((hkI147.get (1000) 24 rfl))).trans pw142
              have pw150 : (I147 (1000) 25).toInt = (I140 (1000) 25 : Int32).toInt := congrArg Int32.toInt ((hkI147.get (1000) 25 rfl))
              have pw151 : (I147 (1000) 26).toInt = (I140 (1000) 26 : Int32).toInt := congrArg Int32.toInt ((hkI147.get (1000) 26 rfl))
              have pw152 : (I147 (1000) 27).toInt = (Ia4 (1000) 27 : Int32).toInt := (congrArg Int32.toInt ((hkI147.get (1000) 27 rfl))).trans pw143
              have pw153 : (I147 (1000) 30).toInt = (Ia4 (1000) 30 : Int32).toInt := (congrArg Int32.toInt ((hkI147.get (1000) 30 rfl))).trans pw144
              have pw154 : (I147 (1000) 31).toInt = (I140 (1000) 31 : Int32).toInt := congrArg Int32.toInt ((hkI147.get (1000) 31 rfl))
              have pw155 : (I147 (1000) 32).toInt = (Ia4 (1000) 32 : Int32).toInt := (congrArg Int32.toInt ((hkI147.get (1000) 32 rfl))).trans pw145
              replace hC := hC.comp (n2 := 1) (xI147.2.2.2.2.2.ct (by omega) (by omega) xI147.2.2.2.1 (by omega)) (by omega) (by omega) (by omega) (by omega) (fun hz => by omega)
              have xeI147 : Imp ((I147 1000 26).toInt = 0) ((I147 1000 29).toInt = (I140 1000 29).toInt + 1) := fun hz => xI147.2.2.2.1 (by omega)
              have hen156 : Imp ((I140 1000 26).toInt = 0) (RC I147 = RC I140 ++ [enc (2 : Int32).toInt (0 : Int32).toInt]) := fun hz => RC_ent xI147.2.2.2.2.2 hz (by omega) (by omega) (xI147.2.2.2.1 hz)
              refine lv_goto (tgt := 4) hx hb dX10_sum_64 (by decide) ?_
              exact ih4  I147 L148 _ _ ls hI hK (by omega) (fun hz => by have w0 := xeI147 (by omega); have w1 := xI140.2.2.2.2.1 (by omega); omega) hC (opr_w (k := 43) (o := -15) hT hEX (by omega) (by decide) (by omega) (by omega) (by have z1 := tn (i := (u2 Ia4 (1000) 25 (v130)) 1000 25) (by omega); have z2 := tn (i := Ia4 1000 25) (by omega); omega) (by omega) (RC_of (J := Ia4) (J2 := (u2 Ia4 (1000) 25 (v130))) ((show (u2 Ia4 (1000) 25 (v130)) 1035 = Ia4 1035 from by funext zz; simp [u2_v])) ((show (u2 Ia4 (1000) 25 (v130)) 1036 = Ia4 1036 from by funext zz; simp [u2_v])) (by omega) (by omega)) (by omega) nw146.1.1 (by omega) (fun hz => ⟨by rw [show (I147 1000 25).toNatClampNeg = (I140 1000 25).toNatClampNeg from cl_eq (by omega)], by omega, by rw [hen156 hz, enc_v (v := -15) (Or.inr (Or.inl ⟨by omega, rfl⟩))]⟩)) (fun hz => by have w1 := hKF hz; omega) (fun hz => by rw [show (I147 1000 25).toNatClampNeg = (I140 1000 25).toNatClampNeg from cl_eq (by omega)]; exact nw146.2 (by omega)) (by omega) hM hS (lv_sub hl [1] rfl)
  exact loop4 (_ + 1)  I1 L2 _ _ ls hI hK (by omega) (fun hz => by have w0 := xI1.2.2.2.2.1 (by omega); have w1 := hPI (by omega); omega) hC (nw9.1.1.mono (by decide)) nw9.1.2 nw9.2 (Nat.lt_succ_self _) hM hS (lv_sub hl [0] rfl)
