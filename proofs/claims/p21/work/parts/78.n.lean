set_option maxHeartbeats 4000000 in
set_option maxRecDepth 20000 in
theorem V_X10_clause_h (l : Launch) (D : va_G) (A : Nat → Prop) (ad : Nat → Nat) (ns : List Nat) (I : MI) (L : ML) (G : MG) (a0 : Int32) (hJ : SGM ns G) (hI : INV I) (hf0 : (I 1000 26).toInt = 0) (hp : (I 1000 25).toInt ≤ 400) (hPI : Imp ((I 1000 26).toInt = 0) (0 ≤ (I 1000 31).toInt ∧ (I 1000 31).toInt ≤ 60 ∧ 3 * (I 1000 29).toInt ≤ 6 * (I 1000 31).toInt + (I 1000 25).toInt)) (hbt : BTM I) (ha0 : 0 ≤ a0.toInt ∧ a0.toInt ≤ 12) : Met l yX10_clause (wd yX10_clause cX10_clause 4 none) ({ frames := 11, cells := 0, slots := 0, locals := 239 }) (va_Pc [.ref (ad (1000)), .int a0] (PM D A ad ns I L G)) (va_Qv (fun u => ∃ I2 L2, u = (ad, ns, I2, L2, G) ∧ INV I2 ∧ Kp [(1035, 1037), (1038, 1043)] [(1000, 25), (1000, 26), (1000, 29), (1000, 30), (1000, 31), (1000, 32)] I I2 ∧ ((CLP (TM I) I I2 (a0).toNatClampNeg ∧ ∀ i : Nat, i ≠ 12 * (I 1000 27).toNatClampNeg + (a0).toNatClampNeg → I2 1038 i = I 1038 i) ∧ (I 1000 25).toInt ≤ (I2 1000 25).toInt ∧ (I2 1000 25).toInt ≤ 401 ∧ (I 1000 29).toInt ≤ (I2 1000 29).toInt ∧ Imp ((I2 1000 26).toInt = 0) ((I 1000 26).toInt = 0 ∧ (I2 1000 25).toInt ≤ 400 ∧ 0 ≤ (I2 1000 31).toInt ∧ (I2 1000 31).toInt ≤ 60 ∧ 3 * (I2 1000 29).toInt ≤ 6 * (I2 1000 31).toInt + (I2 1000 25).toInt ∧ a0.toInt ≤ 11) ∧ Imp ((I2 1000 26).toInt = 0) (CLr I2 (I 1000 27).toNatClampNeg (12 * (I 1000 27).toNatClampNeg + (a0).toNatClampNeg) (I2 1000 29).toInt) ∧ CLX I I2 (12 * (I 1000 27).toNatClampNeg + (a0).toNatClampNeg))) (BM D A) A) 0 0 A := by
  refine m_ofW (by decide) (Nat.le_of_ble_eq_true rfl) ?_
  intro p e s m below meth c ls args hC hE hM hA hS hl
  obtain ⟨hx, hb, hml, hown, hts, hr, hlocks, hin⟩ := hC
  have k0 : (0 : Int32).toInt = 0 := by decide
  have k4 : (4 : Int32).toInt = 4 := by decide
  have k12 : (12 : Int32).toInt = 12 := by decide
  have k23 : (23 : Int32).toInt = 23 := by decide
  have hC := CT.rf I 0
  have hI0 := hI
  have gs0 := hI.get 1000 27 (lo := 0) (hi := 5) rfl
  have ge0 := hI.get 1000 29 (lo := 0) (hi := 300) rfl
  have gPP := hI.get 1000 25 (lo := 0) (hi := 100000) rfl
  have hT := TM_ok hI
  have gRI := RC_len (J := I) ge0.1
  have hK : Kp [(1035, 1037), (1038, 1043)] [(1000, 25), (1000, 26), (1000, 29), (1000, 30), (1000, 31), (1000, 32)] I I := Kp.rf
  have hl : lv_has ls 4 [(0, .ref (ad (1000))), (1, .int (a0))] := hl
  refine lv_aload_n hx hb dX10_clause_0 rfl (lv_at hl 0 rfl) ?_
  refine m_callv (m_runV (1000) (As := []) (rest := []) hx hb hml hown hts hE hM hS hA ce_X10_blanks tb_1506 (V_X10_blanks_h l D A ad ns I L G hJ hI (by omega)) rfl rfl ⟨Nat.le_of_ble_eq_true rfl, Nat.le_of_ble_eq_true rfl⟩ hJ.1 rfl rfl (by decide) rfl hl.1 rfl (Nat.le_of_ble_eq_true rfl) dX10_clause_1 ⟨Nat.le_of_ble_eq_true rfl, Nat.le_of_ble_eq_true rfl⟩) hS (fun u H locs hw hM hS => ?_)
  obtain ⟨I1, L2, rfl, hI, hkI1, xI1⟩ := hw
  have hM : Mem D A ad ns I1 L2 G H := hM
  have hK := hK.trans hkI1 rfl
  have pw3 : (I1 (1000) 24).toInt = (I (1000) 24 : Int32).toInt := congrArg Int32.toInt ((hkI1.get (1000) 24 rfl))
  have pw4 : (I1 (1000) 26).toInt = (I (1000) 26 : Int32).toInt := congrArg Int32.toInt ((hkI1.get (1000) 26 rfl))
  have pw5 : (I1 (1000) 27).toInt = (I (1000) 27 : Int32).toInt := congrArg Int32.toInt ((hkI1.get (1000) 27 rfl))
  have pw6 : (I1 (1000) 29).toInt = (I (1000) 29 : Int32).toInt := congrArg Int32.toInt ((hkI1.get (1000) 29 rfl))
  have pw7 : (I1 (1000) 30).toInt = (I (1000) 30 : Int32).toInt := congrArg Int32.toInt ((hkI1.get (1000) 30 rfl))
  have pw8 : (I1 (1000) 31).toInt = (I (1000) 31 : Int32).toInt := congrArg Int32.toInt ((hkI1.get (1000) 31 rfl))
  have pw9 : (I1 (1000) 32).toInt = (I (1000) 32 : Int32).toInt := congrArg Int32.toInt ((hkI1.get (1000) 32 rfl))
  have nw10 := xI1.1
  refine lv_aload_n hx hb dX10_clause_4 rfl (lv_at hl 0 rfl) ?_
  refine m_geti (1000) 25 hx hb hts hown hE oc10 hM hJ.1 rfl (by decide) rfl tb_1202 dX10_clause_5 ?_
  have g11 := hI.get (1000) 25 (lo := 0) (hi := 100000) rfl
  refine lv_istore_n (lv' := [(2, .int (I1 (1000) 25)), (0, .ref (ad (1000))), (1, .int (a0))]) hx hb dX10_clause_8 rfl hl (by decide) rfl (fun ls hl => ?_)
  refine lv_aload_n hx hb dX10_clause_9 rfl (lv_at hl 1 rfl) ?_
  refine m_ldcwS hx hb hown (EV.str hE 10 rfl).1 dX10_clause_10 ?_
  refine m_calli (m_runV (1000) (As := [.ref (D.2 100 10)]) (rest := []) hx hb hml hown hts hE hM hS hA ce_X10_stands tb_1515 (V_X10_stands_h l D A ad ns I1 L2 G 10 _ hJ hI rfl (by decide) (by decide) (hbt.of (hK.getA 1034 rfl) (hK.get 1000 24 rfl))) rfl rfl ⟨Nat.le_of_ble_eq_true rfl, Nat.le_of_ble_eq_true rfl⟩ hJ.1 rfl rfl (by decide) rfl hl.1 rfl (Nat.le_of_ble_eq_true rfl) dX10_clause_13 ⟨Nat.le_of_ble_eq_true rfl, Nat.le_of_ble_eq_true rfl⟩) hS (fun r12 u H locs hw hM hS => ?_)
  obtain ⟨rfl, xr12⟩ := hw
  have hM : Mem D A ad ns I1 L2 G H := hM
  have g13 := hI.get 1000 24 (lo := 0) (hi := 400) rfl
  have g14 := hI.get 1000 25 (lo := 0) (hi := 100000) rfl
  have slr12 : Imp ((r12).toInt ≠ 0) ((I1 (1000) 25).toInt + 4 ≤ (I1 (1000) 24).toInt) := xr12.2.2.2
  have sx15 : WQX (TM I1) (I1 1000 25).toNatClampNeg (([116, 117, 114, 110] : List Int32).map b8) r12 := xr12.1
  rw [mb_turn] at sx15
  rw [show TM I1 = TM I from (TM_of (hK.getA 1034 rfl) (hK.get 1000 24 rfl))] at sx15
  refine lv_if_ne (tgt := 26) hx hb dX10_clause_16 (by decide) (fun c16 => ?_) (fun c16 => ?_)
  · have hc16 := c16
    have q16 := q_ne hc16
    have sg17 := slr12 (by omega)
    have sc18 := sx15.y (by omega)
    refine lv_iload_n hx hb dX10_clause_26 rfl (lv_at hl 2 rfl) ?_
    refine lv_bipush (v := (12)) hx hb dX10_clause_27 (by decide) ?_
    refine lv_icmp_ne (tgt := 39) hx hb dX10_clause_29 (by decide) (fun c19 => ?_) (fun c19 => ?_)
    · have hc19 := c19
      have q19 := q_ne hc19
      refine lv_aload_n hx hb dX10_clause_39 rfl (lv_at hl 1 rfl) ?_
      refine lv_dup hx hb dX10_clause_40 rfl ?_
      refine m_geti (1000) 25 hx hb hts hown hE oc10 hM hJ.1 rfl (by decide) rfl tb_1202 dX10_clause_41 ?_
      refine lv_iconst (v := (4)) hx hb dX10_clause_44 (by decide) ?_
      refine lv_iadd hx hb dX10_clause_45 ?_
      refine lv_topi (fun v20 ev20 => ?_)
      have tv20 := a_add ev20 (by omega) (by omega)
      refine m_puti (1000) 25 hx hb hts hown hE oc10 hM hS hJ.1 rfl (by decide) rfl rfl rfl rfl tb_1202 dX10_clause_46 (fun H locs I21 eI21 hM hS => ?_)
      subst eI21
      have hI := hI.put (n := 1000) (k := 25) (v := v20) (lo := 0) (hi := 100000) rfl (by first | omega | decide)
      have hK := hK.put (n := 1000) (k := 25) (v := v20) (by first | rfl | simp [inR])
      refine lv_aload_n hx hb dX10_clause_49 rfl (lv_at hl 1 rfl) ?_
      have pw22 : ((u2 I1 (1000) 25 (v20)) (1000) 24).toInt = (I (1000) 24 : Int32).toInt := (congrArg Int32.toInt ((show (u2 I1 (1000) 25 (v20)) (1000) 24 = I1 (1000) 24 from by simp [u2_v]))).trans pw3
      have pw23 : ((u2 I1 (1000) 25 (v20)) (1000) 25).toInt = (v20 : Int32).toInt := congrArg Int32.toInt ((show (u2 I1 (1000) 25 (v20)) (1000) 25 = v20 from by simp [u2_v]))
      have pw24 : ((u2 I1 (1000) 25 (v20)) (1000) 26).toInt = (I (1000) 26 : Int32).toInt := (congrArg Int32.toInt ((show (u2 I1 (1000) 25 (v20)) (1000) 26 = I1 (1000) 26 from by simp [u2_v]))).trans pw4
      have pw25 : ((u2 I1 (1000) 25 (v20)) (1000) 27).toInt = (I (1000) 27 : Int32).toInt := (congrArg Int32.toInt ((show (u2 I1 (1000) 25 (v20)) (1000) 27 = I1 (1000) 27 from by simp [u2_v]))).trans pw5
      have pw26 : ((u2 I1 (1000) 25 (v20)) (1000) 29).toInt = (I (1000) 29 : Int32).toInt := (congrArg Int32.toInt ((show (u2 I1 (1000) 25 (v20)) (1000) 29 = I1 (1000) 29 from by simp [u2_v]))).trans pw6
      have pw27 : ((u2 I1 (1000) 25 (v20)) (1000) 30).toInt = (I (1000) 30 : Int32).toInt := (congrArg Int32.toInt ((show (u2 I1 (1000) 25 (v20)) (1000) 30 = I1 (1000) 30 from by simp [u2_v]))).trans pw7
      have pw28 : ((u2 I1 (1000) 25 (v20)) (1000) 31).toInt = (I (1000) 31 : Int32).toInt := (congrArg Int32.toInt ((show (u2 I1 (1000) 25 (v20)) (1000) 31 = I1 (1000) 31 from by simp [u2_v]))).trans pw8
      have pw29 : ((u2 I1 (1000) 25 (v20)) (1000) 32).toInt = (I (1000) 32 : Int32).toInt := (congrArg Int32.toInt ((show (u2 I1 (1000) 25 (v20)) (1000) 32 = I1 (1000) 32 from by simp [u2_v]))).trans pw9
      refine m_callv (m_runV (1000) (As := []) (rest := []) hx hb hml hown hts hE hM hS hA ce_X10_blanks tb_1506 (V_X10_blanks_h l D A ad ns (u2 I1 (1000) 25 (v20)) L2 G hJ hI (by omega)) rfl rfl ⟨Nat.le_of_ble_eq_true rfl, Nat.le_of_ble_eq_true rfl⟩ hJ.1 rfl rfl (by decide) rfl hl.1 rfl (Nat.le_of_ble_eq_true rfl) dX10_clause_50 ⟨Nat.le_of_ble_eq_true rfl, Nat.le_of_ble_eq_true rfl⟩) hS (fun u H locs hw hM hS => ?_)
      obtain ⟨I30, L31, rfl, hI, hkI30, xI30⟩ := hw
      have hM : Mem D A ad ns I30 L31 G H := hM
      have hK := hK.trans hkI30 rfl
      have pw32 : (I30 (1000) 24).toInt = (I (1000) 24 : Int32).toInt := (congrArg Int32.toInt ((hkI30.get (1000) 24 rfl))).trans pw22
      have pw33 : (I30 (1000) 26).toInt = (I (1000) 26 : Int32).toInt := (congrArg Int32.toInt ((hkI30.get (1000) 26 rfl))).trans pw24
      have pw34 : (I30 (1000) 27).toInt = (I (1000) 27 : Int32).toInt := (congrArg Int32.toInt ((hkI30.get (1000) 27 rfl))).trans pw25
      have pw35 : (I30 (1000) 29).toInt = (I (1000) 29 : Int32).toInt := (congrArg Int32.toInt ((hkI30.get (1000) 29 rfl))).trans pw26
      have pw36 : (I30 (1000) 30).toInt = (I (1000) 30 : Int32).toInt := (congrArg Int32.toInt ((hkI30.get (1000) 30 rfl))).trans pw27
      have pw37 : (I30 (1000) 31).toInt = (I (1000) 31 : Int32).toInt := (congrArg Int32.toInt ((hkI30.get (1000) 31 rfl))).trans pw28
      have pw38 : (I30 (1000) 32).toInt = (I (1000) 32 : Int32).toInt := (congrArg Int32.toInt ((hkI30.get (1000) 32 rfl))).trans pw29
      have nw39 := xI30.1
      rw [show TM (u2 I1 (1000) 25 (v20)) = TM I from (TM_of (hkI30.getA 1034 rfl) (hkI30.get 1000 24 rfl)).symm.trans (TM_of (hK.getA 1034 rfl) (hK.get 1000 24 rfl))] at nw39
      refine lv_bipush (v := (12)) hx hb dX10_clause_53 (by decide) ?_
      refine lv_aload_n hx hb dX10_clause_55 rfl (lv_at hl 1 rfl) ?_
      refine m_geti (1000) 27 hx hb hts hown hE oc10 hM hJ.1 rfl (by decide) rfl tb_1204 dX10_clause_56 ?_
      have g40 := hI.get (1000) 27 (lo := 0) (hi := 5) rfl
      have z41 : I30 (1000) 27 = I (1000) 27 := (((hkI30.get (1000) 27 rfl)).trans (show (u2 I1 (1000) 25 (v20)) (1000) 27 = I1 (1000) 27 from by simp [u2_v])).trans (hkI1.get (1000) 27 rfl)
      rw [z41] at g40 ⊢
      refine lv_imul hx hb dX10_clause_59 ?_
      refine lv_topi (fun v42 ev42 => ?_)
      have tv42 := a_mulL (c := 12) ev42 (by decide) (by omega) (by omega)
      refine lv_iload_n hx hb dX10_clause_60 rfl (lv_at hl 2 rfl) ?_
      refine lv_iadd hx hb dX10_clause_61 ?_
      refine lv_topi (fun v43 ev43 => ?_)
      have tv43 := a_add ev43 (by omega) (by omega)
      refine lv_istore_n (lv' := [(3, .int (v43)), (2, .int (I1 (1000) 25)), (0, .ref (ad (1000))), (1, .int (a0))]) hx hb dX10_clause_62 rfl hl (by decide) rfl (fun ls hl => ?_)
      refine lv_aload_n hx hb dX10_clause_63 rfl (lv_at hl 2 rfl) ?_
      refine m_getr (1000) 38 (1038) hx hb hts hown hE oc10 hM hJ.1 rfl (by decide) rfl (hJ.2 38 (by decide)).2 (by decide) tb_1215 dX10_clause_64 ?_
      refine lv_iload_n hx hb dX10_clause_67 rfl (lv_at hl 0 rfl) ?_
      refine lv_aload_n hx hb dX10_clause_68 rfl (lv_at hl 2 rfl) ?_
      refine m_geti (1000) 26 hx hb hts hown hE oc10 hM hJ.1 rfl (by decide) rfl tb_1203 dX10_clause_69 ?_
      have z44 : I30 (1000) 26 = I (1000) 26 := (((hkI30.get (1000) 26 rfl)).trans (show (u2 I1 (1000) 25 (v20)) (1000) 26 = I1 (1000) 26 from by simp [u2_v])).trans (hkI1.get (1000) 26 rfl)
      rw [z44]
      refine lv_if_ne (tgt := 84) hx hb dX10_clause_72 (by decide) (fun c45 => ?_) (fun c45 => ?_)
      · exfalso; have qz := q_ne c45; omega
      · have hc45 := c45
        have q45 := q_eq hc45
        have w46 := hPI (by omega)
        refine lv_aload_n hx hb dX10_clause_75 rfl (lv_at hl 2 rfl) ?_
        refine lv_bipush (v := (23)) hx hb dX10_clause_76 (by decide) ?_
        refine m_calli (m_runV (1000) (As := [.int (23)]) (rest := [.int (v43), .ref (ad (1038))]) hx hb hml hown hts hE hM hS hA ce_X10_digits tb_1525 (V_X10_digits_h l D A ad ns I30 L31 G (23) hJ hI (by omega)) rfl rfl ⟨Nat.le_of_ble_eq_true rfl, Nat.le_of_ble_eq_true rfl⟩ hJ.1 rfl rfl (by decide) rfl hl.1 rfl (Nat.le_of_ble_eq_true rfl) dX10_clause_78 ⟨Nat.le_of_ble_eq_true rfl, Nat.le_of_ble_eq_true rfl⟩) hS (fun r47 u H locs hw hM hS => ?_)
        obtain ⟨I48, L49, rfl, hI, hkI48, xr47⟩ := hw
        have hM : Mem D A ad ns I48 L49 G H := hM
        have hK := hK.trans hkI48 rfl
        have pw50 : (I48 (1000) 24).toInt = (I (1000) 24 : Int32).toInt := (congrArg Int32.toInt ((hkI48.get (1000) 24 rfl))).trans pw32
        have pw51 : (I48 (1000) 27).toInt = (I (1000) 27 : Int32).toInt := (congrArg Int32.toInt ((hkI48.get (1000) 27 rfl))).trans pw34
        have pw52 : (I48 (1000) 29).toInt = (I (1000) 29 : Int32).toInt := (congrArg Int32.toInt ((hkI48.get (1000) 29 rfl))).trans pw35
        have pw53 : (I48 (1000) 30).toInt = (I (1000) 30 : Int32).toInt := (congrArg Int32.toInt ((hkI48.get (1000) 30 rfl))).trans pw36
        have pw54 : (I48 (1000) 31).toInt = (I (1000) 31 : Int32).toInt := (congrArg Int32.toInt ((hkI48.get (1000) 31 rfl))).trans pw37
        have pw55 : (I48 (1000) 32).toInt = (I (1000) 32 : Int32).toInt := (congrArg Int32.toInt ((hkI48.get (1000) 32 rfl))).trans pw38
        have nw56 := xr47.1
        rw [show TM I30 = TM I from (TM_of (hkI48.getA 1034 rfl) (hkI48.get 1000 24 rfl)).symm.trans (TM_of (hK.getA 1034 rfl) (hK.get 1000 24 rfl))] at nw56
        refine lv_goto (tgt := 85) hx hb dX10_clause_81 (by decide) ?_
        refine m_iast (1038) hx hb hE hM hS (hJ.2 38 (by decide)).1 rfl (vp_in_iff.mpr (by omega)) dX10_clause_85 (fun H locs I57 eI57 hM hS => ?_)
        subst eI57
        have hI := hI.putF (n := 1038) (k := ((v43).toNatClampNeg)) (v := r47) rfl
        have hK := hK.put (n := 1038) (k := ((v43).toNatClampNeg)) (v := r47) (by first | rfl | simp [inR])
        refine lv_aload_n hx hb dX10_clause_86 rfl (lv_at hl 2 rfl) ?_
        refine m_getr (1000) 39 (1039) hx hb hts hown hE oc10 hM hJ.1 rfl (by decide) rfl (hJ.2 39 (by decide)).2 (by decide) tb_1216 dX10_clause_87 ?_
        refine lv_iload_n hx hb dX10_clause_90 rfl (lv_at hl 0 rfl) ?_
        refine lv_aload_n hx hb dX10_clause_91 rfl (lv_at hl 2 rfl) ?_
        refine m_geti (1000) 29 hx hb hts hown hE oc10 hM hJ.1 rfl (by decide) rfl tb_1206 dX10_clause_92 ?_
        have g58 := hI.get (1000) 29 (lo := 0) (hi := 300) rfl
        have z59 : (u2 I48 (1038) ((v43).toNatClampNeg) (r47)) (1000) 29 = I (1000) 29 := (((((show (u2 I48 (1038) ((v43).toNatClampNeg) (r47)) (1000) 29 = I48 (1000) 29 from by simp [u2_v])).trans (hkI48.get (1000) 29 rfl)).trans (hkI30.get (1000) 29 rfl)).trans (show (u2 I1 (1000) 25 (v20)) (1000) 29 = I1 (1000) 29 from by simp [u2_v])).trans (hkI1.get (1000) 29 rfl)
        rw [z59] at g58 ⊢
        refine m_iast (1039) hx hb hE hM hS (hJ.2 39 (by decide)).1 rfl (vp_in_iff.mpr (by omega)) dX10_clause_95 (fun H locs I60 eI60 hM hS => ?_)
        subst eI60
        have hI := hI.put (n := 1039) (k := ((v43).toNatClampNeg)) (v := I (1000) 29) (lo := 0) (hi := 300) rfl (by first | omega | decide)
        have hK := hK.put (n := 1039) (k := ((v43).toNatClampNeg)) (v := I (1000) 29) (by first | rfl | simp [inR])
        refine lv_aload_n hx hb dX10_clause_96 rfl (lv_at hl 2 rfl) ?_
        have pw61 : ((u2 (u2 I48 (1038) ((v43).toNatClampNeg) (r47)) (1039) ((v43).toNatClampNeg) (I (1000) 29)) (1000) 24).toInt = (I (1000) 24 : Int32).toInt := (congrArg Int32.toInt ((show (u2 (u2 I48 (1038) ((v43).toNatClampNeg) (r47)) (1039) ((v43).toNatClampNeg) (I (1000) 29)) (1000) 24 = I48 (1000) 24 from by simp [u2_v]))).trans pw50
        have pw62 : ((u2 (u2 I48 (1038) ((v43).toNatClampNeg) (r47)) (1039) ((v43).toNatClampNeg) (I (1000) 29)) (1000) 25).toInt = (I48 (1000) 25 : Int32).toInt := congrArg Int32.toInt ((show (u2 (u2 I48 (1038) ((v43).toNatClampNeg) (r47)) (1039) ((v43).toNatClampNeg) (I (1000) 29)) (1000) 25 = I48 (1000) 25 from by simp [u2_v]))
        have pw63 : ((u2 (u2 I48 (1038) ((v43).toNatClampNeg) (r47)) (1039) ((v43).toNatClampNeg) (I (1000) 29)) (1000) 26).toInt = (I48 (1000) 26 : Int32).toInt := congrArg Int32.toInt ((show (u2 (u2 I48 (1038) ((v43).toNatClampNeg) (r47)) (1039) ((v43).toNatClampNeg) (I (1000) 29)) (1000) 26 = I48 (1000) 26 from by simp [u2_v]))
        have pw64 : ((u2 (u2 I48 (1038) ((v43).toNatClampNeg) (r47)) (1039) ((v43).toNatClampNeg) (I (1000) 29)) (1000) 27).toInt = (I (1000) 27 : Int32).toInt := (congrArg Int32.toInt ((show (u2 (u2 I48 (1038) ((v43).toNatClampNeg) (r47)) (1039) ((v43).toNatClampNeg) (I (1000) 29)) (1000) 27 = I48 (1000) 27 from by simp [u2_v]))).trans pw51
        have pw65 : ((u2 (u2 I48 (1038) ((v43).toNatClampNeg) (r47)) (1039) ((v43).toNatClampNeg) (I (1000) 29)) (1000) 29).toInt = (I (1000) 29 : Int32).toInt := (congrArg Int32.toInt ((show (u2 (u2 I48 (1038) ((v43).toNatClampNeg) (r47)) (1039) ((v43).toNatClampNeg) (I (1000) 29)) (1000) 29 = I48 (1000) 29 from by simp [u2_v]))).trans pw52
        have pw66 : ((u2 (u2 I48 (1038) ((v43).toNatClampNeg) (r47)) (1039) ((v43).toNatClampNeg) (I (1000) 29)) (1000) 30).toInt = (I (1000) 30 : Int32).toInt := (congrArg Int32.toInt ((show (u2 (u2 I48 (1038) ((v43).toNatClampNeg) (r47)) (1039) ((v43).toNatClampNeg) (I (1000) 29)) (1000) 30 = I48 (1000) 30 from by simp [u2_v]))).trans pw53
        have pw67 : ((u2 (u2 I48 (1038) ((v43).toNatClampNeg) (r47)) (1039) ((v43).toNatClampNeg) (I (1000) 29)) (1000) 31).toInt = (I (1000) 31 : Int32).toInt := (congrArg Int32.toInt ((show (u2 (u2 I48 (1038) ((v43).toNatClampNeg) (r47)) (1039) ((v43).toNatClampNeg) (I (1000) 29)) (1000) 31 = I48 (1000) 31 from by simp [u2_v]))).trans pw54
        have pw68 : ((u2 (u2 I48 (1038) ((v43).toNatClampNeg) (r47)) (1039) ((v43).toNatClampNeg) (I (1000) 29)) (1000) 32).toInt = (I (1000) 32 : Int32).toInt := (congrArg Int32.toInt ((show (u2 (u2 I48 (1038) ((v43).toNatClampNeg) (r47)) (1039) ((v43).toNatClampNeg) (I (1000) 29)) (1000) 32 = I48 (1000) 32 from by simp [u2_v]))).trans pw55
        refine m_callv (m_runV (1000) (As := []) (rest := []) hx hb hml hown hts hE hM hS hA ce_X10_sum tb_1535 (V_X10_sum_h l D A ad ns (u2 (u2 I48 (1038) ((v43).toNatClampNeg) (r47)) (1039) ((v43).toNatClampNeg) (I (1000) 29)) L49 G hJ hI (by omega) (fun hz => by have w0 := xr47.2.2.2 (by omega); (repeat' apply And.intro) <;> omega) (hbt.of (hK.getA 1034 rfl) (hK.get 1000 24 rfl))) rfl rfl ⟨Nat.le_of_ble_eq_true rfl, Nat.le_of_ble_eq_true rfl⟩ hJ.1 rfl rfl (by decide) rfl hl.1 rfl (Nat.le_of_ble_eq_true rfl) dX10_clause_97 ⟨Nat.le_of_ble_eq_true rfl, Nat.le_of_ble_eq_true rfl⟩) hS (fun u H locs hw hM hS => ?_)
        obtain ⟨I69, L70, rfl, hI, hkI69, xI69⟩ := hw
        have hM : Mem D A ad ns I69 L70 G H := hM
        have hK := hK.trans hkI69 rfl
        replace hC := CT.link (I2 := (u2 (u2 I48 (1038) ((v43).toNatClampNeg) (r47)) (1039) ((v43).toNatClampNeg) (I (1000) 29))) hC ((((((show (u2 (u2 I48 (1038) ((v43).toNatClampNeg) (r47)) (1039) ((v43).toNatClampNeg) (I (1000) 29)) 1035 = I48 1035 from by funext zz; simp [u2_v])).trans (hkI48.getA 1035 rfl)).trans (hkI30.getA 1035 rfl)).trans (show (u2 I1 (1000) 25 (v20)) 1035 = I1 1035 from by funext zz; simp [u2_v])).trans (hkI1.getA 1035 rfl)) ((((((show (u2 (u2 I48 (1038) ((v43).toNatClampNeg) (r47)) (1039) ((v43).toNatClampNeg) (I (1000) 29)) 1036 = I48 1036 from by funext zz; simp [u2_v])).trans (hkI48.getA 1036 rfl)).trans (hkI30.getA 1036 rfl)).trans (show (u2 I1 (1000) 25 (v20)) 1036 = I1 1036 from by funext zz; simp [u2_v])).trans (hkI1.getA 1036 rfl)) (by omega) (fun hz => by have w0 := xr47.2.2.2 (by omega); (repeat' apply And.intro) <;> omega)
        have pw71 : (I69 (1000) 24).toInt = (I (1000) 24 : Int32).toInt := (congrArg Int32.toInt ((hkI69.get (1000) 24 rfl))).trans pw61
        have pw72 : (I69 (1000) 27).toInt = (I (1000) 27 : Int32).toInt := (congrArg Int32.toInt ((hkI69.get (1000) 27 rfl))).trans pw64
        have pw73 : (I69 (1000) 30).toInt = (I (1000) 30 : Int32).toInt := (congrArg Int32.toInt ((hkI69.get (1000) 30 rfl))).trans pw66
        have pw74 : (I69 (1000) 32).toInt = (I (1000) 32 : Int32).toInt := (congrArg Int32.toInt ((hkI69.get (1000) 32 rfl))).trans pw68
        have g75 := hI0.get 1000 27 (lo := 0) (hi := 5) rfl
        have g76 := hI0.get 1000 29 (lo := 0) (hi := 300) rfl
        replace hC := hC.comp ((xI69.2.2.2.2.2).mono0 (0)) (by omega) (by omega) (by omega) (by omega) (fun hz => (xI69.2.2.2.2.1 hz).1)
        have nw77 := xI69.1
        rw [show TM (u2 (u2 I48 (1038) ((v43).toNatClampNeg) (r47)) (1039) ((v43).toNatClampNeg) (I (1000) 29)) = TM I from (TM_of (hkI69.getA 1034 rfl) (hkI69.get 1000 24 rfl)).symm.trans (TM_of (hK.getA 1034 rfl) (hK.get 1000 24 rfl))] at nw77
        have hIs78 := hI
        refine lv_aload_n hx hb dX10_clause_100 rfl (lv_at hl 2 rfl) ?_
        refine m_getr (1000) 40 (1040) hx hb hts hown hE oc10 hM hJ.1 rfl (by decide) rfl (hJ.2 40 (by decide)).2 (by decide) tb_1217 dX10_clause_101 ?_
        refine lv_iload_n hx hb dX10_clause_104 rfl (lv_at hl 0 rfl) ?_
        refine lv_aload_n hx hb dX10_clause_105 rfl (lv_at hl 2 rfl) ?_
        refine m_geti (1000) 29 hx hb hts hown hE oc10 hM hJ.1 rfl (by decide) rfl tb_1206 dX10_clause_106 ?_
        have g79 := hI.get (1000) 29 (lo := 0) (hi := 300) rfl
        refine m_iast (1040) hx hb hE hM hS (hJ.2 40 (by decide)).1 rfl (vp_in_iff.mpr (by omega)) dX10_clause_109 (fun H locs I80 eI80 hM hS => ?_)
        subst eI80
        have hI := hI.put (n := 1040) (k := ((v43).toNatClampNeg)) (v := I69 (1000) 29) (lo := 0) (hi := 300) rfl (by first | omega | decide)
        have hK := hK.put (n := 1040) (k := ((v43).toNatClampNeg)) (v := I69 (1000) 29) (by first | rfl | simp [inR])
        refine lv_aload_n hx hb dX10_clause_110 rfl (lv_at hl 2 rfl) ?_
        refine m_geti (1000) 26 hx hb hts hown hE oc10 hM hJ.1 rfl (by decide) rfl tb_1203 dX10_clause_111 ?_
        have z81 : (u2 I69 (1040) ((v43).toNatClampNeg) (I69 (1000) 29)) (1000) 26 = I69 (1000) 26 := (show (u2 I69 (1040) ((v43).toNatClampNeg) (I69 (1000) 29)) (1000) 26 = I69 (1000) 26 from by simp [u2_v])
        rw [z81]
        refine lv_if_ne (tgt := 131) hx hb dX10_clause_114 (by decide) (fun c82 => ?_) (fun c82 => ?_)
        · have hc82 := c82
          have q82 := q_ne hc82
          refine lv_aload_n hx hb dX10_clause_131 rfl (lv_at hl 2 rfl) ?_
          refine m_getr (1000) 41 (1041) hx hb hts hown hE oc10 hM hJ.1 rfl (by decide) rfl (hJ.2 41 (by decide)).2 (by decide) tb_1218 dX10_clause_132 ?_
          refine lv_iload_n hx hb dX10_clause_135 rfl (lv_at hl 0 rfl) ?_
          refine lv_aload_n hx hb dX10_clause_136 rfl (lv_at hl 2 rfl) ?_
          refine m_geti (1000) 29 hx hb hts hown hE oc10 hM hJ.1 rfl (by decide) rfl tb_1206 dX10_clause_137 ?_
          have z83 : (u2 I69 (1040) ((v43).toNatClampNeg) (I69 (1000) 29)) (1000) 29 = I69 (1000) 29 := (show (u2 I69 (1040) ((v43).toNatClampNeg) (I69 (1000) 29)) (1000) 29 = I69 (1000) 29 from by simp [u2_v])
          rw [z83]
          refine m_iast (1041) hx hb hE hM hS (hJ.2 41 (by decide)).1 rfl (vp_in_iff.mpr (by omega)) dX10_clause_140 (fun H locs I84 eI84 hM hS => ?_)
          subst eI84
          have hI := hI.put (n := 1041) (k := ((v43).toNatClampNeg)) (v := I69 (1000) 29) (lo := 0) (hi := 300) rfl (by first | omega | decide)
          have hK := hK.put (n := 1041) (k := ((v43).toNatClampNeg)) (v := I69 (1000) 29) (by first | rfl | simp [inR])
          have ha11 : a0.toInt ≤ 11 := by omega
          have hn85 : (r12).toInt = 1 := by omega
          clear q16 q19
          have pw86 : ((u2 (u2 I69 (1040) ((v43).toNatClampNeg) (I69 (1000) 29)) (1041) ((v43).toNatClampNeg) (I69 (1000) 29)) (1000) 24).toInt = (I (1000) 24 : Int32).toInt := (congrArg Int32.toInt ((show (u2 (u2 I69 (1040) ((v43).toNatClampNeg) (I69 (1000) 29)) (1041) ((v43).toNatClampNeg) (I69 (1000) 29)) (1000) 24 = I69 (1000) 24 from by simp [u2_v]))).trans pw71
          have pw87 : ((u2 (u2 I69 (1040) ((v43).toNatClampNeg) (I69 (1000) 29)) (1041) ((v43).toNatClampNeg) (I69 (1000) 29)) (1000) 25).toInt = (I69 (1000) 25 : Int32).toInt := congrArg Int32.toInt ((show (u2 (u2 I69 (1040) ((v43).toNatClampNeg) (I69 (1000) 29)) (1041) ((v43).toNatClampNeg) (I69 (1000) 29)) (1000) 25 = I69 (1000) 25 from by simp [u2_v]))
          have pw88 : ((u2 (u2 I69 (1040) ((v43).toNatClampNeg) (I69 (1000) 29)) (1041) ((v43).toNatClampNeg) (I69 (1000) 29)) (1000) 26).toInt = (I69 (1000) 26 : Int32).toInt := congrArg Int32.toInt ((show (u2 (u2 I69 (1040) ((v43).toNatClampNeg) (I69 (1000) 29)) (1041) ((v43).toNatClampNeg) (I69 (1000) 29)) (1000) 26 = I69 (1000) 26 from by simp [u2_v]))
          have pw89 : ((u2 (u2 I69 (1040) ((v43).toNatClampNeg) (I69 (1000) 29)) (1041) ((v43).toNatClampNeg) (I69 (1000) 29)) (1000) 27).toInt = (I (1000) 27 : Int32).toInt := (congrArg Int32.toInt ((show (u2 (u2 I69 (1040) ((v43).toNatClampNeg) (I69 (1000) 29)) (1041) ((v43).toNatClampNeg) (I69 (1000) 29)) (1000) 27 = I69 (1000) 27 from by simp [u2_v]))).trans pw72
          have pw90 : ((u2 (u2 I69 (1040) ((v43).toNatClampNeg) (I69 (1000) 29)) (1041) ((v43).toNatClampNeg) (I69 (1000) 29)) (1000) 29).toInt = (I69 (1000) 29 : Int32).toInt := congrArg Int32.toInt ((show (u2 (u2 I69 (1040) ((v43).toNatClampNeg) (I69 (1000) 29)) (1041) ((v43).toNatClampNeg) (I69 (1000) 29)) (1000) 29 = I69 (1000) 29 from by simp [u2_v]))
          have pw91 : ((u2 (u2 I69 (1040) ((v43).toNatClampNeg) (I69 (1000) 29)) (1041) ((v43).toNatClampNeg) (I69 (1000) 29)) (1000) 31).toInt = (I69 (1000) 31 : Int32).toInt := congrArg Int32.toInt ((show (u2 (u2 I69 (1040) ((v43).toNatClampNeg) (I69 (1000) 29)) (1041) ((v43).toNatClampNeg) (I69 (1000) 29)) (1000) 31 = I69 (1000) 31 from by simp [u2_v]))
          have pw92 : ((u2 (u2 I69 (1040) ((v43).toNatClampNeg) (I69 (1000) 29)) (1041) ((v43).toNatClampNeg) (I69 (1000) 29)) (1000) 32).toInt = (I (1000) 32 : Int32).toInt := (congrArg Int32.toInt ((show (u2 (u2 I69 (1040) ((v43).toNatClampNeg) (I69 (1000) 29)) (1041) ((v43).toNatClampNeg) (I69 (1000) 29)) (1000) 32 = I69 (1000) 32 from by simp [u2_v]))).trans pw74
          replace hC := CT.link (I2 := (u2 (u2 I69 (1040) ((v43).toNatClampNeg) (I69 (1000) 29)) (1041) ((v43).toNatClampNeg) (I69 (1000) 29))) hC ((show (u2 (u2 I69 (1040) ((v43).toNatClampNeg) (I69 (1000) 29)) (1041) ((v43).toNatClampNeg) (I69 (1000) 29)) 1035 = I69 1035 from by funext zz; simp [u2_v])) ((show (u2 (u2 I69 (1040) ((v43).toNatClampNeg) (I69 (1000) 29)) (1041) ((v43).toNatClampNeg) (I69 (1000) 29)) 1036 = I69 1036 from by funext zz; simp [u2_v])) (by omega) (fun hz => by have w0 := xI69.2.2.2.2.1 (by omega); have w1 := xr47.2.2.2 (by omega); (repeat' apply And.intro) <;> omega)
          have pw93 : ((u2 (u2 I69 (1040) ((v43).toNatClampNeg) (I69 (1000) 29)) (1041) ((v43).toNatClampNeg) (I69 (1000) 29)) (1000) 30).toInt = (I (1000) 30 : Int32).toInt := (congrArg Int32.toInt ((show (u2 (u2 I69 (1040) ((v43).toNatClampNeg) (I69 (1000) 29)) (1041) ((v43).toNatClampNeg) (I69 (1000) 29)) (1000) 30 = I69 (1000) 30 from by simp [u2_v]))).trans pw73
          have hcz : (v43).toNatClampNeg = 12 * (I 1000 27).toNatClampNeg + (a0).toNatClampNeg := by have z1 := tn (i := v43) (by omega); have z2 := tn (i := I 1000 27) (by omega); have z3 := tn (i := a0) (by omega); omega
          have hz1038 : (u2 (u2 I69 (1040) ((v43).toNatClampNeg) (I69 (1000) 29)) (1041) ((v43).toNatClampNeg) (I69 (1000) 29)) 1038 = (u2 I48 (1038) ((v43).toNatClampNeg) (r47)) 1038 := (((show (u2 (u2 I69 (1040) ((v43).toNatClampNeg) (I69 (1000) 29)) (1041) ((v43).toNatClampNeg) (I69 (1000) 29)) 1038 = I69 1038 from by funext zz; simp [u2_v])).trans (hkI69.getA 1038 rfl)).trans (show (u2 (u2 I48 (1038) ((v43).toNatClampNeg) (r47)) (1039) ((v43).toNatClampNeg) (I (1000) 29)) 1038 = (u2 I48 (1038) ((v43).toNatClampNeg) (r47)) 1038 from by funext zz; simp [u2_v])
          have hv1038 : ((u2 (u2 I69 (1040) ((v43).toNatClampNeg) (I69 (1000) 29)) (1041) ((v43).toNatClampNeg) (I69 (1000) 29)) 1038 (12 * (I 1000 27).toNatClampNeg + (a0).toNatClampNeg)).toInt = (r47 : Int32).toInt := by rw [hz1038, ← hcz, u2_self]
          have ho1038 : ∀ i, i ≠ 12 * (I 1000 27).toNatClampNeg + (a0).toNatClampNeg → (u2 (u2 I69 (1040) ((v43).toNatClampNeg) (I69 (1000) 29)) (1041) ((v43).toNatClampNeg) (I69 (1000) 29)) 1038 i = I 1038 i := fun i hi => by rw [hz1038, u2_v, if_neg (by rintro ⟨-, hj⟩; exact hi (hj.trans hcz))]; exact congrFun (((((hkI48.getA 1038 rfl)).trans (hkI30.getA 1038 rfl)).trans (show (u2 I1 (1000) 25 (v20)) 1038 = I1 1038 from by funext zz; simp [u2_v])).trans (hkI1.getA 1038 rfl)) i
          have hz1039 : (u2 (u2 I69 (1040) ((v43).toNatClampNeg) (I69 (1000) 29)) (1041) ((v43).toNatClampNeg) (I69 (1000) 29)) 1039 = (u2 (u2 I48 (1038) ((v43).toNatClampNeg) (r47)) (1039) ((v43).toNatClampNeg) (I (1000) 29)) 1039 := ((show (u2 (u2 I69 (1040) ((v43).toNatClampNeg) (I69 (1000) 29)) (1041) ((v43).toNatClampNeg) (I69 (1000) 29)) 1039 = I69 1039 from by funext zz; simp [u2_v])).trans (hkI69.getA 1039 rfl)
          have hv1039 : ((u2 (u2 I69 (1040) ((v43).toNatClampNeg) (I69 (1000) 29)) (1041) ((v43).toNatClampNeg) (I69 (1000) 29)) 1039 (12 * (I 1000 27).toNatClampNeg + (a0).toNatClampNeg)).toInt = (I (1000) 29 : Int32).toInt := by rw [hz1039, ← hcz, u2_self]
          have ho1039 : ∀ i, i ≠ 12 * (I 1000 27).toNatClampNeg + (a0).toNatClampNeg → (u2 (u2 I69 (1040) ((v43).toNatClampNeg) (I69 (1000) 29)) (1041) ((v43).toNatClampNeg) (I69 (1000) 29)) 1039 i = I 1039 i := fun i hi => by rw [hz1039, u2_v, if_neg (by rintro ⟨-, hj⟩; exact hi (hj.trans hcz))]; exact congrFun ((((((show (u2 I48 (1038) ((v43).toNatClampNeg) (r47)) 1039 = I48 1039 from by funext zz; simp [u2_v])).trans (hkI48.getA 1039 rfl)).trans (hkI30.getA 1039 rfl)).trans (show (u2 I1 (1000) 25 (v20)) 1039 = I1 1039 from by funext zz; simp [u2_v])).trans (hkI1.getA 1039 rfl)) i
          have hz1040 : (u2 (u2 I69 (1040) ((v43).toNatClampNeg) (I69 (1000) 29)) (1041) ((v43).toNatClampNeg) (I69 (1000) 29)) 1040 = (u2 I69 (1040) ((v43).toNatClampNeg) (I69 (1000) 29)) 1040 := (show (u2 (u2 I69 (1040) ((v43).toNatClampNeg) (I69 (1000) 29)) (1041) ((v43).toNatClampNeg) (I69 (1000) 29)) 1040 = (u2 I69 (1040) ((v43).toNatClampNeg) (I69 (1000) 29)) 1040 from by funext zz; simp [u2_v])
          have hv1040 : ((u2 (u2 I69 (1040) ((v43).toNatClampNeg) (I69 (1000) 29)) (1041) ((v43).toNatClampNeg) (I69 (1000) 29)) 1040 (12 * (I 1000 27).toNatClampNeg + (a0).toNatClampNeg)).toInt = (I69 (1000) 29 : Int32).toInt := by rw [hz1040, ← hcz, u2_self]
          have ho1040 : ∀ i, i ≠ 12 * (I 1000 27).toNatClampNeg + (a0).toNatClampNeg → (u2 (u2 I69 (1040) ((v43).toNatClampNeg) (I69 (1000) 29)) (1041) ((v43).toNatClampNeg) (I69 (1000) 29)) 1040 i = I 1040 i := fun i hi => by rw [hz1040, u2_v, if_neg (by rintro ⟨-, hj⟩; exact hi (hj.trans hcz))]; exact congrFun (((((((hkI69.getA 1040 rfl)).trans (show (u2 (u2 I48 (1038) ((v43).toNatClampNeg) (r47)) (1039) ((v43).toNatClampNeg) (I (1000) 29)) 1040 = I48 1040 from by funext zz; simp [u2_v])).trans (hkI48.getA 1040 rfl)).trans (hkI30.getA 1040 rfl)).trans (show (u2 I1 (1000) 25 (v20)) 1040 = I1 1040 from by funext zz; simp [u2_v])).trans (hkI1.getA 1040 rfl)) i
          have hz1041 : (u2 (u2 I69 (1040) ((v43).toNatClampNeg) (I69 (1000) 29)) (1041) ((v43).toNatClampNeg) (I69 (1000) 29)) 1041 = (u2 (u2 I69 (1040) ((v43).toNatClampNeg) (I69 (1000) 29)) (1041) ((v43).toNatClampNeg) (I69 (1000) 29)) 1041 := rfl
          have hv1041 : ((u2 (u2 I69 (1040) ((v43).toNatClampNeg) (I69 (1000) 29)) (1041) ((v43).toNatClampNeg) (I69 (1000) 29)) 1041 (12 * (I 1000 27).toNatClampNeg + (a0).toNatClampNeg)).toInt = (I69 (1000) 29 : Int32).toInt := by rw [hz1041, ← hcz, u2_self]
          have ho1041 : ∀ i, i ≠ 12 * (I 1000 27).toNatClampNeg + (a0).toNatClampNeg → (u2 (u2 I69 (1040) ((v43).toNatClampNeg) (I69 (1000) 29)) (1041) ((v43).toNatClampNeg) (I69 (1000) 29)) 1041 i = I 1041 i := fun i hi => by rw [hz1041, u2_v, if_neg (by rintro ⟨-, hj⟩; exact hi (hj.trans hcz))]; exact congrFun ((((((((show (u2 I69 (1040) ((v43).toNatClampNeg) (I69 (1000) 29)) 1041 = I69 1041 from by funext zz; simp [u2_v])).trans (hkI69.getA 1041 rfl)).trans (show (u2 (u2 I48 (1038) ((v43).toNatClampNeg) (r47)) (1039) ((v43).toNatClampNeg) (I (1000) 29)) 1041 = I48 1041 from by funext zz; simp [u2_v])).trans (hkI48.getA 1041 rfl)).trans (hkI30.getA 1041 rfl)).trans (show (u2 I1 (1000) 25 (v20)) 1041 = I1 1041 from by funext zz; simp [u2_v])).trans (hkI1.getA 1041 rfl)) i
          have z1 := tn (i := I1 1000 25) (by omega)
          have z3 := tn (i := a0) (by omega)
          have z4 := tn (i := (u2 I1 (1000) 25 (v20)) 1000 25) (by omega)
          have hcp : CLP (TM I) I (u2 (u2 I69 (1040) ((v43).toNatClampNeg) (I69 (1000) 29)) (1041) ((v43).toNatClampNeg) (I69 (1000) 29)) (a0).toNatClampNeg := CLP.of (fun hf => by
            have hpr := clp_pre hT (I := I) (I2 := I30) (I3 := I48) (q := (I1 1000 25).toNatClampNeg) (n := (a0).toNatClampNeg) nw10 sc18 (by omega) (by rw [nw39, show ((u2 I1 (1000) 25 (v20)) 1000 25).toNatClampNeg = (I1 1000 25).toNatClampNeg + 4 from by omega]) (by omega) (by omega) (RC_of (J := I) (J2 := I30) ((((hkI30.getA 1035 rfl)).trans (show (u2 I1 (1000) 25 (v20)) 1035 = I1 1035 from by funext zz; simp [u2_v])).trans (hkI1.getA 1035 rfl)) ((((hkI30.getA 1036 rfl)).trans (show (u2 I1 (1000) 25 (v20)) 1036 = I1 1036 from by funext zz; simp [u2_v])).trans (hkI1.getA 1036 rfl)) (by omega) (by omega)) nw56.1 (by omega) (RC_of (J := I30) (J2 := I48) ((hkI48.getA 1035 rfl)) ((hkI48.getA 1036 rfl)) (by omega) (by omega)) hf
            by_cases hy : (I48 1000 26).toInt = 0
            · have gR5 := RC_len (J := I69) (hIs78.get 1000 29 (lo := 0) (hi := 300) rfl).1; have gR6 := hIs78.get 1000 29 (lo := 0) (hi := 300) rfl
              have gR7 := RC_len (J := (u2 (u2 I69 (1040) ((v43).toNatClampNeg) (I69 (1000) 29)) (1041) ((v43).toNatClampNeg) (I69 (1000) 29))) (hI.get 1000 29 (lo := 0) (hi := 300) rfl).1
              exact clp_sum (J1 := (u2 (u2 I48 (1038) ((v43).toNatClampNeg) (r47)) (1039) ((v43).toNatClampNeg) (I (1000) 29))) (J2 := I69) hT (fun F c a1 a2 a3 a4 => (hpr.1 hy F c a1 a2 a3 a4).of (by rw [show ((u2 (u2 I48 (1038) ((v43).toNatClampNeg) (r47)) (1039) ((v43).toNatClampNeg) (I (1000) 29)) 1000 25).toNatClampNeg = (I48 1000 25).toNatClampNeg from cl_eq (by omega)]) (by omega) (RC_of (J := I48) (J2 := (u2 (u2 I48 (1038) ((v43).toNatClampNeg) (r47)) (1039) ((v43).toNatClampNeg) (I (1000) 29))) ((show (u2 (u2 I48 (1038) ((v43).toNatClampNeg) (r47)) (1039) ((v43).toNatClampNeg) (I (1000) 29)) 1035 = I48 1035 from by funext zz; simp [u2_v])) ((show (u2 (u2 I48 (1038) ((v43).toNatClampNeg) (r47)) (1039) ((v43).toNatClampNeg) (I (1000) 29)) 1036 = I48 1036 from by funext zz; simp [u2_v])) (by omega) (by omega))) (by omega) (by omega) nw77.1.1 (fun hz => (nw77.2.na hz).2) (fun hz => by exfalso; omega) (by omega) (fun hz => by exfalso; omega) (Int32.toInt_inj.mp (by omega)) (fun _ => by omega) (fun hz => ⟨by omega, fun i hi => ⟨ho1038 i hi, ho1039 i hi, ho1040 i hi, ho1041 i hi⟩, hv1038, hv1039.trans (by omega), hv1040.trans (by omega), hv1041.trans (by omega)⟩)
            · have w1 := nw77.1.2 (by omega)
              exact hpr.2 hy _ (by omega))
          have hr27 := tn (i := I 1000 27) (by omega)
          have hCL : Imp (((u2 (u2 I69 (1040) ((v43).toNatClampNeg) (I69 (1000) 29)) (1041) ((v43).toNatClampNeg) (I69 (1000) 29)) 1000 26).toInt = 0) (CLr (u2 (u2 I69 (1040) ((v43).toNatClampNeg) (I69 (1000) 29)) (1041) ((v43).toNatClampNeg) (I69 (1000) 29)) (I 1000 27).toNatClampNeg (12 * (I 1000 27).toNatClampNeg + (a0).toNatClampNeg) ((u2 (u2 I69 (1040) ((v43).toNatClampNeg) (I69 (1000) 29)) (1041) ((v43).toNatClampNeg) (I69 (1000) 29)) 1000 29).toInt) := fun hz => by
            have w0 := xI69.2.2.2.2.1 (by omega); have w1 := xr47.2.2.2 (by omega); skip
            have hq := CLr.mk (A := (u2 (u2 I48 (1038) ((v43).toNatClampNeg) (r47)) (1039) ((v43).toNatClampNeg) (I (1000) 29))) (B := I69) (C := I69) (D := I69) (Z := (u2 (u2 I69 (1040) ((v43).toNatClampNeg) (I69 (1000) 29)) (1041) ((v43).toNatClampNeg) (I69 (1000) 29))) (r := (I 1000 27).toNatClampNeg) (c := 12 * (I 1000 27).toNatClampNeg + (a0).toNatClampNeg) (xI69.2.2.2.2.2) (CT.rf I69 0) ⟨rfl, rfl, rfl, by omega⟩ (by omega) ⟨(show (u2 (u2 I69 (1040) ((v43).toNatClampNeg) (I69 (1000) 29)) (1041) ((v43).toNatClampNeg) (I69 (1000) 29)) 1035 = I69 1035 from by funext zz; simp [u2_v]), (show (u2 (u2 I69 (1040) ((v43).toNatClampNeg) (I69 (1000) 29)) (1041) ((v43).toNatClampNeg) (I69 (1000) 29)) 1036 = I69 1036 from by funext zz; simp [u2_v])⟩ (by omega) (by omega) (by omega) (by omega) (by omega)
            rw [show ((u2 (u2 I69 (1040) ((v43).toNatClampNeg) (I69 (1000) 29)) (1041) ((v43).toNatClampNeg) (I69 (1000) 29)) 1000 29).toInt = (I69 1000 29).toInt from by omega]
            exact hq
          exact m_vret hx hb hr hlocks hM hS (Nat.le_of_ble_eq_true rfl) (Nat.le_of_ble_eq_true rfl) ⟨_, _, rfl, hI, hK, ⟨⟨hcp, ho1038⟩, by omega, by omega, by omega, (fun hz => by have w0 := xI69.2.2.2.2.1 (by omega); have w1 := xr47.2.2.2 (by omega); (repeat' apply And.intro) <;> omega), hCL, clx0 hC ho1039 ho1040 ho1041⟩⟩ dX10_clause_141
        · have hc82 := c82
          have q82 := q_eq hc82
          have w94 := xI69.2.2.2.2.1 (by omega)
          have w95 := xr47.2.2.2 (by omega)
          refine lv_aload_n hx hb dX10_clause_117 rfl (lv_at hl 2 rfl) ?_
          refine m_ldcwS hx hb hown (EV.str hE 24 rfl).1 dX10_clause_118 ?_
          have pw96 : ((u2 I69 (1040) ((v43).toNatClampNeg) (I69 (1000) 29)) (1000) 24).toInt = (I (1000) 24 : Int32).toInt := (congrArg Int32.toInt ((show (u2 I69 (1040) ((v43).toNatClampNeg) (I69 (1000) 29)) (1000) 24 = I69 (1000) 24 from by simp [u2_v]))).trans pw71
          have pw97 : ((u2 I69 (1040) ((v43).toNatClampNeg) (I69 (1000) 29)) (1000) 25).toInt = (I69 (1000) 25 : Int32).toInt := congrArg Int32.toInt ((show (u2 I69 (1040) ((v43).toNatClampNeg) (I69 (1000) 29)) (1000) 25 = I69 (1000) 25 from by simp [u2_v]))
          have pw98 : ((u2 I69 (1040) ((v43).toNatClampNeg) (I69 (1000) 29)) (1000) 26).toInt = (I69 (1000) 26 : Int32).toInt := congrArg Int32.toInt ((show (u2 I69 (1040) ((v43).toNatClampNeg) (I69 (1000) 29)) (1000) 26 = I69 (1000) 26 from by simp [u2_v]))
          have pw99 : ((u2 I69 (1040) ((v43).toNatClampNeg) (I69 (1000) 29)) (1000) 27).toInt = (I (1000) 27 : Int32).toInt := (congrArg Int32.toInt ((show (u2 I69 (1040) ((v43).toNatClampNeg) (I69 (1000) 29)) (1000) 27 = I69 (1000) 27 from by simp [u2_v]))).trans pw72
          have pw100 : ((u2 I69 (1040) ((v43).toNatClampNeg) (I69 (1000) 29)) (1000) 29).toInt = (I69 (1000) 29 : Int32).toInt := congrArg Int32.toInt ((show (u2 I69 (1040) ((v43).toNatClampNeg) (I69 (1000) 29)) (1000) 29 = I69 (1000) 29 from by simp [u2_v]))
          have pw101 : ((u2 I69 (1040) ((v43).toNatClampNeg) (I69 (1000) 29)) (1000) 30).toInt = (I (1000) 30 : Int32).toInt := (congrArg Int32.toInt ((show (u2 I69 (1040) ((v43).toNatClampNeg) (I69 (1000) 29)) (1000) 30 = I69 (1000) 30 from by simp [u2_v]))).trans pw73
          have pw102 : ((u2 I69 (1040) ((v43).toNatClampNeg) (I69 (1000) 29)) (1000) 31).toInt = (I69 (1000) 31 : Int32).toInt := congrArg Int32.toInt ((show (u2 I69 (1040) ((v43).toNatClampNeg) (I69 (1000) 29)) (1000) 31 = I69 (1000) 31 from by simp [u2_v]))
          have pw103 : ((u2 I69 (1040) ((v43).toNatClampNeg) (I69 (1000) 29)) (1000) 32).toInt = (I (1000) 32 : Int32).toInt := (congrArg Int32.toInt ((show (u2 I69 (1040) ((v43).toNatClampNeg) (I69 (1000) 29)) (1000) 32 = I69 (1000) 32 from by simp [u2_v]))).trans pw74
          refine m_calli (m_runV (1000) (As := [.ref (D.2 100 24)]) (rest := []) hx hb hml hown hts hE hM hS hA ce_X10_takes tb_1573 (V_X10_takes_h l D A ad ns (u2 I69 (1040) ((v43).toNatClampNeg) (I69 (1000) 29)) L70 G 24 _ hJ hI rfl (by decide) (by decide) (hbt.of (hK.getA 1034 rfl) (hK.get 1000 24 rfl)) (by omega)) rfl rfl ⟨Nat.le_of_ble_eq_true rfl, Nat.le_of_ble_eq_true rfl⟩ hJ.1 rfl rfl (by decide) rfl hl.1 rfl (Nat.le_of_ble_eq_true rfl) dX10_clause_121 ⟨Nat.le_of_ble_eq_true rfl, Nat.le_of_ble_eq_true rfl⟩) hS (fun r104 u H locs hw hM hS => ?_)
          obtain ⟨I105, L106, rfl, hI, hkI105, xr104⟩ := hw
          have hM : Mem D A ad ns I105 L106 G H := hM
          have hK := hK.trans hkI105 rfl
          have pw107 : (I105 (1000) 24).toInt = (I (1000) 24 : Int32).toInt := (congrArg Int32.toInt ((hkI105.get (1000) 24 rfl))).trans pw96
          have pw108 : (I105 (1000) 26).toInt = (I69 (1000) 26 : Int32).toInt := (congrArg Int32.toInt ((hkI105.get (1000) 26 rfl))).trans pw98
          have pw109 : (I105 (1000) 27).toInt = (I (1000) 27 : Int32).toInt := (congrArg Int32.toInt ((hkI105.get (1000) 27 rfl))).trans pw99
          have pw110 : (I105 (1000) 29).toInt = (I69 (1000) 29 : Int32).toInt := (congrArg Int32.toInt ((hkI105.get (1000) 29 rfl))).trans pw100
          have pw111 : (I105 (1000) 30).toInt = (I (1000) 30 : Int32).toInt := (congrArg Int32.toInt ((hkI105.get (1000) 30 rfl))).trans pw101
          have pw112 : (I105 (1000) 31).toInt = (I69 (1000) 31 : Int32).toInt := (congrArg Int32.toInt ((hkI105.get (1000) 31 rfl))).trans pw102
          have pw113 : (I105 (1000) 32).toInt = (I (1000) 32 : Int32).toInt := (congrArg Int32.toInt ((hkI105.get (1000) 32 rfl))).trans pw103
          have nw114 : TKX (TM (u2 I69 (1040) ((v43).toNatClampNeg) (I69 (1000) 29))) (u2 I69 (1040) ((v43).toNatClampNeg) (I69 (1000) 29)) I105 (([105, 102] : List Int32).map b8) r104 := xr104.1
          rw [mb_if] at nw114
          rw [show TM (u2 I69 (1040) ((v43).toNatClampNeg) (I69 (1000) 29)) = TM I from (TM_of (hkI105.getA 1034 rfl) (hkI105.get 1000 24 rfl)).symm.trans (TM_of (hK.getA 1034 rfl) (hK.get 1000 24 rfl))] at nw114
          refine lv_if_eq (tgt := 131) hx hb dX10_clause_124 (by decide) (fun c115 => ?_) (fun c115 => ?_)
          · have hc115 := c115
            have q115 := q_eq hc115
            refine lv_aload_n hx hb dX10_clause_131 rfl (lv_at hl 2 rfl) ?_
            refine m_getr (1000) 41 (1041) hx hb hts hown hE oc10 hM hJ.1 rfl (by decide) rfl (hJ.2 41 (by decide)).2 (by decide) tb_1218 dX10_clause_132 ?_
            refine lv_iload_n hx hb dX10_clause_135 rfl (lv_at hl 0 rfl) ?_
            refine lv_aload_n hx hb dX10_clause_136 rfl (lv_at hl 2 rfl) ?_
            refine m_geti (1000) 29 hx hb hts hown hE oc10 hM hJ.1 rfl (by decide) rfl tb_1206 dX10_clause_137 ?_
            have g116 := hI.get (1000) 29 (lo := 0) (hi := 300) rfl
            have z117 : I105 (1000) 29 = I69 (1000) 29 := ((hkI105.get (1000) 29 rfl)).trans (show (u2 I69 (1040) ((v43).toNatClampNeg) (I69 (1000) 29)) (1000) 29 = I69 (1000) 29 from by simp [u2_v])
            rw [z117] at g116 ⊢
            refine m_iast (1041) hx hb hE hM hS (hJ.2 41 (by decide)).1 rfl (vp_in_iff.mpr (by omega)) dX10_clause_140 (fun H locs I118 eI118 hM hS => ?_)
            subst eI118
            have hI := hI.put (n := 1041) (k := ((v43).toNatClampNeg)) (v := I69 (1000) 29) (lo := 0) (hi := 300) rfl (by first | omega | decide)
            have hK := hK.put (n := 1041) (k := ((v43).toNatClampNeg)) (v := I69 (1000) 29) (by first | rfl | simp [inR])
            have ha11 : a0.toInt ≤ 11 := by omega
            have hn119 : (r12).toInt = 1 := by omega
            clear q16 q19
            have pw120 : ((u2 I105 (1041) ((v43).toNatClampNeg) (I69 (1000) 29)) (1000) 24).toInt = (I (1000) 24 : Int32).toInt := (congrArg Int32.toInt ((show (u2 I105 (1041) ((v43).toNatClampNeg) (I69 (1000) 29)) (1000) 24 = I105 (1000) 24 from by simp [u2_v]))).trans pw107
            have pw121 : ((u2 I105 (1041) ((v43).toNatClampNeg) (I69 (1000) 29)) (1000) 25).toInt = (I105 (1000) 25 : Int32).toInt := congrArg Int32.toInt ((show (u2 I105 (1041) ((v43).toNatClampNeg) (I69 (1000) 29)) (1000) 25 = I105 (1000) 25 from by simp [u2_v]))
            have pw122 : ((u2 I105 (1041) ((v43).toNatClampNeg) (I69 (1000) 29)) (1000) 26).toInt = (I69 (1000) 26 : Int32).toInt := (congrArg Int32.toInt ((show (u2 I105 (1041) ((v43).toNatClampNeg) (I69 (1000) 29)) (1000) 26 = I105 (1000) 26 from by simp [u2_v]))).trans pw108
            have pw123 : ((u2 I105 (1041) ((v43).toNatClampNeg) (I69 (1000) 29)) (1000) 27).toInt = (I (1000) 27 : Int32).toInt := (congrArg Int32.toInt ((show (u2 I105 (1041) ((v43).toNatClampNeg) (I69 (1000) 29)) (1000) 27 = I105 (1000) 27 from by simp [u2_v]))).trans pw109
            have pw124 : ((u2 I105 (1041) ((v43).toNatClampNeg) (I69 (1000) 29)) (1000) 29).toInt = (I69 (1000) 29 : Int32).toInt := (congrArg Int32.toInt ((show (u2 I105 (1041) ((v43).toNatClampNeg) (I69 (1000) 29)) (1000) 29 = I105 (1000) 29 from by simp [u2_v]))).trans pw110
            have pw125 : ((u2 I105 (1041) ((v43).toNatClampNeg) (I69 (1000) 29)) (1000) 31).toInt = (I69 (1000) 31 : Int32).toInt := (congrArg Int32.toInt ((show (u2 I105 (1041) ((v43).toNatClampNeg) (I69 (1000) 29)) (1000) 31 = I105 (1000) 31 from by simp [u2_v]))).trans pw112
            have pw126 : ((u2 I105 (1041) ((v43).toNatClampNeg) (I69 (1000) 29)) (1000) 32).toInt = (I (1000) 32 : Int32).toInt := (congrArg Int32.toInt ((show (u2 I105 (1041) ((v43).toNatClampNeg) (I69 (1000) 29)) (1000) 32 = I105 (1000) 32 from by simp [u2_v]))).trans pw113
            replace hC := CT.link (I2 := (u2 I105 (1041) ((v43).toNatClampNeg) (I69 (1000) 29))) hC ((((show (u2 I105 (1041) ((v43).toNatClampNeg) (I69 (1000) 29)) 1035 = I105 1035 from by funext zz; simp [u2_v])).trans (hkI105.getA 1035 rfl)).trans (show (u2 I69 (1040) ((v43).toNatClampNeg) (I69 (1000) 29)) 1035 = I69 1035 from by funext zz; simp [u2_v])) ((((show (u2 I105 (1041) ((v43).toNatClampNeg) (I69 (1000) 29)) 1036 = I105 1036 from by funext zz; simp [u2_v])).trans (hkI105.getA 1036 rfl)).trans (show (u2 I69 (1040) ((v43).toNatClampNeg) (I69 (1000) 29)) 1036 = I69 1036 from by funext zz; simp [u2_v])) (by omega) (fun hz => by (repeat' apply And.intro) <;> omega)
            have pw127 : ((u2 I105 (1041) ((v43).toNatClampNeg) (I69 (1000) 29)) (1000) 30).toInt = (I (1000) 30 : Int32).toInt := (congrArg Int32.toInt ((show (u2 I105 (1041) ((v43).toNatClampNeg) (I69 (1000) 29)) (1000) 30 = I105 (1000) 30 from by simp [u2_v]))).trans pw111
            have hcz : (v43).toNatClampNeg = 12 * (I 1000 27).toNatClampNeg + (a0).toNatClampNeg := by have z1 := tn (i := v43) (by omega); have z2 := tn (i := I 1000 27) (by omega); have z3 := tn (i := a0) (by omega); omega
            have hz1038 : (u2 I105 (1041) ((v43).toNatClampNeg) (I69 (1000) 29)) 1038 = (u2 I48 (1038) ((v43).toNatClampNeg) (r47)) 1038 := (((((show (u2 I105 (1041) ((v43).toNatClampNeg) (I69 (1000) 29)) 1038 = I105 1038 from by funext zz; simp [u2_v])).trans (hkI105.getA 1038 rfl)).trans (show (u2 I69 (1040) ((v43).toNatClampNeg) (I69 (1000) 29)) 1038 = I69 1038 from by funext zz; simp [u2_v])).trans (hkI69.getA 1038 rfl)).trans (show (u2 (u2 I48 (1038) ((v43).toNatClampNeg) (r47)) (1039) ((v43).toNatClampNeg) (I (1000) 29)) 1038 = (u2 I48 (1038) ((v43).toNatClampNeg) (r47)) 1038 from by funext zz; simp [u2_v])
            have hv1038 : ((u2 I105 (1041) ((v43).toNatClampNeg) (I69 (1000) 29)) 1038 (12 * (I 1000 27).toNatClampNeg + (a0).toNatClampNeg)).toInt = (r47 : Int32).toInt := by rw [hz1038, ← hcz, u2_self]
            have ho1038 : ∀ i, i ≠ 12 * (I 1000 27).toNatClampNeg + (a0).toNatClampNeg → (u2 I105 (1041) ((v43).toNatClampNeg) (I69 (1000) 29)) 1038 i = I 1038 i := fun i hi => by rw [hz1038, u2_v, if_neg (by rintro ⟨-, hj⟩; exact hi (hj.trans hcz))]; exact congrFun (((((hkI48.getA 1038 rfl)).trans (hkI30.getA 1038 rfl)).trans (show (u2 I1 (1000) 25 (v20)) 1038 = I1 1038 from by funext zz; simp [u2_v])).trans (hkI1.getA 1038 rfl)) i
            have hz1039 : (u2 I105 (1041) ((v43).toNatClampNeg) (I69 (1000) 29)) 1039 = (u2 (u2 I48 (1038) ((v43).toNatClampNeg) (r47)) (1039) ((v43).toNatClampNeg) (I (1000) 29)) 1039 := ((((show (u2 I105 (1041) ((v43).toNatClampNeg) (I69 (1000) 29)) 1039 = I105 1039 from by funext zz; simp [u2_v])).trans (hkI105.getA 1039 rfl)).trans (show (u2 I69 (1040) ((v43).toNatClampNeg) (I69 (1000) 29)) 1039 = I69 1039 from by funext zz; simp [u2_v])).trans (hkI69.getA 1039 rfl)
            have hv1039 : ((u2 I105 (1041) ((v43).toNatClampNeg) (I69 (1000) 29)) 1039 (12 * (I 1000 27).toNatClampNeg + (a0).toNatClampNeg)).toInt = (I (1000) 29 : Int32).toInt := by rw [hz1039, ← hcz, u2_self]
            have ho1039 : ∀ i, i ≠ 12 * (I 1000 27).toNatClampNeg + (a0).toNatClampNeg → (u2 I105 (1041) ((v43).toNatClampNeg) (I69 (1000) 29)) 1039 i = I 1039 i := fun i hi => by rw [hz1039, u2_v, if_neg (by rintro ⟨-, hj⟩; exact hi (hj.trans hcz))]; exact congrFun ((((((show (u2 I48 (1038) ((v43).toNatClampNeg) (r47)) 1039 = I48 1039 from by funext zz; simp [u2_v])).trans (hkI48.getA 1039 rfl)).trans (hkI30.getA 1039 rfl)).trans (show (u2 I1 (1000) 25 (v20)) 1039 = I1 1039 from by funext zz; simp [u2_v])).trans (hkI1.getA 1039 rfl)) i
            have hz1040 : (u2 I105 (1041) ((v43).toNatClampNeg) (I69 (1000) 29)) 1040 = (u2 I69 (1040) ((v43).toNatClampNeg) (I69 (1000) 29)) 1040 := ((show (u2 I105 (1041) ((v43).toNatClampNeg) (I69 (1000) 29)) 1040 = I105 1040 from by funext zz; simp [u2_v])).trans (hkI105.getA 1040 rfl)
            have hv1040 : ((u2 I105 (1041) ((v43).toNatClampNeg) (I69 (1000) 29)) 1040 (12 * (I 1000 27).toNatClampNeg + (a0).toNatClampNeg)).toInt = (I69 (1000) 29 : Int32).toInt := by rw [hz1040, ← hcz, u2_self]
            have ho1040 : ∀ i, i ≠ 12 * (I 1000 27).toNatClampNeg + (a0).toNatClampNeg → (u2 I105 (1041) ((v43).toNatClampNeg) (I69 (1000) 29)) 1040 i = I 1040 i := fun i hi => by rw [hz1040, u2_v, if_neg (by rintro ⟨-, hj⟩; exact hi (hj.trans hcz))]; exact congrFun (((((((hkI69.getA 1040 rfl)).trans (show (u2 (u2 I48 (1038) ((v43).toNatClampNeg) (r47)) (1039) ((v43).toNatClampNeg) (I (1000) 29)) 1040 = I48 1040 from by funext zz; simp [u2_v])).trans (hkI48.getA 1040 rfl)).trans (hkI30.getA 1040 rfl)).trans (show (u2 I1 (1000) 25 (v20)) 1040 = I1 1040 from by funext zz; simp [u2_v])).trans (hkI1.getA 1040 rfl)) i
            have hz1041 : (u2 I105 (1041) ((v43).toNatClampNeg) (I69 (1000) 29)) 1041 = (u2 I105 (1041) ((v43).toNatClampNeg) (I69 (1000) 29)) 1041 := rfl
            have hv1041 : ((u2 I105 (1041) ((v43).toNatClampNeg) (I69 (1000) 29)) 1041 (12 * (I 1000 27).toNatClampNeg + (a0).toNatClampNeg)).toInt = (I69 (1000) 29 : Int32).toInt := by rw [hz1041, ← hcz, u2_self]
            have ho1041 : ∀ i, i ≠ 12 * (I 1000 27).toNatClampNeg + (a0).toNatClampNeg → (u2 I105 (1041) ((v43).toNatClampNeg) (I69 (1000) 29)) 1041 i = I 1041 i := fun i hi => by rw [hz1041, u2_v, if_neg (by rintro ⟨-, hj⟩; exact hi (hj.trans hcz))]; exact congrFun (((((((((hkI105.getA 1041 rfl)).trans (show (u2 I69 (1040) ((v43).toNatClampNeg) (I69 (1000) 29)) 1041 = I69 1041 from by funext zz; simp [u2_v])).trans (hkI69.getA 1041 rfl)).trans (show (u2 (u2 I48 (1038) ((v43).toNatClampNeg) (r47)) (1039) ((v43).toNatClampNeg) (I (1000) 29)) 1041 = I48 1041 from by funext zz; simp [u2_v])).trans (hkI48.getA 1041 rfl)).trans (hkI30.getA 1041 rfl)).trans (show (u2 I1 (1000) 25 (v20)) 1041 = I1 1041 from by funext zz; simp [u2_v])).trans (hkI1.getA 1041 rfl)) i
            have z1 := tn (i := I1 1000 25) (by omega)
            have z3 := tn (i := a0) (by omega)
            have z4 := tn (i := (u2 I1 (1000) 25 (v20)) 1000 25) (by omega)
            have hcp : CLP (TM I) I (u2 I105 (1041) ((v43).toNatClampNeg) (I69 (1000) 29)) (a0).toNatClampNeg := CLP.of (fun hf => by
              have hpr := clp_pre hT (I := I) (I2 := I30) (I3 := I48) (q := (I1 1000 25).toNatClampNeg) (n := (a0).toNatClampNeg) nw10 sc18 (by omega) (by rw [nw39, show ((u2 I1 (1000) 25 (v20)) 1000 25).toNatClampNeg = (I1 1000 25).toNatClampNeg + 4 from by omega]) (by omega) (by omega) (RC_of (J := I) (J2 := I30) ((((hkI30.getA 1035 rfl)).trans (show (u2 I1 (1000) 25 (v20)) 1035 = I1 1035 from by funext zz; simp [u2_v])).trans (hkI1.getA 1035 rfl)) ((((hkI30.getA 1036 rfl)).trans (show (u2 I1 (1000) 25 (v20)) 1036 = I1 1036 from by funext zz; simp [u2_v])).trans (hkI1.getA 1036 rfl)) (by omega) (by omega)) nw56.1 (by omega) (RC_of (J := I30) (J2 := I48) ((hkI48.getA 1035 rfl)) ((hkI48.getA 1036 rfl)) (by omega) (by omega)) hf
              by_cases hy : (I48 1000 26).toInt = 0
              · have gR5 := RC_len (J := I69) (hIs78.get 1000 29 (lo := 0) (hi := 300) rfl).1; have gR6 := hIs78.get 1000 29 (lo := 0) (hi := 300) rfl
                have gR7 := RC_len (J := (u2 I105 (1041) ((v43).toNatClampNeg) (I69 (1000) 29))) (hI.get 1000 29 (lo := 0) (hi := 300) rfl).1
                have hk3 : wq (TM I) (skp (TM I) (I69 1000 25).toNatClampNeg) [105, 102] = false ∧ (I105 1000 25).toNatClampNeg = skp (TM I) (I69 1000 25).toNatClampNeg := by rcases nw114 with ⟨b1, b2, b3⟩ | ⟨b1, b2, b3⟩; omega; rw [show ((u2 I69 (1040) ((v43).toNatClampNeg) (I69 (1000) 29)) 1000 25).toNatClampNeg = (I69 1000 25).toNatClampNeg from cl_eq (by omega)] at b2 b3; exact ⟨b2, b3⟩
                exact clp_sum (J1 := (u2 (u2 I48 (1038) ((v43).toNatClampNeg) (r47)) (1039) ((v43).toNatClampNeg) (I (1000) 29))) (J2 := I69) hT (fun F c a1 a2 a3 a4 => (hpr.1 hy F c a1 a2 a3 a4).of (by rw [show ((u2 (u2 I48 (1038) ((v43).toNatClampNeg) (r47)) (1039) ((v43).toNatClampNeg) (I (1000) 29)) 1000 25).toNatClampNeg = (I48 1000 25).toNatClampNeg from cl_eq (by omega)]) (by omega) (RC_of (J := I48) (J2 := (u2 (u2 I48 (1038) ((v43).toNatClampNeg) (r47)) (1039) ((v43).toNatClampNeg) (I (1000) 29))) ((show (u2 (u2 I48 (1038) ((v43).toNatClampNeg) (r47)) (1039) ((v43).toNatClampNeg) (I (1000) 29)) 1035 = I48 1035 from by funext zz; simp [u2_v])) ((show (u2 (u2 I48 (1038) ((v43).toNatClampNeg) (r47)) (1039) ((v43).toNatClampNeg) (I (1000) 29)) 1036 = I48 1036 from by funext zz; simp [u2_v])) (by omega) (by omega))) (by omega) (by omega) nw77.1.1 (fun hz => (nw77.2.na hz).2) (fun _ => hk3.1) (by omega) (fun hz => ⟨by rw [show ((u2 I105 (1041) ((v43).toNatClampNeg) (I69 (1000) 29)) 1000 25).toNatClampNeg = (I105 1000 25).toNatClampNeg from cl_eq (by omega), hk3.2, skp_i hT], by omega, (RC_of (J := I69) (J2 := (u2 I105 (1041) ((v43).toNatClampNeg) (I69 (1000) 29))) ((((show (u2 I105 (1041) ((v43).toNatClampNeg) (I69 (1000) 29)) 1035 = I105 1035 from by funext zz; simp [u2_v])).trans (hkI105.getA 1035 rfl)).trans (show (u2 I69 (1040) ((v43).toNatClampNeg) (I69 (1000) 29)) 1035 = I69 1035 from by funext zz; simp [u2_v])) ((((show (u2 I105 (1041) ((v43).toNatClampNeg) (I69 (1000) 29)) 1036 = I105 1036 from by funext zz; simp [u2_v])).trans (hkI105.getA 1036 rfl)).trans (show (u2 I69 (1040) ((v43).toNatClampNeg) (I69 (1000) 29)) 1036 = I69 1036 from by funext zz; simp [u2_v])) (by omega) (by omega))⟩) (Int32.toInt_inj.mp (by omega)) (fun _ => by omega) (fun hz => ⟨by omega, fun i hi => ⟨ho1038 i hi, ho1039 i hi, ho1040 i hi, ho1041 i hi⟩, hv1038, hv1039.trans (by omega), hv1040.trans (by omega), hv1041.trans (by omega)⟩)
              · have w1 := nw77.1.2 (by omega)
                exfalso; omega)
            have hr27 := tn (i := I 1000 27) (by omega)
            have hCL : Imp (((u2 I105 (1041) ((v43).toNatClampNeg) (I69 (1000) 29)) 1000 26).toInt = 0) (CLr (u2 I105 (1041) ((v43).toNatClampNeg) (I69 (1000) 29)) (I 1000 27).toNatClampNeg (12 * (I 1000 27).toNatClampNeg + (a0).toNatClampNeg) ((u2 I105 (1041) ((v43).toNatClampNeg) (I69 (1000) 29)) 1000 29).toInt) := fun hz => by
              skip
              have hq := CLr.mk (A := (u2 (u2 I48 (1038) ((v43).toNatClampNeg) (r47)) (1039) ((v43).toNatClampNeg) (I (1000) 29))) (B := I69) (C := I69) (D := I69) (Z := (u2 I105 (1041) ((v43).toNatClampNeg) (I69 (1000) 29))) (r := (I 1000 27).toNatClampNeg) (c := 12 * (I 1000 27).toNatClampNeg + (a0).toNatClampNeg) (xI69.2.2.2.2.2) (CT.rf I69 0) ⟨rfl, rfl, rfl, by omega⟩ (by omega) ⟨(((show (u2 I105 (1041) ((v43).toNatClampNeg) (I69 (1000) 29)) 1035 = I105 1035 from by funext zz; simp [u2_v])).trans (hkI105.getA 1035 rfl)).trans (show (u2 I69 (1040) ((v43).toNatClampNeg) (I69 (1000) 29)) 1035 = I69 1035 from by funext zz; simp [u2_v]), (((show (u2 I105 (1041) ((v43).toNatClampNeg) (I69 (1000) 29)) 1036 = I105 1036 from by funext zz; simp [u2_v])).trans (hkI105.getA 1036 rfl)).trans (show (u2 I69 (1040) ((v43).toNatClampNeg) (I69 (1000) 29)) 1036 = I69 1036 from by funext zz; simp [u2_v])⟩ (by omega) (by omega) (by omega) (by omega) (by omega)
              rw [show ((u2 I105 (1041) ((v43).toNatClampNeg) (I69 (1000) 29)) 1000 29).toInt = (I69 1000 29).toInt from by omega]
              exact hq
            exact m_vret hx hb hr hlocks hM hS (Nat.le_of_ble_eq_true rfl) (Nat.le_of_ble_eq_true rfl) ⟨_, _, rfl, hI, hK, ⟨⟨hcp, ho1038⟩, by omega, by omega, by omega, (fun hz => by (repeat' apply And.intro) <;> omega), hCL, clx0 hC ho1039 ho1040 ho1041⟩⟩ dX10_clause_141
          · have hc115 := c115
            have q115 := q_ne hc115
            refine lv_aload_n hx hb dX10_clause_127 rfl (lv_at hl 2 rfl) ?_
            refine m_callv (m_runV (1000) (As := []) (rest := []) hx hb hml hown hts hE hM hS hA ce_X10_test tb_1577 (V_X10_test_h l D A ad ns I105 L106 G hJ hI (by omega) (fun hz => by (repeat' apply And.intro) <;> omega) (hbt.of (hK.getA 1034 rfl) (hK.get 1000 24 rfl))) rfl rfl ⟨Nat.le_of_ble_eq_true rfl, Nat.le_of_ble_eq_true rfl⟩ hJ.1 rfl rfl (by decide) rfl hl.1 rfl (Nat.le_of_ble_eq_true rfl) dX10_clause_128 ⟨Nat.le_of_ble_eq_true rfl, Nat.le_of_ble_eq_true rfl⟩) hS (fun u H locs hw hM hS => ?_)
            obtain ⟨I128, L129, rfl, hI, hkI128, xI128⟩ := hw
            have hM : Mem D A ad ns I128 L129 G H := hM
            have hK := hK.trans hkI128 rfl
            replace hC := CT.link (I2 := I105) hC (((hkI105.getA 1035 rfl)).trans (show (u2 I69 (1040) ((v43).toNatClampNeg) (I69 (1000) 29)) 1035 = I69 1035 from by funext zz; simp [u2_v])) (((hkI105.getA 1036 rfl)).trans (show (u2 I69 (1040) ((v43).toNatClampNeg) (I69 (1000) 29)) 1036 = I69 1036 from by funext zz; simp [u2_v])) (by omega) (fun hz => by (repeat' apply And.intro) <;> omega)
            have pw130 : (I128 (1000) 24).toInt = (I (1000) 24 : Int32).toInt := (congrArg Int32.toInt ((hkI128.get (1000) 24 rfl))).trans pw107
            have pw131 : (I128 (1000) 27).toInt = (I (1000) 27 : Int32).toInt := (congrArg Int32.toInt ((hkI128.get (1000) 27 rfl))).trans pw109
            obtain ⟨dT, hCT⟩ := xI128.2.2.2.2.2
            replace hC := hC.comp (hCT.mono0 (1 + (0))) (by omega) (by omega) (by omega) (by omega) (fun hz => (xI128.2.2.2.2.1 hz).1)
            have nw132 := xI128.1
            rw [show TM I105 = TM I from (TM_of (hkI128.getA 1034 rfl) (hkI128.get 1000 24 rfl)).symm.trans (TM_of (hK.getA 1034 rfl) (hK.get 1000 24 rfl))] at nw132
            refine lv_aload_n hx hb dX10_clause_131 rfl (lv_at hl 2 rfl) ?_
            refine m_getr (1000) 41 (1041) hx hb hts hown hE oc10 hM hJ.1 rfl (by decide) rfl (hJ.2 41 (by decide)).2 (by decide) tb_1218 dX10_clause_132 ?_
            refine lv_iload_n hx hb dX10_clause_135 rfl (lv_at hl 0 rfl) ?_
            refine lv_aload_n hx hb dX10_clause_136 rfl (lv_at hl 2 rfl) ?_
            refine m_geti (1000) 29 hx hb hts hown hE oc10 hM hJ.1 rfl (by decide) rfl tb_1206 dX10_clause_137 ?_
            have g133 := hI.get (1000) 29 (lo := 0) (hi := 300) rfl
            refine m_iast (1041) hx hb hE hM hS (hJ.2 41 (by decide)).1 rfl (vp_in_iff.mpr (by omega)) dX10_clause_140 (fun H locs I134 eI134 hM hS => ?_)
            subst eI134
            have hI := hI.put (n := 1041) (k := ((v43).toNatClampNeg)) (v := I128 (1000) 29) (lo := 0) (hi := 300) rfl (by first | omega | decide)
            have hK := hK.put (n := 1041) (k := ((v43).toNatClampNeg)) (v := I128 (1000) 29) (by first | rfl | simp [inR])
            have ha11 : a0.toInt ≤ 11 := by omega
            have hn135 : (r12).toInt = 1 := by omega
            have hn136 : (r104).toInt = 1 := by omega
            clear q16 q19 q115
            have pw137 : ((u2 I128 (1041) ((v43).toNatClampNeg) (I128 (1000) 29)) (1000) 24).toInt = (I (1000) 24 : Int32).toInt := (congrArg Int32.toInt ((show (u2 I128 (1041) ((v43).toNatClampNeg) (I128 (1000) 29)) (1000) 24 = I128 (1000) 24 from by simp [u2_v]))).trans pw130
            have pw138 : ((u2 I128 (1041) ((v43).toNatClampNeg) (I128 (1000) 29)) (1000) 25).toInt = (I128 (1000) 25 : Int32).toInt := congrArg Int32.toInt ((show (u2 I128 (1041) ((v43).toNatClampNeg) (I128 (1000) 29)) (1000) 25 = I128 (1000) 25 from by simp [u2_v]))
            have pw139 : ((u2 I128 (1041) ((v43).toNatClampNeg) (I128 (1000) 29)) (1000) 26).toInt = (I128 (1000) 26 : Int32).toInt := congrArg Int32.toInt ((show (u2 I128 (1041) ((v43).toNatClampNeg) (I128 (1000) 29)) (1000) 26 = I128 (1000) 26 from by simp [u2_v]))
            have pw140 : ((u2 I128 (1041) ((v43).toNatClampNeg) (I128 (1000) 29)) (1000) 27).toInt = (I (1000) 27 : Int32).toInt := (congrArg Int32.toInt ((show (u2 I128 (1041) ((v43).toNatClampNeg) (I128 (1000) 29)) (1000) 27 = I128 (1000) 27 from by simp [u2_v]))).trans pw131
            have pw141 : ((u2 I128 (1041) ((v43).toNatClampNeg) (I128 (1000) 29)) (1000) 29).toInt = (I128 (1000) 29 : Int32).toInt := congrArg Int32.toInt ((show (u2 I128 (1041) ((v43).toNatClampNeg) (I128 (1000) 29)) (1000) 29 = I128 (1000) 29 from by simp [u2_v]))
            have pw142 : ((u2 I128 (1041) ((v43).toNatClampNeg) (I128 (1000) 29)) (1000) 31).toInt = (I128 (1000) 31 : Int32).toInt := congrArg Int32.toInt ((show (u2 I128 (1041) ((v43).toNatClampNeg) (I128 (1000) 29)) (1000) 31 = I128 (1000) 31 from by simp [u2_v]))
            have pw143 : ((u2 I128 (1041) ((v43).toNatClampNeg) (I128 (1000) 29)) (1000) 32).toInt = (I128 (1000) 32 : Int32).toInt := congrArg Int32.toInt ((show (u2 I128 (1041) ((v43).toNatClampNeg) (I128 (1000) 29)) (1000) 32 = I128 (1000) 32 from by simp [u2_v]))
            replace hC := CT.link (I2 := (u2 I128 (1041) ((v43).toNatClampNeg) (I128 (1000) 29))) hC ((show (u2 I128 (1041) ((v43).toNatClampNeg) (I128 (1000) 29)) 1035 = I128 1035 from by funext zz; simp [u2_v])) ((show (u2 I128 (1041) ((v43).toNatClampNeg) (I128 (1000) 29)) 1036 = I128 1036 from by funext zz; simp [u2_v])) (by omega) (fun hz => by have w0 := xI128.2.2.2.2.1 (by omega); (repeat' apply And.intro) <;> omega)
            have pw144 : ((u2 I128 (1041) ((v43).toNatClampNeg) (I128 (1000) 29)) (1000) 30).toInt = (I128 (1000) 30 : Int32).toInt := congrArg Int32.toInt ((show (u2 I128 (1041) ((v43).toNatClampNeg) (I128 (1000) 29)) (1000) 30 = I128 (1000) 30 from by simp [u2_v]))
            have hcz : (v43).toNatClampNeg = 12 * (I 1000 27).toNatClampNeg + (a0).toNatClampNeg := by have z1 := tn (i := v43) (by omega); have z2 := tn (i := I 1000 27) (by omega); have z3 := tn (i := a0) (by omega); omega
            have hz1038 : (u2 I128 (1041) ((v43).toNatClampNeg) (I128 (1000) 29)) 1038 = (u2 I48 (1038) ((v43).toNatClampNeg) (r47)) 1038 := ((((((show (u2 I128 (1041) ((v43).toNatClampNeg) (I128 (1000) 29)) 1038 = I128 1038 from by funext zz; simp [u2_v])).trans (hkI128.getA 1038 rfl)).trans (hkI105.getA 1038 rfl)).trans (show (u2 I69 (1040) ((v43).toNatClampNeg) (I69 (1000) 29)) 1038 = I69 1038 from by funext zz; simp [u2_v])).trans (hkI69.getA 1038 rfl)).trans (show (u2 (u2 I48 (1038) ((v43).toNatClampNeg) (r47)) (1039) ((v43).toNatClampNeg) (I (1000) 29)) 1038 = (u2 I48 (1038) ((v43).toNatClampNeg) (r47)) 1038 from by funext zz; simp [u2_v])
            have hv1038 : ((u2 I128 (1041) ((v43).toNatClampNeg) (I128 (1000) 29)) 1038 (12 * (I 1000 27).toNatClampNeg + (a0).toNatClampNeg)).toInt = (r47 : Int32).toInt := by rw [hz1038, ← hcz, u2_self]
            have ho1038 : ∀ i, i ≠ 12 * (I 1000 27).toNatClampNeg + (a0).toNatClampNeg → (u2 I128 (1041) ((v43).toNatClampNeg) (I128 (1000) 29)) 1038 i = I 1038 i := fun i hi => by rw [hz1038, u2_v, if_neg (by rintro ⟨-, hj⟩; exact hi (hj.trans hcz))]; exact congrFun (((((hkI48.getA 1038 rfl)).trans (hkI30.getA 1038 rfl)).trans (show (u2 I1 (1000) 25 (v20)) 1038 = I1 1038 from by funext zz; simp [u2_v])).trans (hkI1.getA 1038 rfl)) i
            have hz1039 : (u2 I128 (1041) ((v43).toNatClampNeg) (I128 (1000) 29)) 1039 = (u2 (u2 I48 (1038) ((v43).toNatClampNeg) (r47)) (1039) ((v43).toNatClampNeg) (I (1000) 29)) 1039 := (((((show (u2 I128 (1041) ((v43).toNatClampNeg) (I128 (1000) 29)) 1039 = I128 1039 from by funext zz; simp [u2_v])).trans (hkI128.getA 1039 rfl)).trans (hkI105.getA 1039 rfl)).trans (show (u2 I69 (1040) ((v43).toNatClampNeg) (I69 (1000) 29)) 1039 = I69 1039 from by funext zz; simp [u2_v])).trans (hkI69.getA 1039 rfl)
            have hv1039 : ((u2 I128 (1041) ((v43).toNatClampNeg) (I128 (1000) 29)) 1039 (12 * (I 1000 27).toNatClampNeg + (a0).toNatClampNeg)).toInt = (I (1000) 29 : Int32).toInt := by rw [hz1039, ← hcz, u2_self]
            have ho1039 : ∀ i, i ≠ 12 * (I 1000 27).toNatClampNeg + (a0).toNatClampNeg → (u2 I128 (1041) ((v43).toNatClampNeg) (I128 (1000) 29)) 1039 i = I 1039 i := fun i hi => by rw [hz1039, u2_v, if_neg (by rintro ⟨-, hj⟩; exact hi (hj.trans hcz))]; exact congrFun ((((((show (u2 I48 (1038) ((v43).toNatClampNeg) (r47)) 1039 = I48 1039 from by funext zz; simp [u2_v])).trans (hkI48.getA 1039 rfl)).trans (hkI30.getA 1039 rfl)).trans (show (u2 I1 (1000) 25 (v20)) 1039 = I1 1039 from by funext zz; simp [u2_v])).trans (hkI1.getA 1039 rfl)) i
            have hz1040 : (u2 I128 (1041) ((v43).toNatClampNeg) (I128 (1000) 29)) 1040 = (u2 I69 (1040) ((v43).toNatClampNeg) (I69 (1000) 29)) 1040 := (((show (u2 I128 (1041) ((v43).toNatClampNeg) (I128 (1000) 29)) 1040 = I128 1040 from by funext zz; simp [u2_v])).trans (hkI128.getA 1040 rfl)).trans (hkI105.getA 1040 rfl)
            have hv1040 : ((u2 I128 (1041) ((v43).toNatClampNeg) (I128 (1000) 29)) 1040 (12 * (I 1000 27).toNatClampNeg + (a0).toNatClampNeg)).toInt = (I69 (1000) 29 : Int32).toInt := by rw [hz1040, ← hcz, u2_self]
            have ho1040 : ∀ i, i ≠ 12 * (I 1000 27).toNatClampNeg + (a0).toNatClampNeg → (u2 I128 (1041) ((v43).toNatClampNeg) (I128 (1000) 29)) 1040 i = I 1040 i := fun i hi => by rw [hz1040, u2_v, if_neg (by rintro ⟨-, hj⟩; exact hi (hj.trans hcz))]; exact congrFun (((((((hkI69.getA 1040 rfl)).trans (show (u2 (u2 I48 (1038) ((v43).toNatClampNeg) (r47)) (1039) ((v43).toNatClampNeg) (I (1000) 29)) 1040 = I48 1040 from by funext zz; simp [u2_v])).trans (hkI48.getA 1040 rfl)).trans (hkI30.getA 1040 rfl)).trans (show (u2 I1 (1000) 25 (v20)) 1040 = I1 1040 from by funext zz; simp [u2_v])).trans (hkI1.getA 1040 rfl)) i
            have hz1041 : (u2 I128 (1041) ((v43).toNatClampNeg) (I128 (1000) 29)) 1041 = (u2 I128 (1041) ((v43).toNatClampNeg) (I128 (1000) 29)) 1041 := rfl
            have hv1041 : ((u2 I128 (1041) ((v43).toNatClampNeg) (I128 (1000) 29)) 1041 (12 * (I 1000 27).toNatClampNeg + (a0).toNatClampNeg)).toInt = (I128 (1000) 29 : Int32).toInt := by rw [hz1041, ← hcz, u2_self]
            have ho1041 : ∀ i, i ≠ 12 * (I 1000 27).toNatClampNeg + (a0).toNatClampNeg → (u2 I128 (1041) ((v43).toNatClampNeg) (I128 (1000) 29)) 1041 i = I 1041 i := fun i hi => by rw [hz1041, u2_v, if_neg (by rintro ⟨-, hj⟩; exact hi (hj.trans hcz))]; exact congrFun ((((((((((hkI128.getA 1041 rfl)).trans (hkI105.getA 1041 rfl)).trans (show (u2 I69 (1040) ((v43).toNatClampNeg) (I69 (1000) 29)) 1041 = I69 1041 from by funext zz; simp [u2_v])).trans (hkI69.getA 1041 rfl)).trans (show (u2 (u2 I48 (1038) ((v43).toNatClampNeg) (r47)) (1039) ((v43).toNatClampNeg) (I (1000) 29)) 1041 = I48 1041 from by funext zz; simp [u2_v])).trans (hkI48.getA 1041 rfl)).trans (hkI30.getA 1041 rfl)).trans (show (u2 I1 (1000) 25 (v20)) 1041 = I1 1041 from by funext zz; simp [u2_v])).trans (hkI1.getA 1041 rfl)) i
            have z1 := tn (i := I1 1000 25) (by omega)
            have z3 := tn (i := a0) (by omega)
            have z4 := tn (i := (u2 I1 (1000) 25 (v20)) 1000 25) (by omega)
            have hcp : CLP (TM I) I (u2 I128 (1041) ((v43).toNatClampNeg) (I128 (1000) 29)) (a0).toNatClampNeg := CLP.of (fun hf => by
              have hpr := clp_pre hT (I := I) (I2 := I30) (I3 := I48) (q := (I1 1000 25).toNatClampNeg) (n := (a0).toNatClampNeg) nw10 sc18 (by omega) (by rw [nw39, show ((u2 I1 (1000) 25 (v20)) 1000 25).toNatClampNeg = (I1 1000 25).toNatClampNeg + 4 from by omega]) (by omega) (by omega) (RC_of (J := I) (J2 := I30) ((((hkI30.getA 1035 rfl)).trans (show (u2 I1 (1000) 25 (v20)) 1035 = I1 1035 from by funext zz; simp [u2_v])).trans (hkI1.getA 1035 rfl)) ((((hkI30.getA 1036 rfl)).trans (show (u2 I1 (1000) 25 (v20)) 1036 = I1 1036 from by funext zz; simp [u2_v])).trans (hkI1.getA 1036 rfl)) (by omega) (by omega)) nw56.1 (by omega) (RC_of (J := I30) (J2 := I48) ((hkI48.getA 1035 rfl)) ((hkI48.getA 1036 rfl)) (by omega) (by omega)) hf
              by_cases hy : (I48 1000 26).toInt = 0
              · have gR5 := RC_len (J := I69) (hIs78.get 1000 29 (lo := 0) (hi := 300) rfl).1; have gR6 := hIs78.get 1000 29 (lo := 0) (hi := 300) rfl
                have gR7 := RC_len (J := (u2 I128 (1041) ((v43).toNatClampNeg) (I128 (1000) 29))) (hI.get 1000 29 (lo := 0) (hi := 300) rfl).1
                obtain ⟨wt, on, ht1, ht2⟩ := nw132
                have hk3 : wq (TM I) (skp (TM I) (I69 1000 25).toNatClampNeg) [105, 102] = true ∧ (I105 1000 25).toNatClampNeg = skp (TM I) (I69 1000 25).toNatClampNeg + 2 := by rcases nw114 with ⟨b1, b2, b3⟩ | ⟨b1, b2, b3⟩; rw [show ((u2 I69 (1040) ((v43).toNatClampNeg) (I69 (1000) 29)) 1000 25).toNatClampNeg = (I69 1000 25).toNatClampNeg from cl_eq (by omega)] at b2 b3; exact ⟨b2, b3⟩; omega
                exact clp_test (J1 := (u2 (u2 I48 (1038) ((v43).toNatClampNeg) (r47)) (1039) ((v43).toNatClampNeg) (I (1000) 29))) (J2 := I69) (J3 := I105) (J4 := I128) hT (fun F c a1 a2 a3 a4 => (hpr.1 hy F c a1 a2 a3 a4).of (by rw [show ((u2 (u2 I48 (1038) ((v43).toNatClampNeg) (r47)) (1039) ((v43).toNatClampNeg) (I (1000) 29)) 1000 25).toNatClampNeg = (I48 1000 25).toNatClampNeg from cl_eq (by omega)]) (by omega) (RC_of (J := I48) (J2 := (u2 (u2 I48 (1038) ((v43).toNatClampNeg) (r47)) (1039) ((v43).toNatClampNeg) (I (1000) 29))) ((show (u2 (u2 I48 (1038) ((v43).toNatClampNeg) (r47)) (1039) ((v43).toNatClampNeg) (I (1000) 29)) 1035 = I48 1035 from by funext zz; simp [u2_v])) ((show (u2 (u2 I48 (1038) ((v43).toNatClampNeg) (r47)) (1039) ((v43).toNatClampNeg) (I (1000) 29)) 1036 = I48 1036 from by funext zz; simp [u2_v])) (by omega) (by omega))) (by omega) (by omega) nw77.1.1 (by omega) hk3.1 (by omega) (by omega) hk3.2 (by omega) (RC_of (J := I69) (J2 := I105) (((hkI105.getA 1035 rfl)).trans (show (u2 I69 (1040) ((v43).toNatClampNeg) (I69 (1000) 29)) 1035 = I69 1035 from by funext zz; simp [u2_v])) (((hkI105.getA 1036 rfl)).trans (show (u2 I69 (1040) ((v43).toNatClampNeg) (I69 (1000) 29)) 1036 = I69 1036 from by funext zz; simp [u2_v])) (by omega) (by omega)) (Int32.toInt_inj.mp (by omega)) ht1 ht2 (by omega) (fun hz => ⟨by rw [show ((u2 I128 (1041) ((v43).toNatClampNeg) (I128 (1000) 29)) 1000 25).toNatClampNeg = (I128 1000 25).toNatClampNeg from cl_eq (by omega)], by omega, (RC_of (J := I128) (J2 := (u2 I128 (1041) ((v43).toNatClampNeg) (I128 (1000) 29))) ((show (u2 I128 (1041) ((v43).toNatClampNeg) (I128 (1000) 29)) 1035 = I128 1035 from by funext zz; simp [u2_v])) ((show (u2 I128 (1041) ((v43).toNatClampNeg) (I128 (1000) 29)) 1036 = I128 1036 from by funext zz; simp [u2_v])) (by omega) (by omega)), Int32.toInt_inj.mp (by omega)⟩) (fun hz => ⟨by omega, fun i hi => ⟨ho1038 i hi, ho1039 i hi, ho1040 i hi, ho1041 i hi⟩, hv1038, hv1039.trans (by omega), hv1040.trans (by omega), hv1041.trans (by omega)⟩)
              · have w1 := nw77.1.2 (by omega)
                exfalso; omega)
            have hr27 := tn (i := I 1000 27) (by omega)
            have hCL : Imp (((u2 I128 (1041) ((v43).toNatClampNeg) (I128 (1000) 29)) 1000 26).toInt = 0) (CLr (u2 I128 (1041) ((v43).toNatClampNeg) (I128 (1000) 29)) (I 1000 27).toNatClampNeg (12 * (I 1000 27).toNatClampNeg + (a0).toNatClampNeg) ((u2 I128 (1041) ((v43).toNatClampNeg) (I128 (1000) 29)) 1000 29).toInt) := fun hz => by
              have w0 := xI128.2.2.2.2.1 (by omega); skip
              have hq := CLr.mk (A := (u2 (u2 I48 (1038) ((v43).toNatClampNeg) (r47)) (1039) ((v43).toNatClampNeg) (I (1000) 29))) (B := I69) (C := I105) (D := I128) (Z := (u2 I128 (1041) ((v43).toNatClampNeg) (I128 (1000) 29))) (r := (I 1000 27).toNatClampNeg) (c := 12 * (I 1000 27).toNatClampNeg + (a0).toNatClampNeg) (xI69.2.2.2.2.2) hCT ⟨((hkI105.getA 1035 rfl)).trans (show (u2 I69 (1040) ((v43).toNatClampNeg) (I69 (1000) 29)) 1035 = I69 1035 from by funext zz; simp [u2_v]), ((hkI105.getA 1036 rfl)).trans (show (u2 I69 (1040) ((v43).toNatClampNeg) (I69 (1000) 29)) 1036 = I69 1036 from by funext zz; simp [u2_v]), by omega, by omega⟩ (by omega) ⟨(show (u2 I128 (1041) ((v43).toNatClampNeg) (I128 (1000) 29)) 1035 = I128 1035 from by funext zz; simp [u2_v]), (show (u2 I128 (1041) ((v43).toNatClampNeg) (I128 (1000) 29)) 1036 = I128 1036 from by funext zz; simp [u2_v])⟩ (by omega) (by omega) (by omega) (by omega) (by omega)
              rw [show ((u2 I128 (1041) ((v43).toNatClampNeg) (I128 (1000) 29)) 1000 29).toInt = (I128 1000 29).toInt from by omega]
              exact hq
            exact m_vret hx hb hr hlocks hM hS (Nat.le_of_ble_eq_true rfl) (Nat.le_of_ble_eq_true rfl) ⟨_, _, rfl, hI, hK, ⟨⟨hcp, ho1038⟩, by omega, by omega, by omega, (fun hz => by have w0 := xI128.2.2.2.2.1 (by omega); (repeat' apply And.intro) <;> omega), hCL, clx0 hC ho1039 ho1040 ho1041⟩⟩ dX10_clause_141
    · have hc19 := c19
      have q19 := q_eq hc19
      refine lv_aload_n hx hb dX10_clause_32 rfl (lv_at hl 1 rfl) ?_
      refine lv_iconst (v := (4)) hx hb dX10_clause_33 (by decide) ?_
      refine lv_iload_n hx hb dX10_clause_34 rfl (lv_at hl 0 rfl) ?_
      refine m_callv (m_runV (1000) (As := [.int (4), .int (I1 (1000) 25)]) (rest := []) hx hb hml hown hts hE hM hS hA ce_X10_fails tb_1521 (V_X10_fails_h l D A ad ns I1 L2 G (4) (I1 (1000) 25) hJ hI (by first | omega | decide) (by first | omega | decide)) rfl rfl ⟨Nat.le_of_ble_eq_true rfl, Nat.le_of_ble_eq_true rfl⟩ hJ.1 rfl rfl (by decide) rfl hl.1 rfl (Nat.le_of_ble_eq_true rfl) dX10_clause_35 ⟨Nat.le_of_ble_eq_true rfl, Nat.le_of_ble_eq_true rfl⟩) hS (fun u H locs hw hM hS => ?_)
      obtain ⟨I145, L146, rfl, hI, hkI145, xI145⟩ := hw
      have hM : Mem D A ad ns I145 L146 G H := hM
      have hK := hK.trans hkI145 rfl
      have pw147 : (I145 (1000) 24).toInt = (I (1000) 24 : Int32).toInt := (congrArg Int32.toInt ((hkI145.get (1000) 24 rfl))).trans pw3
      have pw148 : (I145 (1000) 25).toInt = (I1 (1000) 25 : Int32).toInt := congrArg Int32.toInt ((hkI145.get (1000) 25 rfl))
      have pw149 : (I145 (1000) 27).toInt = (I (1000) 27 : Int32).toInt := (congrArg Int32.toInt ((hkI145.get (1000) 27 rfl))).trans pw5
      have pw150 : (I145 (1000) 29).toInt = (I (1000) 29 : Int32).toInt := (congrArg Int32.toInt ((hkI145.get (1000) 29 rfl))).trans pw6
      have pw151 : (I145 (1000) 30).toInt = (I (1000) 30 : Int32).toInt := (congrArg Int32.toInt ((hkI145.get (1000) 30 rfl))).trans pw7
      have pw152 : (I145 (1000) 31).toInt = (I (1000) 31 : Int32).toInt := (congrArg Int32.toInt ((hkI145.get (1000) 31 rfl))).trans pw8
      have pw153 : (I145 (1000) 32).toInt = (I (1000) 32 : Int32).toInt := (congrArg Int32.toInt ((hkI145.get (1000) 32 rfl))).trans pw9
      have hn154 : (r12).toInt = 1 := by omega
      clear q16
      replace hC := CT.link (I2 := I145) hC (((hkI145.getA 1035 rfl)).trans (hkI1.getA 1035 rfl)) (((hkI145.getA 1036 rfl)).trans (hkI1.getA 1036 rfl)) (by omega) (fun hz => by have w0 := xI145.2.1 (by omega); exact w0.elim)
      have z1 := tn (i := I1 1000 25) (by omega)
      exact m_vret hx hb hr hlocks hM hS (Nat.le_of_ble_eq_true rfl) (Nat.le_of_ble_eq_true rfl) ⟨_, _, rfl, hI, hK, ⟨⟨CLP.of (fun hf => by have w1 := xI145.2.2.1 (by omega); exact clp_many (q := (I1 1000 25).toNatClampNeg) nw10 sc18 (by have z3 := tn (i := a0) (by omega); omega) (by omega)), fun i _ => congrFun (((hkI145.getA 1038 rfl)).trans (hkI1.getA 1038 rfl)) i⟩, by omega, by omega, by omega, (fun hz => by have w0 := xI145.2.1 (by omega); exact w0.elim), (fun hz => by have w0 := xI145.2.1 (by omega); exact w0.elim), clx0 hC (fun i _ => congrFun (((hkI145.getA 1039 rfl)).trans (hkI1.getA 1039 rfl)) i) (fun i _ => congrFun (((hkI145.getA 1040 rfl)).trans (hkI1.getA 1040 rfl)) i) (fun i _ => congrFun (((hkI145.getA 1041 rfl)).trans (hkI1.getA 1041 rfl)) i)⟩⟩ dX10_clause_38
  · have hc16 := c16
    have q16 := q_eq hc16
    have sc155 := sx15.n (by omega)
    refine lv_aload_n hx hb dX10_clause_19 rfl (lv_at hl 1 rfl) ?_
    refine lv_iconst (v := (0)) hx hb dX10_clause_20 (by decide) ?_
    refine lv_iload_n hx hb dX10_clause_21 rfl (lv_at hl 0 rfl) ?_
    refine m_callv (m_runV (1000) (As := [.int (0), .int (I1 (1000) 25)]) (rest := []) hx hb hml hown hts hE hM hS hA ce_X10_fails tb_1521 (V_X10_fails_h l D A ad ns I1 L2 G (0) (I1 (1000) 25) hJ hI (by first | omega | decide) (by first | omega | decide)) rfl rfl ⟨Nat.le_of_ble_eq_true rfl, Nat.le_of_ble_eq_true rfl⟩ hJ.1 rfl rfl (by decide) rfl hl.1 rfl (Nat.le_of_ble_eq_true rfl) dX10_clause_22 ⟨Nat.le_of_ble_eq_true rfl, Nat.le_of_ble_eq_true rfl⟩) hS (fun u H locs hw hM hS => ?_)
    obtain ⟨I156, L157, rfl, hI, hkI156, xI156⟩ := hw
    have hM : Mem D A ad ns I156 L157 G H := hM
    have hK := hK.trans hkI156 rfl
    have pw158 : (I156 (1000) 24).toInt = (I (1000) 24 : Int32).toInt := (congrArg Int32.toInt ((hkI156.get (1000) 24 rfl))).trans pw3
    have pw159 : (I156 (1000) 25).toInt = (I1 (1000) 25 : Int32).toInt := congrArg Int32.toInt ((hkI156.get (1000) 25 rfl))
    have pw160 : (I156 (1000) 27).toInt = (I (1000) 27 : Int32).toInt := (congrArg Int32.toInt ((hkI156.get (1000) 27 rfl))).trans pw5
    have pw161 : (I156 (1000) 29).toInt = (I (1000) 29 : Int32).toInt := (congrArg Int32.toInt ((hkI156.get (1000) 29 rfl))).trans pw6
    have pw162 : (I156 (1000) 30).toInt = (I (1000) 30 : Int32).toInt := (congrArg Int32.toInt ((hkI156.get (1000) 30 rfl))).trans pw7
    have pw163 : (I156 (1000) 31).toInt = (I (1000) 31 : Int32).toInt := (congrArg Int32.toInt ((hkI156.get (1000) 31 rfl))).trans pw8
    have pw164 : (I156 (1000) 32).toInt = (I (1000) 32 : Int32).toInt := (congrArg Int32.toInt ((hkI156.get (1000) 32 rfl))).trans pw9
    replace hC := CT.link (I2 := I156) hC (((hkI156.getA 1035 rfl)).trans (hkI1.getA 1035 rfl)) (((hkI156.getA 1036 rfl)).trans (hkI1.getA 1036 rfl)) (by omega) (fun hz => by have w0 := xI156.2.1 (by omega); exact w0.elim)
    have z1 := tn (i := I1 1000 25) (by omega)
    exact m_vret hx hb hr hlocks hM hS (Nat.le_of_ble_eq_true rfl) (Nat.le_of_ble_eq_true rfl) ⟨_, _, rfl, hI, hK, ⟨⟨CLP.of (fun hf => by have w1 := xI156.2.2.1 (by omega); exact clp_turn hT (q := (I1 1000 25).toNatClampNeg) nw10 sc155 (by omega)), fun i _ => congrFun (((hkI156.getA 1038 rfl)).trans (hkI1.getA 1038 rfl)) i⟩, by omega, by omega, by omega, (fun hz => by have w0 := xI156.2.1 (by omega); exact w0.elim), (fun hz => by have w0 := xI156.2.1 (by omega); exact w0.elim), clx0 hC (fun i _ => congrFun (((hkI156.getA 1039 rfl)).trans (hkI1.getA 1039 rfl)) i) (fun i _ => congrFun (((hkI156.getA 1040 rfl)).trans (hkI1.getA 1040 rfl)) i) (fun i _ => congrFun (((hkI156.getA 1041 rfl)).trans (hkI1.getA 1041 rfl)) i)⟩⟩ dX10_clause_25
