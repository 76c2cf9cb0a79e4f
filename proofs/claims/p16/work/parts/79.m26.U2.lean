def KPX (I J : MI) : Prop := (∀ j : Nat, j < 24 → J 1067 j = I 1009 j) ∧ (∀ j : Nat, j < 24 → J 1069 j = I 1014 j) ∧ (∀ j : Nat, j < 8 → J 1070 j = I 1023 j) ∧ J 1000 74 = I 1001 6 ∧ J 1000 75 = I 1001 5
set_option maxHeartbeats 4000000 in
set_option maxRecDepth 20000 in
theorem V_X10_keeps_t (l : Launch) (D : va_G) (A : Nat → Prop) (ad : Nat → Nat) (ns : List Nat) (I : MI) (L : ML) (G : MG) (hJ : SGM ns G) (hI : INV I) : Met l yX10_keeps (wd yX10_keeps cX10_keeps 1 none) ({ frames := 1, cells := 0, slots := 0, locals := 22 }) (va_Pc [.ref (ad (1000))] (PM D A ad ns I L G)) (va_Qv (fun u => ∃ I2 L2, u = (ad, ns, I2, L2, G) ∧ INV I2 ∧ Kp [(1067, 1068), (1069, 1071)] [(1000, 74), (1000, 75)] I I2 ∧ (KPX I I2)) (BM D A) A) 0 0 A := by
  refine m_ofW (by decide) (Nat.le_of_ble_eq_true rfl) ?_
  intro p e s m below meth c ls args hC hE hM hA hS hl
  obtain ⟨hx, hb, hml, hown, hts, hr, hlocks, hin⟩ := hC
  have k0 : (0 : Int32).toInt = 0 := by decide
  have k5 : (5 : Int32).toInt = 5 := by decide
  have k6 : (6 : Int32).toInt = 6 := by decide
  have hK : Kp [(1067, 1068), (1069, 1071)] [(1000, 74), (1000, 75)] I I := Kp.rf
  have hl : lv_has ls 1 [(0, .ref (ad (1000)))] := hl
  refine lv_aload_n hx hb dX10_keeps_0 rfl (lv_at hl 0 rfl) ?_
  refine m_getr (1000) 9 (1009) hx hb hts hown hE oc10 hM hJ.1 rfl (by decide) rfl (hJ.2 9 (by decide)).2 (by decide) tb_1186 dX10_keeps_1 ?_
  refine lv_aload_n hx hb dX10_keeps_4 rfl (lv_at hl 0 rfl) ?_
  refine m_getr (1000) 67 (1067) hx hb hts hown hE oc10 hM hJ.1 rfl (by decide) rfl (hJ.2 67 (by decide)).2 (by decide) tb_1244 dX10_keeps_5 ?_
  refine m_callv (m_runS (As := [.ref (ad (1009)), .ref (ad (1067))]) (rest := []) hx hb hml hown hts hE hM hS hA ce_X10_copy tb_1723 (V_X10_copy_1009_1067_t l D A ad ns I L G hJ hI) rfl rfl ⟨Nat.le_of_ble_eq_true rfl, Nat.le_of_ble_eq_true rfl⟩  rfl hl.1 rfl (Nat.le_of_ble_eq_true rfl) dX10_keeps_8 ⟨Nat.le_of_ble_eq_true rfl, Nat.le_of_ble_eq_true rfl⟩) hS (fun u H locs hw hM hS => ?_)
  obtain ⟨I1, L2, rfl, hI, hkI1, xI1⟩ := hw
  have hM : Mem D A ad ns I1 L2 G H := hM
  have hK := hK.trans hkI1 rfl
  refine lv_aload_n hx hb dX10_keeps_11 rfl (lv_at hl 0 rfl) ?_
  refine m_getr (1000) 14 (1014) hx hb hts hown hE oc10 hM hJ.1 rfl (by decide) rfl (hJ.2 14 (by decide)).2 (by decide) tb_1191 dX10_keeps_12 ?_
  refine lv_aload_n hx hb dX10_keeps_15 rfl (lv_at hl 0 rfl) ?_
  refine m_getr (1000) 69 (1069) hx hb hts hown hE oc10 hM hJ.1 rfl (by decide) rfl (hJ.2 69 (by decide)).2 (by decide) tb_1246 dX10_keeps_16 ?_
  refine m_callv (m_runS (As := [.ref (ad (1014)), .ref (ad (1069))]) (rest := []) hx hb hml hown hts hE hM hS hA ce_X10_copy tb_1723 (V_X10_copy_1014_1069_t l D A ad ns I1 L2 G hJ hI) rfl rfl ⟨Nat.le_of_ble_eq_true rfl, Nat.le_of_ble_eq_true rfl⟩  rfl hl.1 rfl (Nat.le_of_ble_eq_true rfl) dX10_keeps_19 ⟨Nat.le_of_ble_eq_true rfl, Nat.le_of_ble_eq_true rfl⟩) hS (fun u H locs hw hM hS => ?_)
  obtain ⟨I3, L4, rfl, hI, hkI3, xI3⟩ := hw
  have hM : Mem D A ad ns I3 L4 G H := hM
  have hK := hK.trans hkI3 rfl
  refine lv_aload_n hx hb dX10_keeps_22 rfl (lv_at hl 0 rfl) ?_
  refine m_getr (1000) 23 (1023) hx hb hts hown hE oc10 hM hJ.1 rfl (by decide) rfl (hJ.2 23 (by decide)).2 (by decide) tb_1200 dX10_keeps_23 ?_
  refine lv_aload_n hx hb dX10_keeps_26 rfl (lv_at hl 0 rfl) ?_
  refine m_getr (1000) 70 (1070) hx hb hts hown hE oc10 hM hJ.1 rfl (by decide) rfl (hJ.2 70 (by decide)).2 (by decide) tb_1247 dX10_keeps_27 ?_
  refine m_callv (m_runS (As := [.ref (ad (1023)), .ref (ad (1070))]) (rest := []) hx hb hml hown hts hE hM hS hA ce_X10_copy tb_1723 (V_X10_copy_1023_1070_t l D A ad ns I3 L4 G hJ hI) rfl rfl ⟨Nat.le_of_ble_eq_true rfl, Nat.le_of_ble_eq_true rfl⟩  rfl hl.1 rfl (Nat.le_of_ble_eq_true rfl) dX10_keeps_30 ⟨Nat.le_of_ble_eq_true rfl, Nat.le_of_ble_eq_true rfl⟩) hS (fun u H locs hw hM hS => ?_)
  obtain ⟨I5, L6, rfl, hI, hkI5, xI5⟩ := hw
  have hM : Mem D A ad ns I5 L6 G H := hM
  have hK := hK.trans hkI5 rfl
  refine lv_aload_n hx hb dX10_keeps_33 rfl (lv_at hl 0 rfl) ?_
  refine lv_aload_n hx hb dX10_keeps_34 rfl (lv_at hl 0 rfl) ?_
  refine m_getr (1000) 1 (1001) hx hb hts hown hE oc10 hM hJ.1 rfl (by decide) rfl (hJ.2 1 (by decide)).2 (by decide) tb_1178 dX10_keeps_35 ?_
  refine lv_bipush (v := (6)) hx hb dX10_keeps_38 (by decide) ?_
  refine m_iald (1001) hx hb hE hM (hJ.2 1 (by decide)).1 rfl (vp_in_iff.mpr (by decide)) dX10_keeps_40 ?_
  rw [show (6 : Int32).toNatClampNeg = 6 from rfl]
  have z7 : I5 (1001) 6 = I (1001) 6 := (((hkI5.get (1001) 6 rfl)).trans (hkI3.get (1001) 6 rfl)).trans (hkI1.get (1001) 6 rfl)
  rw [z7]
  refine m_puti (1000) 74 hx hb hts hown hE oc10 hM hS hJ.1 rfl (by decide) rfl rfl rfl rfl tb_1251 dX10_keeps_41 (fun H locs I8 eI8 hM hS => ?_)
  subst eI8
  have hI := hI.putF (n := 1000) (k := 74) (v := I (1001) 6) rfl
  have hK := hK.put (n := 1000) (k := 74) (v := I (1001) 6) (by first | rfl | simp [inR])
  refine lv_aload_n hx hb dX10_keeps_44 rfl (lv_at hl 0 rfl) ?_
  refine lv_aload_n hx hb dX10_keeps_45 rfl (lv_at hl 0 rfl) ?_
  refine m_getr (1000) 1 (1001) hx hb hts hown hE oc10 hM hJ.1 rfl (by decide) rfl (hJ.2 1 (by decide)).2 (by decide) tb_1178 dX10_keeps_46 ?_
  refine lv_iconst (v := (5)) hx hb dX10_keeps_49 (by decide) ?_
  refine m_iald (1001) hx hb hE hM (hJ.2 1 (by decide)).1 rfl (vp_in_iff.mpr (by decide)) dX10_keeps_50 ?_
  rw [show (5 : Int32).toNatClampNeg = 5 from rfl]
  have g9 := hI.get (1001) 5 (lo := 0) (hi := 11) rfl
  have z10 : (u2 I5 (1000) 74 (I (1001) 6)) (1001) 5 = I (1001) 5 := ((((show (u2 I5 (1000) 74 (I (1001) 6)) (1001) 5 = I5 (1001) 5 from by simp [u2_v])).trans (hkI5.get (1001) 5 rfl)).trans (hkI3.get (1001) 5 rfl)).trans (hkI1.get (1001) 5 rfl)
  rw [z10] at g9 ⊢
  refine m_puti (1000) 75 hx hb hts hown hE oc10 hM hS hJ.1 rfl (by decide) rfl rfl rfl rfl tb_1252 dX10_keeps_51 (fun H locs I11 eI11 hM hS => ?_)
  subst eI11
  have hI := hI.put (n := 1000) (k := 75) (v := I (1001) 5) (lo := 0) (hi := 11) rfl (by first | omega | decide)
  have hK := hK.put (n := 1000) (k := 75) (v := I (1001) 5) (by first | rfl | simp [inR])
  exact m_vret hx hb hr hlocks hM hS (Nat.le_of_ble_eq_true rfl) (Nat.le_of_ble_eq_true rfl) ⟨_, _, rfl, hI, hK, ⟨(fun j hj => (congrFun ((((show (u2 (u2 I5 (1000) 74 (I (1001) 6)) (1000) 75 (I (1001) 5)) 1067 = I5 1067 from by funext zz; simp [u2_v])).trans (hkI5.getA 1067 rfl)).trans (hkI3.getA 1067 rfl)) j).trans ((xI1 j hj).trans (congrFun (rfl) j))), (fun j hj => (congrFun (((show (u2 (u2 I5 (1000) 74 (I (1001) 6)) (1000) 75 (I (1001) 5)) 1069 = I5 1069 from by funext zz; simp [u2_v])).trans (hkI5.getA 1069 rfl)) j).trans ((xI3 j hj).trans (congrFun ((hkI1.getA 1014 rfl)) j))), (fun j hj => (congrFun ((show (u2 (u2 I5 (1000) 74 (I (1001) 6)) (1000) 75 (I (1001) 5)) 1070 = I5 1070 from by funext zz; simp [u2_v])) j).trans ((xI5 j hj).trans (congrFun (((hkI3.getA 1023 rfl)).trans (hkI1.getA 1023 rfl)) j))), (show (u2 (u2 I5 (1000) 74 (I (1001) 6)) (1000) 75 (I (1001) 5)) (1000) 74 = I (1001) 6 from by simp [u2_v]), (show (u2 (u2 I5 (1000) 74 (I (1001) 6)) (1000) 75 (I (1001) 5)) (1000) 75 = I (1001) 5 from by simp [u2_v])⟩⟩ dX10_keeps_54
def PBX (J K : MI) : Prop := (∀ j : Nat, j < 24 → K 1009 j = J 1067 j) ∧ (∀ j : Nat, j < 24 → K 1014 j = J 1069 j) ∧ (∀ j : Nat, j < 8 → K 1023 j = J 1070 j) ∧ K 1001 6 = J 1000 74 ∧ K 1001 5 = J 1000 75
set_option maxHeartbeats 4000000 in
set_option maxRecDepth 20000 in
theorem V_X10_putsBack_t (l : Launch) (D : va_G) (A : Nat → Prop) (ad : Nat → Nat) (ns : List Nat) (I : MI) (L : ML) (G : MG) (hJ : SGM ns G) (hI : INV I) : Met l yX10_putsBack (wd yX10_putsBack cX10_putsBack 1 none) ({ frames := 1, cells := 0, slots := 0, locals := 22 }) (va_Pc [.ref (ad (1000))] (PM D A ad ns I L G)) (va_Qv (fun u => ∃ I2 L2, u = (ad, ns, I2, L2, G) ∧ INV I2 ∧ Kp [(1009, 1010), (1014, 1015), (1023, 1024)] [(1001, 5), (1001, 6)] I I2 ∧ (PBX I I2)) (BM D A) A) 0 0 A := by
  refine m_ofW (by decide) (Nat.le_of_ble_eq_true rfl) ?_
  intro p e s m below meth c ls args hC hE hM hA hS hl
  obtain ⟨hx, hb, hml, hown, hts, hr, hlocks, hin⟩ := hC
  have k0 : (0 : Int32).toInt = 0 := by decide
  have k5 : (5 : Int32).toInt = 5 := by decide
  have k6 : (6 : Int32).toInt = 6 := by decide
  have hK : Kp [(1009, 1010), (1014, 1015), (1023, 1024)] [(1001, 5), (1001, 6)] I I := Kp.rf
  have hl : lv_has ls 1 [(0, .ref (ad (1000)))] := hl
  refine lv_aload_n hx hb dX10_putsBack_0 rfl (lv_at hl 0 rfl) ?_
  refine m_getr (1000) 67 (1067) hx hb hts hown hE oc10 hM hJ.1 rfl (by decide) rfl (hJ.2 67 (by decide)).2 (by decide) tb_1244 dX10_putsBack_1 ?_
  refine lv_aload_n hx hb dX10_putsBack_4 rfl (lv_at hl 0 rfl) ?_
  refine m_getr (1000) 9 (1009) hx hb hts hown hE oc10 hM hJ.1 rfl (by decide) rfl (hJ.2 9 (by decide)).2 (by decide) tb_1186 dX10_putsBack_5 ?_
  refine m_callv (m_runS (As := [.ref (ad (1067)), .ref (ad (1009))]) (rest := []) hx hb hml hown hts hE hM hS hA ce_X10_copy tb_1723 (V_X10_copy_1067_1009_t l D A ad ns I L G hJ hI) rfl rfl ⟨Nat.le_of_ble_eq_true rfl, Nat.le_of_ble_eq_true rfl⟩  rfl hl.1 rfl (Nat.le_of_ble_eq_true rfl) dX10_putsBack_8 ⟨Nat.le_of_ble_eq_true rfl, Nat.le_of_ble_eq_true rfl⟩) hS (fun u H locs hw hM hS => ?_)
  obtain ⟨I1, L2, rfl, hI, hkI1, xI1⟩ := hw
  have hM : Mem D A ad ns I1 L2 G H := hM
  have hK := hK.trans hkI1 rfl
  refine lv_aload_n hx hb dX10_putsBack_11 rfl (lv_at hl 0 rfl) ?_
  refine m_getr (1000) 69 (1069) hx hb hts hown hE oc10 hM hJ.1 rfl (by decide) rfl (hJ.2 69 (by decide)).2 (by decide) tb_1246 dX10_putsBack_12 ?_
  refine lv_aload_n hx hb dX10_putsBack_15 rfl (lv_at hl 0 rfl) ?_
  refine m_getr (1000) 14 (1014) hx hb hts hown hE oc10 hM hJ.1 rfl (by decide) rfl (hJ.2 14 (by decide)).2 (by decide) tb_1191 dX10_putsBack_16 ?_
  refine m_callv (m_runS (As := [.ref (ad (1069)), .ref (ad (1014))]) (rest := []) hx hb hml hown hts hE hM hS hA ce_X10_copy tb_1723 (V_X10_copy_1069_1014_t l D A ad ns I1 L2 G hJ hI) rfl rfl ⟨Nat.le_of_ble_eq_true rfl, Nat.le_of_ble_eq_true rfl⟩  rfl hl.1 rfl (Nat.le_of_ble_eq_true rfl) dX10_putsBack_19 ⟨Nat.le_of_ble_eq_true rfl, Nat.le_of_ble_eq_true rfl⟩) hS (fun u H locs hw hM hS => ?_)
  obtain ⟨I3, L4, rfl, hI, hkI3, xI3⟩ := hw
  have hM : Mem D A ad ns I3 L4 G H := hM
  have hK := hK.trans hkI3 rfl
  refine lv_aload_n hx hb dX10_putsBack_22 rfl (lv_at hl 0 rfl) ?_
  refine m_getr (1000) 70 (1070) hx hb hts hown hE oc10 hM hJ.1 rfl (by decide) rfl (hJ.2 70 (by decide)).2 (by decide) tb_1247 dX10_putsBack_23 ?_
  refine lv_aload_n hx hb dX10_putsBack_26 rfl (lv_at hl 0 rfl) ?_
  refine m_getr (1000) 23 (1023) hx hb hts hown hE oc10 hM hJ.1 rfl (by decide) rfl (hJ.2 23 (by decide)).2 (by decide) tb_1200 dX10_putsBack_27 ?_
  refine m_callv (m_runS (As := [.ref (ad (1070)), .ref (ad (1023))]) (rest := []) hx hb hml hown hts hE hM hS hA ce_X10_copy tb_1723 (V_X10_copy_1070_1023_t l D A ad ns I3 L4 G hJ hI) rfl rfl ⟨Nat.le_of_ble_eq_true rfl, Nat.le_of_ble_eq_true rfl⟩  rfl hl.1 rfl (Nat.le_of_ble_eq_true rfl) dX10_putsBack_30 ⟨Nat.le_of_ble_eq_true rfl, Nat.le_of_ble_eq_true rfl⟩) hS (fun u H locs hw hM hS => ?_)
  obtain ⟨I5, L6, rfl, hI, hkI5, xI5⟩ := hw
  have hM : Mem D A ad ns I5 L6 G H := hM
  have hK := hK.trans hkI5 rfl
  refine lv_aload_n hx hb dX10_putsBack_33 rfl (lv_at hl 0 rfl) ?_
  refine m_getr (1000) 1 (1001) hx hb hts hown hE oc10 hM hJ.1 rfl (by decide) rfl (hJ.2 1 (by decide)).2 (by decide) tb_1178 dX10_putsBack_34 ?_
  refine lv_bipush (v := (6)) hx hb dX10_putsBack_37 (by decide) ?_
  refine lv_aload_n hx hb dX10_putsBack_39 rfl (lv_at hl 0 rfl) ?_
  refine m_geti (1000) 74 hx hb hts hown hE oc10 hM hJ.1 rfl (by decide) rfl tb_1251 dX10_putsBack_40 ?_
  have z7 : I5 (1000) 74 = I (1000) 74 := (((hkI5.get (1000) 74 rfl)).trans (hkI3.get (1000) 74 rfl)).trans (hkI1.get (1000) 74 rfl)
  rw [z7]
  refine m_iast (1001) hx hb hE hM hS (hJ.2 1 (by decide)).1 rfl (vp_in_iff.mpr (by decide)) dX10_putsBack_43 (fun H locs I8 eI8 hM hS => ?_)
  rw [show (6 : Int32).toNatClampNeg = 6 from rfl] at eI8
  subst eI8
  have hI := hI.putF (n := 1001) (k := 6) (v := I (1000) 74) rfl
  have hK := hK.put (n := 1001) (k := 6) (v := I (1000) 74) (by first | rfl | simp [inR])
  refine lv_aload_n hx hb dX10_putsBack_44 rfl (lv_at hl 0 rfl) ?_
  refine m_getr (1000) 1 (1001) hx hb hts hown hE oc10 hM hJ.1 rfl (by decide) rfl (hJ.2 1 (by decide)).2 (by decide) tb_1178 dX10_putsBack_45 ?_
  refine lv_iconst (v := (5)) hx hb dX10_putsBack_48 (by decide) ?_
  refine lv_aload_n hx hb dX10_putsBack_49 rfl (lv_at hl 0 rfl) ?_
  refine m_geti (1000) 75 hx hb hts hown hE oc10 hM hJ.1 rfl (by decide) rfl tb_1252 dX10_putsBack_50 ?_
  have g9 := hI.get (1000) 75 (lo := 0) (hi := 11) rfl
  have z10 : (u2 I5 (1001) 6 (I (1000) 74)) (1000) 75 = I (1000) 75 := ((((show (u2 I5 (1001) 6 (I (1000) 74)) (1000) 75 = I5 (1000) 75 from by simp [u2_v])).trans (hkI5.get (1000) 75 rfl)).trans (hkI3.get (1000) 75 rfl)).trans (hkI1.get (1000) 75 rfl)
  rw [z10] at g9 ⊢
  refine m_iast (1001) hx hb hE hM hS (hJ.2 1 (by decide)).1 rfl (vp_in_iff.mpr (by decide)) dX10_putsBack_53 (fun H locs I11 eI11 hM hS => ?_)
  rw [show (5 : Int32).toNatClampNeg = 5 from rfl] at eI11
  subst eI11
  have hI := hI.put (n := 1001) (k := 5) (v := I (1000) 75) (lo := 0) (hi := 11) rfl (by first | omega | decide)
  have hK := hK.put (n := 1001) (k := 5) (v := I (1000) 75) (by first | rfl | simp [inR])
  exact m_vret hx hb hr hlocks hM hS (Nat.le_of_ble_eq_true rfl) (Nat.le_of_ble_eq_true rfl) ⟨_, _, rfl, hI, hK, ⟨(fun j hj => (congrFun ((((show (u2 (u2 I5 (1001) 6 (I (1000) 74)) (1001) 5 (I (1000) 75)) 1009 = I5 1009 from by funext zz; simp [u2_v])).trans (hkI5.getA 1009 rfl)).trans (hkI3.getA 1009 rfl)) j).trans ((xI1 j hj).trans (congrFun (rfl) j))), (fun j hj => (congrFun (((show (u2 (u2 I5 (1001) 6 (I (1000) 74)) (1001) 5 (I (1000) 75)) 1014 = I5 1014 from by funext zz; simp [u2_v])).trans (hkI5.getA 1014 rfl)) j).trans ((xI3 j hj).trans (congrFun ((hkI1.getA 1069 rfl)) j))), (fun j hj => (congrFun ((show (u2 (u2 I5 (1001) 6 (I (1000) 74)) (1001) 5 (I (1000) 75)) 1023 = I5 1023 from by funext zz; simp [u2_v])) j).trans ((xI5 j hj).trans (congrFun (((hkI3.getA 1070 rfl)).trans (hkI1.getA 1070 rfl)) j))), (show (u2 (u2 I5 (1001) 6 (I (1000) 74)) (1001) 5 (I (1000) 75)) (1001) 6 = I (1000) 74 from by simp [u2_v]), (show (u2 (u2 I5 (1001) 6 (I (1000) 74)) (1001) 5 (I (1000) 75)) (1001) 5 = I (1000) 75 from by simp [u2_v])⟩⟩ dX10_putsBack_54
theorem KPX.of {I J K : MI} (h : KPX I J) (h1 : K 1067 = J 1067) (h2 : K 1069 = J 1069) (h3 : K 1070 = J 1070) (h4 : K 1000 74 = J 1000 74) (h5 : K 1000 75 = J 1000 75) : KPX I K := by
  unfold KPX
  rw [h1, h2, h3, h4, h5]
  exact h
theorem KPX.back {R P : List (Nat × Nat)} {I J K : MI} (h : KPX I J) (hb : PBX J K) (hK : Kp R P I K) (hc : apx [1009, 1014, 1023, 1001] R P = true) (hs : ∀ k, k ≠ 5 → k ≠ 6 → K 1001 k = I 1001 k) : KM I K := KM.of [1009, 1014, 1023, 1001] hK hc (fun n hn k hk => by
  simp only [List.mem_cons, List.not_mem_nil, or_false] at hn
  rcases hn with rfl | rfl | rfl | rfl
  · rw [hb.1 k hk]; exact h.1 k hk
  · rw [hb.2.1 k hk]; exact h.2.1 k hk
  · rw [hb.2.2.1 k hk]; exact h.2.2.1 k hk
  · by_cases g5 : k = 5
    · rw [g5, hb.2.2.2.2]; exact h.2.2.2.2
    by_cases g6 : k = 6
    · rw [g6, hb.2.2.2.1]; exact h.2.2.2.1
    exact hs k g5 g6)
set_option maxHeartbeats 4000000 in
set_option maxRecDepth 20000 in
theorem V_X10_dark_t (l : Launch) (D : va_G) (A : Nat → Prop) (ad : Nat → Nat) (ns : List Nat) (I : MI) (L : ML) (G : MG) (a0 : Int32) (a1 : Int32) (a2 : Int32) (hJ : SGM ns G) (hI : INV I) (hLM : LWM I) : Met l yX10_dark (wd yX10_dark cX10_dark 6 (some .int)) ({ frames := 6, cells := 0, slots := 0, locals := 151 }) (va_Pc [.ref (ad (1000)), .int a0, .int a1, .int a2] (PM D A ad ns I L G)) (va_Qi (fun r u => ∃ I2 L2, u = (ad, ns, I2, L2, G) ∧ INV I2 ∧ Kp [(1009, 1010), (1014, 1015), (1023, 1024), (1045, 1051), (1058, 1059), (1061, 1063), (1064, 1065), (1067, 1068), (1069, 1071)] [(1000, 51), (1000, 52), (1000, 53), (1000, 54), (1000, 55), (1000, 56), (1000, 59), (1000, 63), (1000, 65), (1000, 74), (1000, 75), (1001, 5), (1001, 6)] I I2 ∧ (KM I I2)) (BM D A) A) 0 0 A := by
  refine m_ofW (by decide) (Nat.le_of_ble_eq_true rfl) ?_
  intro p e s m below meth c ls args hC hE hM hA hS hl
  obtain ⟨hx, hb, hml, hown, hts, hr, hlocks, hin⟩ := hC
  have km1 : (-1 : Int32).toInt = -1 := by decide
  have k0 : (0 : Int32).toInt = 0 := by decide
  have k1 : (1 : Int32).toInt = 1 := by decide
  have k5 : (5 : Int32).toInt = 5 := by decide
  have k12 : (12 : Int32).toInt = 12 := by decide
  have kl0 : (0 : Int64).toInt = 0 := by decide
  have kl9999999 : (9999999 : Int64).toInt = 9999999 := by decide
  have hK : Kp [(1009, 1010), (1014, 1015), (1023, 1024), (1045, 1051), (1058, 1059), (1061, 1063), (1064, 1065), (1067, 1068), (1069, 1071)] [(1000, 51), (1000, 52), (1000, 53), (1000, 54), (1000, 55), (1000, 56), (1000, 59), (1000, 63), (1000, 65), (1000, 74), (1000, 75), (1001, 5), (1001, 6)] I I := Kp.rf
  have hl : lv_has ls 6 [(0, .ref (ad (1000))), (1, .int (a0)), (2, .int (a1)), (3, .int (a2))] := hl
  refine lv_aload_n hx hb dX10_dark_0 rfl (lv_at hl 0 rfl) ?_
  refine lv_iload_n hx hb dX10_dark_1 rfl (lv_at hl 1 rfl) ?_
  refine m_calli (m_runV (1000) (As := [.int (a0)]) (rest := []) hx hb hml hown hts hE hM hS hA ce_X10_isLaw tb_1608 (V_X10_isLaw l D A ad ns I L G (a0) hJ hI) rfl rfl ⟨Nat.le_of_ble_eq_true rfl, Nat.le_of_ble_eq_true rfl⟩ hJ.1 rfl rfl (by decide) rfl hl.1 rfl (Nat.le_of_ble_eq_true rfl) dX10_dark_2 ⟨Nat.le_of_ble_eq_true rfl, Nat.le_of_ble_eq_true rfl⟩) hS (fun r1 u H locs hw hM hS => ?_)
  obtain ⟨rfl, xr1⟩ := hw
  have hM : Mem D A ad ns I L G H := hM
  have yr1 := bo01 xr1
  have g2 := hI.get 1000 28 (lo := 0) (hi := 6) rfl
  refine lv_if_eq (tgt := 28) hx hb dX10_dark_5 (by decide) (fun c3 => ?_) (fun c3 => ?_)
  · have hc3 := c3
    have q3 := xr1.f hc3
    refine lv_iconst (v := (-1)) hx hb dX10_dark_28 (by decide) ?_
    exact m_iret hx hb hr hlocks hM hS (Nat.le_of_ble_eq_true rfl) (Nat.le_of_ble_eq_true rfl) ⟨_, _, rfl, hI, hK, EqV.rf⟩ dX10_dark_29
  · have hc3 := c3
    have q3 := xr1.t hc3
    refine lv_aload_n hx hb dX10_dark_8 rfl (lv_at hl 0 rfl) ?_
    refine lv_iload_n hx hb dX10_dark_9 rfl (lv_at hl 2 rfl) ?_
    refine m_calli (m_runV (1000) (As := [.int (a1)]) (rest := []) hx hb hml hown hts hE hM hS hA ce_X10_isYard tb_1686 (V_X10_isYard l D A ad ns I L G (a1) hJ hI) rfl rfl ⟨Nat.le_of_ble_eq_true rfl, Nat.le_of_ble_eq_true rfl⟩ hJ.1 rfl rfl (by decide) rfl hl.1 rfl (Nat.le_of_ble_eq_true rfl) dX10_dark_10 ⟨Nat.le_of_ble_eq_true rfl, Nat.le_of_ble_eq_true rfl⟩) hS (fun r4 u H locs hw hM hS => ?_)
    obtain ⟨rfl, xr4⟩ := hw
    have hM : Mem D A ad ns I L G H := hM
    have yr4 := bo01 xr4
    have g5 := hI.get 1001 9 (lo := 0) (hi := 8) rfl
    refine lv_if_eq (tgt := 28) hx hb dX10_dark_13 (by decide) (fun c6 => ?_) (fun c6 => ?_)
    · have hc6 := c6
      have q6 := xr4.f hc6
      refine lv_iconst (v := (-1)) hx hb dX10_dark_28 (by decide) ?_
      exact m_iret hx hb hr hlocks hM hS (Nat.le_of_ble_eq_true rfl) (Nat.le_of_ble_eq_true rfl) ⟨_, _, rfl, hI, hK, EqV.rf⟩ dX10_dark_29
    · have hc6 := c6
      have q6 := xr4.t hc6
      refine lv_iload_n hx hb dX10_dark_16 rfl (lv_at hl 3 rfl) ?_
      refine lv_i2l hx hb dX10_dark_17 rfl ?_
      refine lv_topl (fun v7 ev7 => ?_)
      have tv7 := q_i2l ev7
      refine lv_lconst (v := 0) hx hb dX10_dark_18 (by decide) ?_
      refine lv_ldc2 (v := (9999999)) hx hb hown (hts _ tb_1472) dX10_dark_19 ?_
      refine m_calli (m_runS (As := [.long (v7), .long (0), .long ((9999999 : Int64))]) (rest := []) hx hb hml hown hts hE hM hS hA ce_X10_in tb_1425 (V_X10_in l D A ad ns I L G (v7) (0) ((9999999 : Int64)) hI) rfl rfl ⟨Nat.le_of_ble_eq_true rfl, Nat.le_of_ble_eq_true rfl⟩  rfl hl.1 rfl (Nat.le_of_ble_eq_true rfl) dX10_dark_22 ⟨Nat.le_of_ble_eq_true rfl, Nat.le_of_ble_eq_true rfl⟩) hS (fun r8 u H locs hw hM hS => ?_)
      obtain ⟨rfl, xr8⟩ := hw
      have hM : Mem D A ad ns I L G H := hM
      have yr8 := bo01 xr8
      refine lv_if_ne (tgt := 30) hx hb dX10_dark_25 (by decide) (fun c9 => ?_) (fun c9 => ?_)
      · have hc9 := c9
        have q9 := xr8.t hc9
        refine lv_aload_n hx hb dX10_dark_30 rfl (lv_at hl 0 rfl) ?_
        refine m_callv (m_runV (1000) (As := []) (rest := []) hx hb hml hown hts hE hM hS hA ce_X10_keeps tb_1806 (V_X10_keeps_t l D A ad ns I L G hJ hI) rfl rfl ⟨Nat.le_of_ble_eq_true rfl, Nat.le_of_ble_eq_true rfl⟩ hJ.1 rfl rfl (by decide) rfl hl.1 rfl (Nat.le_of_ble_eq_true rfl) dX10_dark_31 ⟨Nat.le_of_ble_eq_true rfl, Nat.le_of_ble_eq_true rfl⟩) hS (fun u H locs hw hM hS => ?_)
        obtain ⟨I10, L11, rfl, hI, hkI10, xI10⟩ := hw
        have hM : Mem D A ad ns I10 L11 G H := hM
        have hK := hK.trans hkI10 rfl
        refine lv_iconst (v := (0)) hx hb dX10_dark_34 (by decide) ?_
        refine lv_istore (lv' := [(4, .int (0)), (0, .ref (ad (1000))), (1, .int (a0)), (2, .int (a1)), (3, .int (a2))]) hx hb dX10_dark_35 hl (by decide) rfl (fun ls hl => ?_)
        refine lv_iconst (v := (0)) hx hb dX10_dark_37 (by decide) ?_
        refine lv_istore (lv' := [(5, .int (0)), (4, .int (0)), (0, .ref (ad (1000))), (1, .int (a0)), (2, .int (a1)), (3, .int (a2))]) hx hb dX10_dark_38 hl (by decide) rfl (fun ls hl => ?_)
        have hK0 := hkI10
        have loop40 : ∀ (n : Nat) (x5_40 : Int32) (x4_40 : Int32) (Ia40 : MI) (La40 : ML) (H : Heap) (locs : List Loc) (ls : Array Slot), INV Ia40 → Kp [(1009, 1010), (1014, 1015), (1023, 1024), (1045, 1051), (1058, 1059), (1061, 1063), (1064, 1065), (1067, 1068), (1069, 1071)] [(1000, 51), (1000, 52), (1000, 53), (1000, 54), (1000, 55), (1000, 56), (1000, 59), (1000, 63), (1000, 65), (1000, 74), (1000, 75), (1001, 5), (1001, 6)] I Ia40 → (0 ≤ x5_40.toInt ∧ x5_40.toInt ≤ 12) → (KPX I Ia40) → (KM I Ia40) → (12 - x5_40.toInt).toNat < n → Mem D A ad ns Ia40 La40 G H → va_S A s.heap H locs → lv_has ls 6 [(5, .int (x5_40)), (4, .int (x4_40)), (0, .ref (ad (1000))), (1, .int (a0)), (2, .int (a1)), (3, .int (a2))] → W p l e ({ frames := 6, cells := 0, slots := 0, locals := 151 } : Room) s m args below meth c H locs 0 0 (MQ below (va_Qi (fun r u => ∃ I2 L2, u = (ad, ns, I2, L2, G) ∧ INV I2 ∧ Kp [(1009, 1010), (1014, 1015), (1023, 1024), (1045, 1051), (1058, 1059), (1061, 1063), (1064, 1065), (1067, 1068), (1069, 1071)] [(1000, 51), (1000, 52), (1000, 53), (1000, 54), (1000, 55), (1000, 56), (1000, 59), (1000, 63), (1000, 65), (1000, 74), (1000, 75), (1001, 5), (1001, 6)] I I2 ∧ (KM I I2)) (BM D A) A) args s 0 0 A) (F0 m 40 ls []) := by
          intro n
          induction n with
          | zero =>
            intro x5_40 x4_40 Ia40 La40 H locs ls hI hK hr5_40 hk40 hk40m hmu
            exact absurd hmu (Nat.not_lt_zero _)
          | succ n ih40 =>
            intro x5_40 x4_40 Ia40 La40 H locs ls hI hK hr5_40 hk40 hk40m hmu40 hM hS hl
            refine lv_iload hx hb dX10_dark_40 (lv_at hl 0 rfl) ?_
            refine lv_bipush (v := (12)) hx hb dX10_dark_42 (by decide) ?_
            refine lv_icmp_ge (tgt := 93) hx hb dX10_dark_44 (by decide) (fun c12 => ?_) (fun c12 => ?_)
            · have hc12 := c12
              have q12 := q_le hc12
              refine lv_iload hx hb dX10_dark_93 (lv_at hl 1 rfl) ?_
              exact m_iret hx hb hr hlocks hM hS (Nat.le_of_ble_eq_true rfl) (Nat.le_of_ble_eq_true rfl) ⟨_, _, rfl, hI, hK, hk40m⟩ dX10_dark_95
            · have hc12 := c12
              have q12 := q_nle hc12
              refine lv_aload_n hx hb dX10_dark_47 rfl (lv_at hl 2 rfl) ?_
              refine m_getr (1000) 1 (1001) hx hb hts hown hE oc10 hM hJ.1 rfl (by decide) rfl (hJ.2 1 (by decide)).2 (by decide) tb_1178 dX10_dark_48 ?_
              refine lv_iconst (v := (5)) hx hb dX10_dark_51 (by decide) ?_
              refine lv_iload hx hb dX10_dark_52 (lv_at hl 0 rfl) ?_
              refine m_iast (1001) hx hb hE hM hS (hJ.2 1 (by decide)).1 rfl (vp_in_iff.mpr (by decide)) dX10_dark_54 (fun H locs I13 eI13 hM hS => ?_)
              rw [show (5 : Int32).toNatClampNeg = 5 from rfl] at eI13
              subst eI13
              have hI := hI.put (n := 1001) (k := 5) (v := x5_40) (lo := 0) (hi := 11) rfl (by first | omega | decide)
              have hK := hK.put (n := 1001) (k := 5) (v := x5_40) (by first | rfl | simp [inR])
              have kp14 : KPX I (u2 Ia40 (1001) 5 (x5_40)) := KPX.of hk40 (by funext zz; simp [u2_v]) (by funext zz; simp [u2_v]) (by funext zz; simp [u2_v]) (by simp [u2_v]) (by simp [u2_v])
              refine lv_aload_n hx hb dX10_dark_55 rfl (lv_at hl 2 rfl) ?_
              refine lv_iload_n hx hb dX10_dark_56 rfl (lv_at hl 3 rfl) ?_
              refine m_callv (m_runV (1000) (As := [.int (a0)]) (rest := []) hx hb hml hown hts hE hM hS hA ce_X10_goesDay tb_1613 (V_X10_goesDay l D A ad ns (u2 Ia40 (1001) 5 (x5_40)) La40 G (a0) hJ hI ((hLM (a0).toNatClampNeg (by have ta := tn (i := a0) (by omega); omega)).kp hK rfl) (by first | omega | decide)) rfl rfl ⟨Nat.le_of_ble_eq_true rfl, Nat.le_of_ble_eq_true rfl⟩ hJ.1 rfl rfl (by decide) rfl hl.1 rfl (Nat.le_of_ble_eq_true rfl) dX10_dark_57 ⟨Nat.le_of_ble_eq_true rfl, Nat.le_of_ble_eq_true rfl⟩) hS (fun u H locs hw hM hS => ?_)
              obtain ⟨I15, L16, rfl, hI, hkI15⟩ := hw
              have hM : Mem D A ad ns I15 L16 G H := hM
              have hK := hK.trans hkI15 rfl
              have kp17 : KPX I I15 := KPX.of kp14 (hkI15.getA 1067 rfl) (hkI15.getA 1069 rfl) (hkI15.getA 1070 rfl) (hkI15.get 1000 74 rfl) (hkI15.get 1000 75 rfl)
              refine lv_iload hx hb dX10_dark_60 (lv_at hl 1 rfl) ?_
              refine lv_aload_n hx hb dX10_dark_62 rfl (lv_at hl 2 rfl) ?_
              refine m_getr (1000) 23 (1023) hx hb hts hown hE oc10 hM hJ.1 rfl (by decide) rfl (hJ.2 23 (by decide)).2 (by decide) tb_1200 dX10_dark_63 ?_
              refine lv_iload_n hx hb dX10_dark_66 rfl (lv_at hl 4 rfl) ?_
              refine m_iald (1023) hx hb hE hM (hJ.2 23 (by decide)).1 rfl (vp_in_iff.mpr (by omega)) dX10_dark_67 ?_
              refine lv_iload_n hx hb dX10_dark_68 rfl (lv_at hl 5 rfl) ?_
              refine lv_icmp_ge (tgt := 79) hx hb dX10_dark_69 (by decide) (fun c18 => ?_) (fun c18 => ?_)
              · have hc18 := c18
                have q18 := q_le hc18
                refine lv_iconst (v := (0)) hx hb dX10_dark_79 (by decide) ?_
                refine lv_ior hx hb dX10_dark_80 ?_
                refine lv_topi (fun v19 ev19 => ?_)
                refine lv_istore (lv' := [(4, .int (v19)), (5, .int (x5_40)), (0, .ref (ad (1000))), (1, .int (a0)), (2, .int (a1)), (3, .int (a2))]) hx hb dX10_dark_81 hl (by decide) rfl (fun ls hl => ?_)
                refine lv_aload_n hx hb dX10_dark_83 rfl (lv_at hl 2 rfl) ?_
                refine m_callv (m_runV (1000) (As := []) (rest := []) hx hb hml hown hts hE hM hS hA ce_X10_putsBack tb_1810 (V_X10_putsBack_t l D A ad ns I15 L16 G hJ hI) rfl rfl ⟨Nat.le_of_ble_eq_true rfl, Nat.le_of_ble_eq_true rfl⟩ hJ.1 rfl rfl (by decide) rfl hl.1 rfl (Nat.le_of_ble_eq_true rfl) dX10_dark_84 ⟨Nat.le_of_ble_eq_true rfl, Nat.le_of_ble_eq_true rfl⟩) hS (fun u H locs hw hM hS => ?_)
                obtain ⟨I20, L21, rfl, hI, hkI20, xI20⟩ := hw
                have hM : Mem D A ad ns I20 L21 G H := hM
                have hK := hK.trans hkI20 rfl
                have hkm : KM I I20 := KPX.back kp17 xI20 hK rfl (fun k g5 g6 => hK 1001 k rfl (by simp [g5, g6]))
                have kp22 : KPX I I20 := KPX.of kp17 (hkI20.getA 1067 rfl) (hkI20.getA 1069 rfl) (hkI20.getA 1070 rfl) (hkI20.get 1000 74 rfl) (hkI20.get 1000 75 rfl)
                obtain ⟨v23, ev23⟩ : ∃ z : Int32, z = x5_40 + Int32.ofInt (1) := ⟨_, rfl⟩
                have tv23 := a_inc ev23 (by decide) (by omega) (by omega)
                refine lv_iinc (v := v23) (lv' := [(5, .int (v23)), (4, .int (v19)), (0, .ref (ad (1000))), (1, .int (a0)), (2, .int (a1)), (3, .int (a2))]) hx hb dX10_dark_87 hl (k := 1) rfl ev23.symm (by decide) rfl (fun ls hl => ?_)
                refine lv_goto (tgt := 40) hx hb dX10_dark_90 (by decide) ?_
                exact ih40 (v23) (v19) I20 L21 _ _ ls hI hK (by first | omega | decide) kp22 hkm (by omega) hM hS (lv_sub hl [0, 1, 2, 3, 4, 5] rfl)
              · have hc18 := c18
                have q18 := q_nle hc18
                refine lv_iconst (v := (1)) hx hb dX10_dark_72 (by decide) ?_
                refine lv_iload hx hb dX10_dark_73 (lv_at hl 0 rfl) ?_
                refine lv_ishl hx hb dX10_dark_75 ?_
                refine lv_topi (fun v24 ev24 => ?_)
                refine lv_goto (tgt := 80) hx hb dX10_dark_76 (by decide) ?_
                refine lv_ior hx hb dX10_dark_80 ?_
                refine lv_topi (fun v25 ev25 => ?_)
                refine lv_istore (lv' := [(4, .int (v25)), (5, .int (x5_40)), (0, .ref (ad (1000))), (1, .int (a0)), (2, .int (a1)), (3, .int (a2))]) hx hb dX10_dark_81 hl (by decide) rfl (fun ls hl => ?_)
                refine lv_aload_n hx hb dX10_dark_83 rfl (lv_at hl 2 rfl) ?_
                refine m_callv (m_runV (1000) (As := []) (rest := []) hx hb hml hown hts hE hM hS hA ce_X10_putsBack tb_1810 (V_X10_putsBack_t l D A ad ns I15 L16 G hJ hI) rfl rfl ⟨Nat.le_of_ble_eq_true rfl, Nat.le_of_ble_eq_true rfl⟩ hJ.1 rfl rfl (by decide) rfl hl.1 rfl (Nat.le_of_ble_eq_true rfl) dX10_dark_84 ⟨Nat.le_of_ble_eq_true rfl, Nat.le_of_ble_eq_true rfl⟩) hS (fun u H locs hw hM hS => ?_)
                obtain ⟨I26, L27, rfl, hI, hkI26, xI26⟩ := hw
                have hM : Mem D A ad ns I26 L27 G H := hM
                have hK := hK.trans hkI26 rfl
                have hkm : KM I I26 := KPX.back kp17 xI26 hK rfl (fun k g5 g6 => hK 1001 k rfl (by simp [g5, g6]))
                have kp28 : KPX I I26 := KPX.of kp17 (hkI26.getA 1067 rfl) (hkI26.getA 1069 rfl) (hkI26.getA 1070 rfl) (hkI26.get 1000 74 rfl) (hkI26.get 1000 75 rfl)
                obtain ⟨v29, ev29⟩ : ∃ z : Int32, z = x5_40 + Int32.ofInt (1) := ⟨_, rfl⟩
                have tv29 := a_inc ev29 (by decide) (by omega) (by omega)
                refine lv_iinc (v := v29) (lv' := [(5, .int (v29)), (4, .int (v25)), (0, .ref (ad (1000))), (1, .int (a0)), (2, .int (a1)), (3, .int (a2))]) hx hb dX10_dark_87 hl (k := 1) rfl ev29.symm (by decide) rfl (fun ls hl => ?_)
                refine lv_goto (tgt := 40) hx hb dX10_dark_90 (by decide) ?_
                exact ih40 (v29) (v25) I26 L27 _ _ ls hI hK (by first | omega | decide) kp28 hkm (by omega) hM hS (lv_sub hl [0, 1, 2, 3, 4, 5] rfl)
        exact loop40 (_ + 1) (0) (0) I10 L11 _ _ ls hI hK (by first | omega | decide) xI10 (live_fr hK0 rfl) (Nat.lt_succ_self _) hM hS (lv_sub hl [0, 1, 2, 3, 4, 5] rfl)
      · have hc9 := c9
        have q9 := xr8.f hc9
        refine lv_iconst (v := (-1)) hx hb dX10_dark_28 (by decide) ?_
        exact m_iret hx hb hr hlocks hM hS (Nat.le_of_ble_eq_true rfl) (Nat.le_of_ble_eq_true rfl) ⟨_, _, rfl, hI, hK, EqV.rf⟩ dX10_dark_29
set_option maxHeartbeats 4000000 in
set_option maxRecDepth 20000 in
theorem V_X10_ahead_t (l : Launch) (D : va_G) (A : Nat → Prop) (ad : Nat → Nat) (ns : List Nat) (I : MI) (L : ML) (G : MG) (a0 : Int32) (a1 : Int32) (a2 : Int32) (hJ : SGM ns G) (hI : INV I) (hLM : LWM I) : Met l yX10_ahead (wd yX10_ahead cX10_ahead 5 (some .int)) ({ frames := 6, cells := 0, slots := 0, locals := 151 }) (va_Pc [.ref (ad (1000)), .int a0, .int a1, .int a2] (PM D A ad ns I L G)) (va_Qi (fun r u => ∃ I2 L2, u = (ad, ns, I2, L2, G) ∧ INV I2 ∧ Kp [(1009, 1010), (1014, 1015), (1023, 1024), (1045, 1051), (1058, 1059), (1061, 1063), (1064, 1065), (1067, 1068), (1069, 1071)] [(1000, 51), (1000, 52), (1000, 53), (1000, 54), (1000, 55), (1000, 56), (1000, 59), (1000, 63), (1000, 65), (1000, 74), (1000, 75), (1001, 5), (1001, 6)] I I2 ∧ (KM I I2)) (BM D A) A) 0 0 A := by
  refine m_ofW (by decide) (Nat.le_of_ble_eq_true rfl) ?_
  intro p e s m below meth c ls args hC hE hM hA hS hl
  obtain ⟨hx, hb, hml, hown, hts, hr, hlocks, hin⟩ := hC
  have km3 : (-3 : Int32).toInt = -3 := by decide
  have km2 : (-2 : Int32).toInt = -2 := by decide
  have km1 : (-1 : Int32).toInt = -1 := by decide
  have k0 : (0 : Int32).toInt = 0 := by decide
  have k1 : (1 : Int32).toInt = 1 := by decide
  have k9 : (9 : Int32).toInt = 9 := by decide
  have klm2 : (-2 : Int64).toInt = -2 := by decide
  have kl1 : (1 : Int64).toInt = 1 := by decide
  have kl10 : (10 : Int64).toInt = 10 := by decide
  have hK : Kp [(1009, 1010), (1014, 1015), (1023, 1024), (1045, 1051), (1058, 1059), (1061, 1063), (1064, 1065), (1067, 1068), (1069, 1071)] [(1000, 51), (1000, 52), (1000, 53), (1000, 54), (1000, 55), (1000, 56), (1000, 59), (1000, 63), (1000, 65), (1000, 74), (1000, 75), (1001, 5), (1001, 6)] I I := Kp.rf
  have hl : lv_has ls 5 [(0, .ref (ad (1000))), (1, .int (a0)), (2, .int (a1)), (3, .int (a2))] := hl
  refine lv_aload_n hx hb dX10_ahead_0 rfl (lv_at hl 0 rfl) ?_
  refine lv_iload_n hx hb dX10_ahead_1 rfl (lv_at hl 1 rfl) ?_
  refine m_calli (m_runV (1000) (As := [.int (a0)]) (rest := []) hx hb hml hown hts hE hM hS hA ce_X10_isLaw tb_1608 (V_X10_isLaw l D A ad ns I L G (a0) hJ hI) rfl rfl ⟨Nat.le_of_ble_eq_true rfl, Nat.le_of_ble_eq_true rfl⟩ hJ.1 rfl rfl (by decide) rfl hl.1 rfl (Nat.le_of_ble_eq_true rfl) dX10_ahead_2 ⟨Nat.le_of_ble_eq_true rfl, Nat.le_of_ble_eq_true rfl⟩) hS (fun r1 u H locs hw hM hS => ?_)
  obtain ⟨rfl, xr1⟩ := hw
  have hM : Mem D A ad ns I L G H := hM
  have yr1 := bo01 xr1
  have g2 := hI.get 1000 28 (lo := 0) (hi := 6) rfl
  refine lv_if_eq (tgt := 41) hx hb dX10_ahead_5 (by decide) (fun c3 => ?_) (fun c3 => ?_)
  · have hc3 := c3
    have q3 := xr1.f hc3
    refine lv_bipush (v := (-3)) hx hb dX10_ahead_41 (by decide) ?_
    exact m_iret hx hb hr hlocks hM hS (Nat.le_of_ble_eq_true rfl) (Nat.le_of_ble_eq_true rfl) ⟨_, _, rfl, hI, hK, EqV.rf⟩ dX10_ahead_43
  · have hc3 := c3
    have q3 := xr1.t hc3
    refine lv_iload_n hx hb dX10_ahead_8 rfl (lv_at hl 2 rfl) ?_
    refine lv_i2l hx hb dX10_ahead_9 rfl ?_
    refine lv_topl (fun v4 ev4 => ?_)
    have tv4 := q_i2l ev4
    refine lv_lconst (v := 1) hx hb dX10_ahead_10 (by decide) ?_
    refine lv_ldc2 (v := (10)) hx hb hown (hts _ tb_1818) dX10_ahead_11 ?_
    refine m_calli (m_runS (As := [.long (v4), .long (1), .long ((10 : Int64))]) (rest := []) hx hb hml hown hts hE hM hS hA ce_X10_in tb_1425 (V_X10_in l D A ad ns I L G (v4) (1) ((10 : Int64)) hI) rfl rfl ⟨Nat.le_of_ble_eq_true rfl, Nat.le_of_ble_eq_true rfl⟩  rfl hl.1 rfl (Nat.le_of_ble_eq_true rfl) dX10_ahead_14 ⟨Nat.le_of_ble_eq_true rfl, Nat.le_of_ble_eq_true rfl⟩) hS (fun r5 u H locs hw hM hS => ?_)
    obtain ⟨rfl, xr5⟩ := hw
    have hM : Mem D A ad ns I L G H := hM
    have yr5 := bo01 xr5
    refine lv_if_eq (tgt := 41) hx hb dX10_ahead_17 (by decide) (fun c6 => ?_) (fun c6 => ?_)
    · have hc6 := c6
      have q6 := xr5.f hc6
      refine lv_bipush (v := (-3)) hx hb dX10_ahead_41 (by decide) ?_
      exact m_iret hx hb hr hlocks hM hS (Nat.le_of_ble_eq_true rfl) (Nat.le_of_ble_eq_true rfl) ⟨_, _, rfl, hI, hK, EqV.rf⟩ dX10_ahead_43
    · have hc6 := c6
      have q6 := xr5.t hc6
      refine lv_iload_n hx hb dX10_ahead_20 rfl (lv_at hl 3 rfl) ?_
      refine lv_i2l hx hb dX10_ahead_21 rfl ?_
      refine lv_topl (fun v7 ev7 => ?_)
      have tv7 := q_i2l ev7
      refine lv_ldc2 (v := (-2)) hx hb hown (hts _ tb_1819) dX10_ahead_22 ?_
      refine lv_aload_n hx hb dX10_ahead_25 rfl (lv_at hl 0 rfl) ?_
      refine m_getr (1000) 1 (1001) hx hb hts hown hE oc10 hM hJ.1 rfl (by decide) rfl (hJ.2 1 (by decide)).2 (by decide) tb_1178 dX10_ahead_26 ?_
      refine lv_bipush (v := (9)) hx hb dX10_ahead_29 (by decide) ?_
      refine m_iald (1001) hx hb hE hM (hJ.2 1 (by decide)).1 rfl (vp_in_iff.mpr (by decide)) dX10_ahead_31 ?_
      rw [show (9 : Int32).toNatClampNeg = 9 from rfl]
      have g8 := hI.get (1001) 9 (lo := 0) (hi := 8) rfl
      refine lv_iconst (v := (1)) hx hb dX10_ahead_32 (by decide) ?_
      refine lv_isub hx hb dX10_ahead_33 ?_
      refine lv_topi (fun v9 ev9 => ?_)
      have tv9 := a_sub ev9 (by omega) (by omega)
      refine lv_i2l hx hb dX10_ahead_34 rfl ?_
      refine lv_topl (fun v10 ev10 => ?_)
      have tv10 := q_i2l ev10
      refine m_calli (m_runS (As := [.long (v7), .long ((-2 : Int64)), .long (v10)]) (rest := []) hx hb hml hown hts hE hM hS hA ce_X10_in tb_1425 (V_X10_in l D A ad ns I L G (v7) ((-2 : Int64)) (v10) hI) rfl rfl ⟨Nat.le_of_ble_eq_true rfl, Nat.le_of_ble_eq_true rfl⟩  rfl hl.1 rfl (Nat.le_of_ble_eq_true rfl) dX10_ahead_35 ⟨Nat.le_of_ble_eq_true rfl, Nat.le_of_ble_eq_true rfl⟩) hS (fun r11 u H locs hw hM hS => ?_)
      obtain ⟨rfl, xr11⟩ := hw
      have hM : Mem D A ad ns I L G H := hM
      have yr11 := bo01 xr11
      refine lv_if_ne (tgt := 44) hx hb dX10_ahead_38 (by decide) (fun c12 => ?_) (fun c12 => ?_)
      · have hc12 := c12
        have q12 := xr11.t hc12
        refine lv_aload_n hx hb dX10_ahead_44 rfl (lv_at hl 0 rfl) ?_
        refine m_callv (m_runV (1000) (As := []) (rest := []) hx hb hml hown hts hE hM hS hA ce_X10_keeps tb_1806 (V_X10_keeps_t l D A ad ns I L G hJ hI) rfl rfl ⟨Nat.le_of_ble_eq_true rfl, Nat.le_of_ble_eq_true rfl⟩ hJ.1 rfl rfl (by decide) rfl hl.1 rfl (Nat.le_of_ble_eq_true rfl) dX10_ahead_45 ⟨Nat.le_of_ble_eq_true rfl, Nat.le_of_ble_eq_true rfl⟩) hS (fun u H locs hw hM hS => ?_)
        obtain ⟨I13, L14, rfl, hI, hkI13, xI13⟩ := hw
        have hM : Mem D A ad ns I13 L14 G H := hM
        have hK := hK.trans hkI13 rfl
        refine lv_aload_n hx hb dX10_ahead_48 rfl (lv_at hl 0 rfl) ?_
        refine lv_iconst (v := (0)) hx hb dX10_ahead_49 (by decide) ?_
        refine m_puti (1000) 65 hx hb hts hown hE oc10 hM hS hJ.1 rfl (by decide) rfl rfl rfl rfl tb_1242 dX10_ahead_50 (fun H locs I15 eI15 hM hS => ?_)
        subst eI15
        have hI := hI.putF (n := 1000) (k := 65) (v := 0) rfl
        have hK := hK.put (n := 1000) (k := 65) (v := 0) (by first | rfl | simp [inR])
        have kp16 : KPX I (u2 I13 (1000) 65 (0)) := KPX.of xI13 (by funext zz; simp [u2_v]) (by funext zz; simp [u2_v]) (by funext zz; simp [u2_v]) (by simp [u2_v]) (by simp [u2_v])
        refine lv_iconst (v := (0)) hx hb dX10_ahead_53 (by decide) ?_
        refine lv_istore (lv' := [(4, .int (0)), (0, .ref (ad (1000))), (1, .int (a0)), (2, .int (a1)), (3, .int (a2))]) hx hb dX10_ahead_54 hl (by decide) rfl (fun ls hl => ?_)
        have loop56 : ∀ (n : Nat) (x4_56 : Int32) (Ia56 : MI) (La56 : ML) (H : Heap) (locs : List Loc) (ls : Array Slot), INV Ia56 → Kp [(1009, 1010), (1014, 1015), (1023, 1024), (1045, 1051), (1058, 1059), (1061, 1063), (1064, 1065), (1067, 1068), (1069, 1071)] [(1000, 51), (1000, 52), (1000, 53), (1000, 54), (1000, 55), (1000, 56), (1000, 59), (1000, 63), (1000, 65), (1000, 74), (1000, 75), (1001, 5), (1001, 6)] I Ia56 → (0 ≤ x4_56.toInt ∧ x4_56.toInt ≤ 10) → (KPX I Ia56) → (10 - x4_56.toInt).toNat < n → Mem D A ad ns Ia56 La56 G H → va_S A s.heap H locs → lv_has ls 5 [(4, .int (x4_56)), (0, .ref (ad (1000))), (1, .int (a0)), (2, .int (a1)), (3, .int (a2))] → W p l e ({ frames := 6, cells := 0, slots := 0, locals := 151 } : Room) s m args below meth c H locs 0 0 (MQ below (va_Qi (fun r u => ∃ I2 L2, u = (ad, ns, I2, L2, G) ∧ INV I2 ∧ Kp [(1009, 1010), (1014, 1015), (1023, 1024), (1045, 1051), (1058, 1059), (1061, 1063), (1064, 1065), (1067, 1068), (1069, 1071)] [(1000, 51), (1000, 52), (1000, 53), (1000, 54), (1000, 55), (1000, 56), (1000, 59), (1000, 63), (1000, 65), (1000, 74), (1000, 75), (1001, 5), (1001, 6)] I I2 ∧ (KM I I2)) (BM D A) A) args s 0 0 A) (F0 m 56 ls []) := by
          intro n
          induction n with
          | zero =>
            intro x4_56 Ia56 La56 H locs ls hI hK hr4_56 hk56 hmu
            exact absurd hmu (Nat.not_lt_zero _)
          | succ n ih56 =>
            intro x4_56 Ia56 La56 H locs ls hI hK hr4_56 hk56 hmu56 hM hS hl
            refine lv_iload hx hb dX10_ahead_56 (lv_at hl 0 rfl) ?_
            refine lv_iload_n hx hb dX10_ahead_58 rfl (lv_at hl 3 rfl) ?_
            refine lv_icmp_ge (tgt := 73) hx hb dX10_ahead_59 (by decide) (fun c17 => ?_) (fun c17 => ?_)
            · have hc17 := c17
              have q17 := q_le hc17
              refine lv_iload_n hx hb dX10_ahead_73 rfl (lv_at hl 4 rfl) ?_
              refine lv_bipush (v := (-2)) hx hb dX10_ahead_74 (by decide) ?_
              refine lv_icmp_ne (tgt := 86) hx hb dX10_ahead_76 (by decide) (fun c18 => ?_) (fun c18 => ?_)
              · have hc18 := c18
                have q18 := q_ne hc18
                refine lv_iload_n hx hb dX10_ahead_86 rfl (lv_at hl 4 rfl) ?_
                refine lv_iconst (v := (-1)) hx hb dX10_ahead_87 (by decide) ?_
                refine lv_icmp_ne (tgt := 98) hx hb dX10_ahead_88 (by decide) (fun c19 => ?_) (fun c19 => ?_)
                · have hc19 := c19
                  have q19 := q_ne hc19
                  refine lv_aload_n hx hb dX10_ahead_98 rfl (lv_at hl 1 rfl) ?_
                  refine m_getr (1000) 23 (1023) hx hb hts hown hE oc10 hM hJ.1 rfl (by decide) rfl (hJ.2 23 (by decide)).2 (by decide) tb_1200 dX10_ahead_99 ?_
                  refine lv_iload_n hx hb dX10_ahead_102 rfl (lv_at hl 4 rfl) ?_
                  refine m_iald (1023) hx hb hE hM (hJ.2 23 (by decide)).1 rfl (vp_in_iff.mpr (by omega)) dX10_ahead_103 ?_
                  refine lv_istore (lv' := [(4, .int (Ia56 (1023) (a2).toNatClampNeg)), (0, .ref (ad (1000))), (1, .int (a0)), (2, .int (a1)), (3, .int (a2))]) hx hb dX10_ahead_104 hl (by decide) rfl (fun ls hl => ?_)
                  refine lv_aload_n hx hb dX10_ahead_106 rfl (lv_at hl 1 rfl) ?_
                  refine m_callv (m_runV (1000) (As := []) (rest := []) hx hb hml hown hts hE hM hS hA ce_X10_putsBack tb_1810 (V_X10_putsBack_t l D A ad ns Ia56 La56 G hJ hI) rfl rfl ⟨Nat.le_of_ble_eq_true rfl, Nat.le_of_ble_eq_true rfl⟩ hJ.1 rfl rfl (by decide) rfl hl.1 rfl (Nat.le_of_ble_eq_true rfl) dX10_ahead_107 ⟨Nat.le_of_ble_eq_true rfl, Nat.le_of_ble_eq_true rfl⟩) hS (fun u H locs hw hM hS => ?_)
                  obtain ⟨I20, L21, rfl, hI, hkI20, xI20⟩ := hw
                  have hM : Mem D A ad ns I20 L21 G H := hM
                  have hK := hK.trans hkI20 rfl
                  have hkm : KM I I20 := KPX.back hk56 xI20 hK rfl (fun k g5 g6 => hK 1001 k rfl (by simp [g5, g6]))
                  have kp22 : KPX I I20 := KPX.of hk56 (hkI20.getA 1067 rfl) (hkI20.getA 1069 rfl) (hkI20.getA 1070 rfl) (hkI20.get 1000 74 rfl) (hkI20.get 1000 75 rfl)
                  refine lv_iload hx hb dX10_ahead_110 (lv_at hl 0 rfl) ?_
                  exact m_iret hx hb hr hlocks hM hS (Nat.le_of_ble_eq_true rfl) (Nat.le_of_ble_eq_true rfl) ⟨_, _, rfl, hI, hK, hkm⟩ dX10_ahead_112
                · have hc19 := c19
                  have q19 := q_eq hc19
                  refine lv_aload_n hx hb dX10_ahead_91 rfl (lv_at hl 1 rfl) ?_
                  refine m_geti (1000) 65 hx hb hts hown hE oc10 hM hJ.1 rfl (by decide) rfl tb_1242 dX10_ahead_92 ?_
                  refine lv_goto (tgt := 104) hx hb dX10_ahead_95 (by decide) ?_
                  refine lv_istore (lv' := [(4, .int (Ia56 (1000) 65)), (0, .ref (ad (1000))), (1, .int (a0)), (2, .int (a1)), (3, .int (a2))]) hx hb dX10_ahead_104 hl (by decide) rfl (fun ls hl => ?_)
                  refine lv_aload_n hx hb dX10_ahead_106 rfl (lv_at hl 1 rfl) ?_
                  refine m_callv (m_runV (1000) (As := []) (rest := []) hx hb hml hown hts hE hM hS hA ce_X10_putsBack tb_1810 (V_X10_putsBack_t l D A ad ns Ia56 La56 G hJ hI) rfl rfl ⟨Nat.le_of_ble_eq_true rfl, Nat.le_of_ble_eq_true rfl⟩ hJ.1 rfl rfl (by decide) rfl hl.1 rfl (Nat.le_of_ble_eq_true rfl) dX10_ahead_107 ⟨Nat.le_of_ble_eq_true rfl, Nat.le_of_ble_eq_true rfl⟩) hS (fun u H locs hw hM hS => ?_)
                  obtain ⟨I23, L24, rfl, hI, hkI23, xI23⟩ := hw
                  have hM : Mem D A ad ns I23 L24 G H := hM
                  have hK := hK.trans hkI23 rfl
                  have hkm : KM I I23 := KPX.back hk56 xI23 hK rfl (fun k g5 g6 => hK 1001 k rfl (by simp [g5, g6]))
                  have kp25 : KPX I I23 := KPX.of hk56 (hkI23.getA 1067 rfl) (hkI23.getA 1069 rfl) (hkI23.getA 1070 rfl) (hkI23.get 1000 74 rfl) (hkI23.get 1000 75 rfl)
                  refine lv_iload hx hb dX10_ahead_110 (lv_at hl 0 rfl) ?_
                  exact m_iret hx hb hr hlocks hM hS (Nat.le_of_ble_eq_true rfl) (Nat.le_of_ble_eq_true rfl) ⟨_, _, rfl, hI, hK, hkm⟩ dX10_ahead_112
              · have hc18 := c18
                have q18 := q_eq hc18
                refine lv_aload_n hx hb dX10_ahead_79 rfl (lv_at hl 1 rfl) ?_
                refine m_calli (m_runV (1000) (As := []) (rest := []) hx hb hml hown hts hE hM hS hA ce_X10_met tb_1674 (V_X10_met l D A ad ns Ia56 La56 G hJ hI) rfl rfl ⟨Nat.le_of_ble_eq_true rfl, Nat.le_of_ble_eq_true rfl⟩ hJ.1 rfl rfl (by decide) rfl hl.1 rfl (Nat.le_of_ble_eq_true rfl) dX10_ahead_80 ⟨Nat.le_of_ble_eq_true rfl, Nat.le_of_ble_eq_true rfl⟩) hS (fun r26 u H locs hw hM hS => ?_)
                obtain ⟨rfl, xr26⟩ := hw
                have hM : Mem D A ad ns Ia56 La56 G H := hM
                refine lv_goto (tgt := 104) hx hb dX10_ahead_83 (by decide) ?_
                refine lv_istore (lv' := [(4, .int (r26)), (0, .ref (ad (1000))), (1, .int (a0)), (2, .int (a1)), (3, .int (a2))]) hx hb dX10_ahead_104 hl (by decide) rfl (fun ls hl => ?_)
                refine lv_aload_n hx hb dX10_ahead_106 rfl (lv_at hl 1 rfl) ?_
                refine m_callv (m_runV (1000) (As := []) (rest := []) hx hb hml hown hts hE hM hS hA ce_X10_putsBack tb_1810 (V_X10_putsBack_t l D A ad ns Ia56 La56 G hJ hI) rfl rfl ⟨Nat.le_of_ble_eq_true rfl, Nat.le_of_ble_eq_true rfl⟩ hJ.1 rfl rfl (by decide) rfl hl.1 rfl (Nat.le_of_ble_eq_true rfl) dX10_ahead_107 ⟨Nat.le_of_ble_eq_true rfl, Nat.le_of_ble_eq_true rfl⟩) hS (fun u H locs hw hM hS => ?_)
                obtain ⟨I27, L28, rfl, hI, hkI27, xI27⟩ := hw
                have hM : Mem D A ad ns I27 L28 G H := hM
                have hK := hK.trans hkI27 rfl
                have hkm : KM I I27 := KPX.back hk56 xI27 hK rfl (fun k g5 g6 => hK 1001 k rfl (by simp [g5, g6]))
                have kp29 : KPX I I27 := KPX.of hk56 (hkI27.getA 1067 rfl) (hkI27.getA 1069 rfl) (hkI27.getA 1070 rfl) (hkI27.get 1000 74 rfl) (hkI27.get 1000 75 rfl)
                refine lv_iload hx hb dX10_ahead_110 (lv_at hl 0 rfl) ?_
                exact m_iret hx hb hr hlocks hM hS (Nat.le_of_ble_eq_true rfl) (Nat.le_of_ble_eq_true rfl) ⟨_, _, rfl, hI, hK, hkm⟩ dX10_ahead_112
            · have hc17 := c17
              have q17 := q_nle hc17
              refine lv_aload_n hx hb dX10_ahead_62 rfl (lv_at hl 1 rfl) ?_
              refine lv_iload_n hx hb dX10_ahead_63 rfl (lv_at hl 2 rfl) ?_
              refine m_callv (m_runV (1000) (As := [.int (a0)]) (rest := []) hx hb hml hown hts hE hM hS hA ce_X10_goesDay tb_1613 (V_X10_goesDay l D A ad ns Ia56 La56 G (a0) hJ hI ((hLM (a0).toNatClampNeg (by have ta := tn (i := a0) (by omega); omega)).kp hK rfl) (by first | omega | decide)) rfl rfl ⟨Nat.le_of_ble_eq_true rfl, Nat.le_of_ble_eq_true rfl⟩ hJ.1 rfl rfl (by decide) rfl hl.1 rfl (Nat.le_of_ble_eq_true rfl) dX10_ahead_64 ⟨Nat.le_of_ble_eq_true rfl, Nat.le_of_ble_eq_true rfl⟩) hS (fun u H locs hw hM hS => ?_)
              obtain ⟨I30, L31, rfl, hI, hkI30⟩ := hw
              have hM : Mem D A ad ns I30 L31 G H := hM
              have hK := hK.trans hkI30 rfl
              have kp32 : KPX I I30 := KPX.of hk56 (hkI30.getA 1067 rfl) (hkI30.getA 1069 rfl) (hkI30.getA 1070 rfl) (hkI30.get 1000 74 rfl) (hkI30.get 1000 75 rfl)
              obtain ⟨v33, ev33⟩ : ∃ z : Int32, z = x4_56 + Int32.ofInt (1) := ⟨_, rfl⟩
              have tv33 := a_inc ev33 (by decide) (by omega) (by omega)
              refine lv_iinc (v := v33) (lv' := [(4, .int (v33)), (0, .ref (ad (1000))), (1, .int (a0)), (2, .int (a1)), (3, .int (a2))]) hx hb dX10_ahead_67 hl (k := 0) rfl ev33.symm (by decide) rfl (fun ls hl => ?_)
              refine lv_goto (tgt := 56) hx hb dX10_ahead_70 (by decide) ?_
              exact ih56 (v33) I30 L31 _ _ ls hI hK (by first | omega | decide) kp32 (by omega) hM hS (lv_sub hl [0, 1, 2, 3, 4] rfl)
        exact loop56 (_ + 1) (0) (u2 I13 (1000) 65 (0)) L14 _ _ ls hI hK (by first | omega | decide) kp16 (Nat.lt_succ_self _) hM hS (lv_sub hl [0, 1, 2, 3, 4] rfl)
      · have hc12 := c12
        have q12 := xr11.f hc12
        refine lv_bipush (v := (-3)) hx hb dX10_ahead_41 (by decide) ?_
        exact m_iret hx hb hr hlocks hM hS (Nat.le_of_ble_eq_true rfl) (Nat.le_of_ble_eq_true rfl) ⟨_, _, rfl, hI, hK, EqV.rf⟩ dX10_ahead_43
