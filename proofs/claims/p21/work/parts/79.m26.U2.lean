def KPX (I J : MI) : Prop := (∀ j : Nat, j < 24 → J 1067 j = I 1009 j) ∧ (∀ j : Nat, j < 24 → J 1069 j = I 1014 j) ∧ (∀ j : Nat, j < 8 → J 1070 j = I 1023 j) ∧ J 1000 74 = I 1001 6 ∧ J 1000 75 = I 1001 5
set_option maxHeartbeats 4000000 in
set_option maxRecDepth 20000 in
theorem V_X10_keeps_t (l : Launch) (D : va_G) (A : Nat → Prop) (ad : Nat → Nat) (ns : List Nat) (I : MI) (L : ML) (G : MG) (hJ : SGM ns G) (hI : INV I) : Met l yX10_keeps (wd yX10_keeps cX10_keeps 1 none) ({ frames := 1, cells := 0, slots := 0, locals := 22 }) (va_Pc [.ref (ad (1000))] (PM D A ad ns I L G)) (va_Qv (fun u => ∃ I2 L2, u = (ad, ns, I2, L2, G) ∧ INV I2 ∧ Kp [(1067, 1068), (1069, 1071)] [(1000, 74), (1000, 75)] I I2 ∧ (KPX I I2)) (BM D A) A) 0 0 A := by
  refine m_ofW (by decide) (Nat.le_of_ble_eq_true rfl) ?_
  intro p e s m below meth c ls args hC hE hM hA hS hl
  obtain ⟨hx, hb, hml, hown, hts, hr, hlocks, hin⟩ := hC
  have k0 : (0 : Int32).toInt = 0 := by decide
  have k5 : (5 : Int32).toInt = 5 := by decide
  have k6 : (6 : Int32).toInt = 6 := by decide
  have hK : Kp [(1067, 1068), (1069, 1071)] [(1000, 74), (1000, 75)] I I := Kp.rf
  have hl : lv_has ls 1 [(0, .ref (ad (1000)))] := hl
  refine lv_aload_n hx hb dX10_keeps_0 rfl (lv_at hl 0 rfl) ?_
  refine m_getr (1000) 9 (1009) hx hb hts hown hE oc10 hM hJ.1 rfl (by decide) rfl (hJ.2 9 (by decide)).2 (by decide) tb_1186 dX10_keeps_1 ?_
  refine lv_aload_n hx hb dX10_keeps_4 rfl (lv_at hl 0 rfl) ?_
  refine m_getr (1000) 67 (1067) hx hb hts hown hE oc10 hM hJ.1 rfl (by decide) rfl (hJ.2 67 (by decide)).2 (by decide) tb_1244 dX10_keeps_5 ?_
  refine m_callv (m_runS (As := [.ref (ad (1009)), .ref (ad (1067))]) (rest := []) hx hb hml hown hts hE hM hS hA ce_X10_copy tb_1723 (V_X10_copy_1009_1067_t l D A ad ns I L G hJ hI) rfl rfl ⟨Nat.le_of_ble_eq_true rfl, Nat.le_of_ble_eq_true rfl⟩  rfl hl.1 rfl (Nat.le_of_ble_eq_true rfl) dX10_keeps_8 ⟨Nat.le_of_ble_eq_true rfl, Nat.le_of_ble_eq_true rfl⟩) hS (fun u H locs hw hM hS => ?_)
  obtain ⟨I1, L2, rfl, hI, hkI1, xI1⟩ := hw
  have hM : Mem D A ad ns I1 L2 G H := hM
  have hK := hK.trans hkI1 rfl
  refine lv_aload_n hx hb dX10_keeps_11 rfl (lv_at hl 0 rfl) ?_
  refine m_getr (1000) 14 (1014) hx hb hts hown hE oc10 hM hJ.1 rfl (by decide) rfl (hJ.2 14 (by decide)).2 (by decide) tb_1191 dX10_keeps_12 ?_
  refine lv_aload_n hx hb dX10_keeps_15 rfl (lv_at hl 0 rfl) ?_
  refine m_getr (1000) 69 (1069) hx hb hts hown hE oc10 hM hJ.1 rfl (by decide) rfl (hJ.2 69 (by decide)).2 (by decide) tb_1246 dX10_keeps_16 ?_
  refine m_callv (m_runS (As := [.ref (ad (1014)), .ref (ad (1069))]) (rest := []) hx hb hml hown hts hE hM hS hA ce_X10_copy tb_1723 (V_X10_copy_1014_1069_t l D A ad ns I1 L2 G hJ hI) rfl rfl ⟨Nat.le_of_ble_eq_true rfl, Nat.le_of_ble_eq_true rfl⟩  rfl hl.1 rfl (Nat.le_of_ble_eq_true rfl) dX10_keeps_19 ⟨Nat.le_of_ble_eq_true rfl, Nat.le_of_ble_eq_true rfl⟩) hS (fun u H locs hw hM hS => ?_)
  obtain ⟨I3, L4, rfl, hI, hkI3, xI3⟩ := hw
  have hM : Mem D A ad ns I3 L4 G H := hM
  have hK := hK.trans hkI3 rfl
  refine lv_aload_n hx hb dX10_keeps_22 rfl (lv_at hl 0 rfl) ?_
  refine m_getr (1000) 23 (1023) hx hb hts hown hE oc10 hM hJ.1 rfl (by decide) rfl (hJ.2 23 (by decide)).2 (by decide) tb_1200 dX10_keeps_23 ?_
  refine lv_aload_n hx hb dX10_keeps_26 rfl (lv_at hl 0 rfl) ?_
  refine m_getr (1000) 70 (1070) hx hb hts hown hE oc10 hM hJ.1 rfl (by decide) rfl (hJ.2 70 (by decide)).2 (by decide) tb_1247 dX10_keeps_27 ?_
  refine m_callv (m_runS (As := [.ref (ad (1023)), .ref (ad (1070))]) (rest := []) hx hb hml hown hts hE hM hS hA ce_X10_copy tb_1723 (V_X10_copy_1023_1070_t l D A ad ns I3 L4 G hJ hI) rfl rfl ⟨Nat.le_of_ble_eq_true rfl, Nat.le_of_ble_eq_true rfl⟩  rfl hl.1 rfl (Nat.le_of_ble_eq_true rfl) dX10_keeps_30 ⟨Nat.le_of_ble_eq_true rfl, Nat.le_of_ble_eq_true rfl⟩) hS (fun u H locs hw hM hS => ?_)
  obtain ⟨I5, L6, rfl, hI, hkI5, xI5⟩ := hw
  have hM : Mem D A ad ns I5 L6 G H := hM
  have hK := hK.trans hkI5 rfl
  refine lv_aload_n hx hb dX10_keeps_33 rfl (lv_at hl 0 rfl) ?_
  refine lv_aload_n hx hb dX10_keeps_34 rfl (lv_at hl 0 rfl) ?_
  refine m_getr (1000) 1 (1001) hx hb hts hown hE oc10 hM hJ.1 rfl (by decide) rfl (hJ.2 1 (by decide)).2 (by decide) tb_1178 dX10_keeps_35 ?_
  refine lv_bipush (v := (6)) hx hb dX10_keeps_38 (by decide) ?_
  refine m_iald (1001) hx hb hE hM (hJ.2 1 (by decide)).1 rfl (vp_in_iff.mpr (by decide)) dX10_keeps_40 ?_
  rw [show (6 : Int32).toNatClampNeg = 6 from rfl]
  have z7 : I5 (1001) 6 = I (1001) 6 := (((hkI5.get (1001) 6 rfl)).trans (hkI3.get (1001) 6 rfl)).trans (hkI1.get (1001) 6 rfl)
  rw [z7]
  refine m_puti (1000) 74 hx hb hts hown hE oc10 hM hS hJ.1 rfl (by decide) rfl rfl rfl rfl tb_1251 dX10_keeps_41 (fun H locs I8 eI8 hM hS => ?_)
  subst eI8
  have hI := hI.putF (n := 1000) (k := 74) (v := I (1001) 6) rfl
  have hK := hK.put (n := 1000) (k := 74) (v := I (1001) 6) (by first | rfl | simp [inR])
  refine lv_aload_n hx hb dX10_keeps_44 rfl (lv_at hl 0 rfl) ?_
  refine lv_aload_n hx hb dX10_keeps_45 rfl (lv_at hl 0 rfl) ?_
  refine m_getr (1000) 1 (1001) hx hb hts hown hE oc10 hM hJ.1 rfl (by decide) rfl (hJ.2 1 (by decide)).2 (by decide) tb_1178 dX10_keeps_46 ?_
  refine lv_iconst (v := (5)) hx hb dX10_keeps_49 (by decide) ?_
  refine m_iald (1001) hx hb hE hM (hJ.2 1 (by decide)).1 rfl (vp_in_iff.mpr (by decide)) dX10_keeps_50 ?_
  rw [show (5 : Int32).toNatClampNeg = 5 from rfl]
  have g9 := hI.get (1001) 5 (lo := 0) (hi := 11) rfl
  have z10 : (u2 I5 (1000) 74 (I (1001) 6)) (1001) 5 = I (1001) 5 := ((((show (u2 I5 (1000) 74 (I (1001) 6)) (1001) 5 = I5 (1001) 5 from by simp [u2_v])).trans (hkI5.get (1001) 5 rfl)).trans (hkI3.get (1001) 5 rfl)).trans (hkI1.get (1001) 5 rfl)
  rw [z10] at g9 ⊢
  refine m_puti (1000) 75 hx hb hts hown hE oc10 hM hS hJ.1 rfl (by decide) rfl rfl rfl rfl tb_1252 dX10_keeps_51 (fun H locs I11 eI11 hM hS => ?_)
  subst eI11
  have hI := hI.put (n := 1000) (k := 75) (v := I (1001) 5) (lo := 0) (hi := 11) rfl (by first | omega | decide)
  have hK := hK.put (n := 1000) (k := 75) (v := I (1001) 5) (by first | rfl | simp [inR])
  exact m_vret hx hb hr hlocks hM hS (Nat.le_of_ble_eq_true rfl) (Nat.le_of_ble_eq_true rfl) ⟨_, _, rfl, hI, hK, ⟨(fun j hj => (congrFun ((((show (u2 (u2 I5 (1000) 74 (I (1001) 6)) (1000) 75 (I (1001) 5)) 1067 = I5 1067 from by funext zz; simp [u2_v])).trans (hkI5.getA 1067 rfl)).trans (hkI3.getA 1067 rfl)) j).trans ((xI1 j hj).trans (congrFun (rfl) j))), (fun j hj => (congrFun (((show (u2 (u2 I5 (1000) 74 (I (1001) 6)) (1000) 75 (I (1001) 5)) 1069 = I5 1069 from by funext zz; simp [u2_v])).trans (hkI5.getA 1069 rfl)) j).trans ((xI3 j hj).trans (congrFun ((hkI1.getA 1014 rfl)) j))), (fun j hj => (congrFun ((show (u2 (u2 I5 (1000) 74 (I (1001) 6)) (1000) 75 (I (1001) 5)) 1070 = I5 1070 from by funext zz; simp [u2_v])) j).trans ((xI5 j hj).trans (congrFun (((hkI3.getA 1023 rfl)).trans (hkI1.getA 1023 rfl)) j))), (show (u2 (u2 I5 (1000) 74 (I (1001) 6)) (1000) 75 (I (1001) 5)) (1000) 74 = I (1001) 6 from by simp [u2_v]), (show (u2 (u2 I5 (1000) 74 (I (1001) 6)) (1000) 75 (I (1001) 5)) (1000) 75 = I (1001) 5 from by simp [u2_v])⟩⟩ dX10_keeps_54
def PBX (J K : MI) : Prop := (∀ j : Nat, j < 24 → K 1009 j = J 1067 j) ∧ (∀ j : Nat, j < 24 → K 1014 j = J 1069 j) ∧ (∀ j : Nat, j < 8 → K 1023 j = J 1070 j) ∧ K 1001 6 = J 1000 74 ∧ K 1001 5 = J 1000 75
set_option maxHeartbeats 4000000 in
set_option maxRecDepth 20000 in
theorem V_X10_putsBack_t (l : Launch) (D : va_G) (A : Nat → Prop) (ad : Nat → Nat) (ns : List Nat) (I : MI) (L : ML) (G : MG) (hJ : SGM ns G) (hI : INV I) : Met l yX10_putsBack (wd yX10_putsBack cX10_putsBack 1 none) ({ frames := 1, cells := 0, slots := 0, locals := 22 }) (va_Pc [.ref (ad (1000))] (PM D A ad ns I L G)) (va_Qv (fun u => ∃ I2 L2, u = (ad, ns, I2, L2, G) ∧ INV I2 ∧ Kp [(1009, 1010), (1014, 1015), (1023, 1024)] [(1001, 5), (1001, 6)] I I2 ∧ (PBX I I2)) (BM D A) A) 0 0 A := by
  refine m_ofW (by decide) (Nat.le_of_ble_eq_true rfl) ?_
  intro p e s m below meth c ls args hC hE hM hA hS hl
  obtain ⟨hx, hb, hml, hown, hts, hr, hlocks, hin⟩ := hC
  have k0 : (0 : Int32).toInt = 0 := by decide
  have k5 : (5 : Int32).toInt = 5 := by decide
  have k6 : (6 : Int32).toInt = 6 := by decide
  have hK : Kp [(1009, 1010), (1014, 1015), (1023, 1024)] [(1001, 5), (1001, 6)] I I := Kp.rf
  have hl : lv_has ls 1 [(0, .ref (ad (1000)))] := hl
  refine lv_aload_n hx hb dX10_putsBack_0 rfl (lv_at hl 0 rfl) ?_
  refine m_getr (1000) 67 (1067) hx hb hts hown hE oc10 hM hJ.1 rfl (by decide) rfl (hJ.2 67 (by decide)).2 (by decide) tb_1244 dX10_putsBack_1 ?_
  refine lv_aload_n hx hb dX10_putsBack_4 rfl (lv_at hl 0 rfl) ?_
  refine m_getr (1000) 9 (1009) hx hb hts hown hE oc10 hM hJ.1 rfl (by decide) rfl (hJ.2 9 (by decide)).2 (by decide) tb_1186 dX10_putsBack_5 ?_
  refine m_callv (m_runS (As := [.ref (ad (1067)), .ref (ad (1009))]) (rest := []) hx hb hml hown hts hE hM hS hA ce_X10_copy tb_1723 (V_X10_copy_1067_1009_t l D A ad ns I L G hJ hI) rfl rfl ⟨Nat.le_of_ble_eq_true rfl, Nat.le_of_ble_eq_true rfl⟩  rfl hl.1 rfl (Nat.le_of_ble_eq_true rfl) dX10_putsBack_8 ⟨Nat.le_of_ble_eq_true rfl, Nat.le_of_ble_eq_true rfl⟩) hS (fun u H locs hw hM hS => ?_)
  obtain ⟨I1, L2, rfl, hI, hkI1, xI1⟩ := hw
  have hM : Mem D A ad ns I1 L2 G H := hM
  have hK := hK.trans hkI1 rfl
  refine lv_aload_n hx hb dX10_putsBack_11 rfl (lv_at hl 0 rfl) ?_
  refine m_getr (1000) 69 (1069) hx hb hts hown hE oc10 hM hJ.1 rfl (by decide) rfl (hJ.2 69 (by decide)).2 (by decide) tb_1246 dX10_putsBack_12 ?_
  refine lv_aload_n hx hb dX10_putsBack_15 rfl (lv_at hl 0 rfl) ?_
  refine m_getr (1000) 14 (1014) hx hb hts hown hE oc10 hM hJ.1 rfl (by decide) rfl (hJ.2 14 (by decide)).2 (by decide) tb_1191 dX10_putsBack_16 ?_
  refine m_callv (m_runS (As := [.ref (ad (1069)), .ref (ad (1014))]) (rest := []) hx hb hml hown hts hE hM hS hA ce_X10_copy tb_1723 (V_X10_copy_1069_1014_t l D A ad ns I1 L2 G hJ hI) rfl rfl ⟨Nat.le_of_ble_eq_true rfl, Nat.le_of_ble_eq_true rfl⟩  rfl hl.1 rfl (Nat.le_of_ble_eq_true rfl) dX10_putsBack_19 ⟨Nat.le_of_ble_eq_true rfl, Nat.le_of_ble_eq_true rfl⟩) hS (fun u H locs hw hM hS => ?_)
  obtain ⟨I3, L4, rfl, hI, hkI3, xI3⟩ := hw
  have hM : Mem D A ad ns I3 L4 G H := hM
  have hK := hK.trans hkI3 rfl
  refine lv_aload_n hx hb dX10_putsBack_22 rfl (lv_at hl 0 rfl) ?_
  refine m_getr (1000) 70 (1070) hx hb hts hown hE oc10 hM hJ.1 rfl (by decide) rfl (hJ.2 70 (by decide)).2 (by decide) tb_1247 dX10_putsBack_23 ?_
  refine lv_aload_n hx hb dX10_putsBack_26 rfl (lv_at hl 0 rfl) ?_
  refine m_getr (1000) 23 (1023) hx hb hts hown hE oc10 hM hJ.1 rfl (by decide) rfl (hJ.2 23 (by decide)).2 (by decide) tb_1200 dX10_putsBack_27 ?_
  refine m_callv (m_runS (As := [.ref (ad (1070)), .ref (ad (1023))]) (rest := []) hx hb hml hown hts hE hM hS hA ce_X10_copy tb_1723 (V_X10_copy_1070_1023_t l D A ad ns I3 L4 G hJ hI) rfl rfl ⟨Nat.le_of_ble_eq_true rfl, Nat.le_of_ble_eq_true rfl⟩  rfl hl.1 rfl (Nat.le_of_ble_eq_true rfl) dX10_putsBack_30 ⟨Nat.le_of_ble_eq_true rfl, Nat.le_of_ble_eq_true rfl⟩) hS (fun u H locs hw hM hS => ?_)
  obtain ⟨I5, L6, rfl, hI, hkI5, xI5⟩ := hw
  have hM : Mem D A ad ns I5 L6 G H := hM
  have hK := hK.trans hkI5 rfl
  refine lv_aload_n hx hb dX10_putsBack_33 rfl (lv_at hl 0 rfl) ?_
  refine m_getr (1000) 1 (1001) hx hb hts hown hE oc10 hM hJ.1 rfl (by decide) rfl (hJ.2 1 (by decide)).2 (by decide) tb_1178 dX10_putsBack_34 ?_
  refine lv_bipush (v := (6)) hx hb dX10_putsBack_37 (by decide) ?_
  refine lv_aload_n hx hb dX10_putsBack_39 rfl (lv_at hl 0 rfl) ?_
  refine m_geti (1000) 74 hx hb hts hown hE oc10 hM hJ.1 rfl (by decide) rfl tb_1251 dX10_putsBack_40 ?_
  have z7 : I5 (1000) 74 = I (1000) 74 := (((hkI5.get (1000) 74 rfl)).trans (hkI3.get (1000) 74 rfl)).trans (hkI1.get (1000) 74 rfl)
  rw [z7]
  refine m_iast (1001) hx hb hE hM hS (hJ.2 1 (by decide)).1 rfl (vp_in_iff.mpr (by decide)) dX10_putsBack_43 (fun H locs I8 eI8 hM hS => ?_)
  rw [show (6 : Int32).toNatClampNeg = 6 from rfl] at eI8
  subst eI8
  have hI := hI.putF (n := 1001) (k := 6) (v := I (1000) 74) rfl
  have hK := hK.put (n := 1001) (k := 6) (v := I (1000) 74) (by first | rfl | simp [inR])
  refine lv_aload_n hx hb dX10_putsBack_44 rfl (lv_at hl 0 rfl) ?_
  refine m_getr (1000) 1 (1001) hx hb hts hown hE oc10 hM hJ.1 rfl (by decide) rfl (hJ.2 1 (by decide)).2 (by decide) tb_1178 dX10_putsBack_45 ?_
  refine lv_iconst (v := (5)) hx hb dX10_putsBack_48 (by decide) ?_
  refine lv_aload_n hx hb dX10_putsBack_49 rfl (lv_at hl 0 rfl) ?_
  refine m_geti (1000) 75 hx hb hts hown hE oc10 hM hJ.1 rfl (by decide) rfl tb_1252 dX10_putsBack_50 ?_
  have g9 := hI.get (1000) 75 (lo := 0) (hi := 11) rfl
  have z10 : (u2 I5 (1001) 6 (I (1000) 74)) (1000) 75 = I (1000) 75 := ((((show (u2 I5 (1001) 6 (I (1000) 74)) (1000) 75 = I5 (1000) 75 from by simp [u2_v])).trans (hkI5.get (1000) 75 rfl)).trans (hkI3.get (1000) 75 rfl)).trans (hkI1.get (1000) 75 rfl)
  rw [z10] at g9 ⊢
  refine m_iast (1001) hx hb hE hM hS (hJ.2 1 (by decide)).1 rfl (vp_in_iff.mpr (by decide)) dX10_putsBack_53 (fun H locs I11 eI11 hM hS => ?_)
  rw [show (5 : Int32).toNatClampNeg = 5 from rfl] at eI11
  subst eI11
  have hI := hI.put (n := 1001) (k := 5) (v := I (1000) 75) (lo := 0) (hi := 11) rfl (by first | omega | decide)
  have hK := hK.put (n := 1001) (k := 5) (v := I (1000) 75) (by first | rfl | simp [inR])
  exact m_vret hx hb hr hlocks hM hS (Nat.le_of_ble_eq_true rfl) (Nat.le_of_ble_eq_true rfl) ⟨_, _, rfl, hI, hK, ⟨(fun j hj => (congrFun ((((show (u2 (u2 I5 (1001) 6 (I (1000) 74)) (1001) 5 (I (1000) 75)) 1009 = I5 1009 from by funext zz; simp [u2_v])).trans (hkI5.getA 1009 rfl)).trans (hkI3.getA 1009 rfl)) j).trans ((xI1 j hj).trans (congrFun (rfl) j))), (fun j hj => (congrFun (((show (u2 (u2 I5 (1001) 6 (I (1000) 74)) (1001) 5 (I (1000) 75)) 1014 = I5 1014 from by funext zz; simp [u2_v])).trans (hkI5.getA 1014 rfl)) j).trans ((xI3 j hj).trans (congrFun ((hkI1.getA 1069 rfl)) j))), (fun j hj => (congrFun ((show (u2 (u2 I5 (1001) 6 (I (1000) 74)) (1001) 5 (I (1000) 75)) 1023 = I5 1023 from by funext zz; simp [u2_v])) j).trans ((xI5 j hj).trans (congrFun (((hkI3.getA 1070 rfl)).trans (hkI1.getA 1070 rfl)) j))), (show (u2 (u2 I5 (1001) 6 (I (1000) 74)) (1001) 5 (I (1000) 75)) (1001) 6 = I (1000) 74 from by simp [u2_v]), (show (u2 (u2 I5 (1001) 6 (I (1000) 74)) (1001) 5 (I (1000) 75)) (1001) 5 = I (1000) 75 from by simp [u2_v])⟩⟩ dX10_putsBack_54
theorem KPX.of {I J K : MI} (h : KPX I J) (h1 : K 1067 = J 1067) (h2 : K 1069 = J 1069) (h3 : K 1070 = J 1070) (h4 : K 1000 74 = J 1000 74) (h5 : K 1000 75 = J 1000 75) : KPX I K := by
  unfold KPX
  rw [h1, h2, h3, h4, h5]
  exact h
theorem KPX.back {R P : List (Nat × Nat)} {I J K : MI} (h : KPX I J) (hb : PBX J K) (hK : Kp R P I K) (hc : apx [1009, 1014, 1023, 1001] R P = true) (hs : ∀ k, k ≠ 5 → k ≠ 6 → K 1001 k = I 1001 k) : KM I K := KM.of [1009, 1014, 1023, 1001] hK hc (fun n hn k hk => by
  simp only [List.mem_cons, List.not_mem_nil, or_false] at hn
  rcases hn with rfl | rfl | rfl | rfl
  · rw [hb.1 k hk]; exact h.1 k hk
  · rw [hb.2.1 k hk]; exact h.2.1 k hk
  · rw [hb.2.2.1 k hk]; exact h.2.2.1 k hk
  · by_cases g5 : k = 5
    · rw [g5, hb.2.2.2.2]; exact h.2.2.2.2
    by_cases g6 : k = 6
    · rw [g6, hb.2.2.2.1]; exact h.2.2.2.1
    exact hs k g5 g6)
