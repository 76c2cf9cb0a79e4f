set_option maxHeartbeats 4000000 in
set_option maxRecDepth 20000 in
theorem V_X8_copyFrom_120_100_f (l : Launch) (D : va_G) (A : Nat → Prop) (ad : Nat → Nat) (ns : List Nat) (I : MI) (L : ML) (G : MG) (hG : SGC ns G) (hI : INV I) (hT : TOK ns G 120) : Met l yX8_copyFrom (wd yX8_copyFrom cX8_copyFrom 2 none) ({ frames := 1, cells := 0, slots := 0, locals := 40 }) (va_Pc [.ref (ad (120)), .ref (ad (100))] (PM D A ad ns I L G)) (va_Qv (fun u => ∃ I2 L2, u = (ad, ns, I2, L2, G) ∧ INV I2 ∧ Kp [(121, 129)] [(120, 0), (120, 1), (120, 2), (120, 3), (120, 4), (120, 5), (120, 6), (120, 7), (120, 8), (120, 9)] I I2 ∧ (CPF 120 100 I I2)) (BM D A) A) 0 0 A := by
  refine m_ofW (by decide) (Nat.le_of_ble_eq_true rfl) ?_
  intro p e s m below meth c ls args hC hE hM hA hS hl
  obtain ⟨hx, hb, hml, hown, hts, hr, hlocks, hin⟩ := hC
  have k0 : (0 : Int32).toInt = 0 := by decide
  have k56 : (56 : Int32).toInt = 56 := by decide
  have k240 : (240 : Int32).toInt = 240 := by decide
  have k288 : (288 : Int32).toInt = 288 := by decide
  have k576 : (576 : Int32).toInt = 576 := by decide
  have hK : Kp [(121, 129)] [(120, 0), (120, 1), (120, 2), (120, 3), (120, 4), (120, 5), (120, 6), (120, 7), (120, 8), (120, 9)] I I := Kp.rf
  have hl : lv_has ls 2 [(0, .ref (ad (120))), (1, .ref (ad (100)))] := hl
  refine lv_aload_n hx hb dX8_copyFrom_0 rfl (lv_at hl 0 rfl) ?_
  refine lv_aload_n hx hb dX8_copyFrom_1 rfl (lv_at hl 1 rfl) ?_
  refine m_geti (100) 0 hx hb hts hown hE oc8 hM (hG.1 100 (by decide)) rfl (by decide) rfl tb_34 dX8_copyFrom_2 ?_
  have g1 := hI.get (100) 0 (lo := 0) (hi := 24) rfl
  refine m_puti (120) 0 hx hb hts hown hE oc8 hM hS (hT.2.1 0 (by decide)) rfl (by decide) rfl rfl rfl rfl tb_34 dX8_copyFrom_5 (fun H locs I2 eI2 hM hS => ?_)
  subst eI2
  have hI := hI.put (n := 120) (k := 0) (v := I (100) 0) (lo := 0) (hi := 24) rfl (by first | omega | decide)
  have hK := hK.put (n := 120) (k := 0) (v := I (100) 0) (by first | rfl | simp [inR])
  refine lv_aload_n hx hb dX8_copyFrom_8 rfl (lv_at hl 0 rfl) ?_
  refine lv_aload_n hx hb dX8_copyFrom_9 rfl (lv_at hl 1 rfl) ?_
  refine m_geti (100) 1 hx hb hts hown hE oc8 hM (hG.1 100 (by decide)) rfl (by decide) rfl tb_37 dX8_copyFrom_10 ?_
  have g3 := hI.get (100) 1 (lo := 0) (hi := 24) rfl
  have z4 : (u2 I (120) 0 (I (100) 0)) (100) 1 = I (100) 1 := (show (u2 I (120) 0 (I (100) 0)) (100) 1 = I (100) 1 from by simp [u2_v])
  rw [z4] at g3 ⊢
  refine m_puti (120) 1 hx hb hts hown hE oc8 hM hS (hT.2.1 0 (by decide)) rfl (by decide) rfl rfl rfl rfl tb_37 dX8_copyFrom_13 (fun H locs I5 eI5 hM hS => ?_)
  subst eI5
  have hI := hI.put (n := 120) (k := 1) (v := I (100) 1) (lo := 0) (hi := 24) rfl (by first | omega | decide)
  have hK := hK.put (n := 120) (k := 1) (v := I (100) 1) (by first | rfl | simp [inR])
  refine lv_aload_n hx hb dX8_copyFrom_16 rfl (lv_at hl 0 rfl) ?_
  refine lv_aload_n hx hb dX8_copyFrom_17 rfl (lv_at hl 1 rfl) ?_
  refine m_geti (100) 2 hx hb hts hown hE oc8 hM (hG.1 100 (by decide)) rfl (by decide) rfl tb_41 dX8_copyFrom_18 ?_
  have g6 := hI.get (100) 2 (lo := 0) (hi := 23) rfl
  have z7 : (u2 (u2 I (120) 0 (I (100) 0)) (120) 1 (I (100) 1)) (100) 2 = I (100) 2 := (show (u2 (u2 I (120) 0 (I (100) 0)) (120) 1 (I (100) 1)) (100) 2 = I (100) 2 from by simp [u2_v])
  rw [z7] at g6 ⊢
  refine m_puti (120) 2 hx hb hts hown hE oc8 hM hS (hT.2.1 0 (by decide)) rfl (by decide) rfl rfl rfl rfl tb_41 dX8_copyFrom_21 (fun H locs I8 eI8 hM hS => ?_)
  subst eI8
  have hI := hI.put (n := 120) (k := 2) (v := I (100) 2) (lo := 0) (hi := 23) rfl (by first | omega | decide)
  have hK := hK.put (n := 120) (k := 2) (v := I (100) 2) (by first | rfl | simp [inR])
  refine lv_aload_n hx hb dX8_copyFrom_24 rfl (lv_at hl 0 rfl) ?_
  refine lv_aload_n hx hb dX8_copyFrom_25 rfl (lv_at hl 1 rfl) ?_
  refine m_geti (100) 3 hx hb hts hown hE oc8 hM (hG.1 100 (by decide)) rfl (by decide) rfl tb_45 dX8_copyFrom_26 ?_
  have g9 := hI.get (100) 3 (lo := 0) (hi := 23) rfl
  have z10 : (u2 (u2 (u2 I (120) 0 (I (100) 0)) (120) 1 (I (100) 1)) (120) 2 (I (100) 2)) (100) 3 = I (100) 3 := (show (u2 (u2 (u2 I (120) 0 (I (100) 0)) (120) 1 (I (100) 1)) (120) 2 (I (100) 2)) (100) 3 = I (100) 3 from by simp [u2_v])
  rw [z10] at g9 ⊢
  refine m_puti (120) 3 hx hb hts hown hE oc8 hM hS (hT.2.1 0 (by decide)) rfl (by decide) rfl rfl rfl rfl tb_45 dX8_copyFrom_29 (fun H locs I11 eI11 hM hS => ?_)
  subst eI11
  have hI := hI.put (n := 120) (k := 3) (v := I (100) 3) (lo := 0) (hi := 23) rfl (by first | omega | decide)
  have hK := hK.put (n := 120) (k := 3) (v := I (100) 3) (by first | rfl | simp [inR])
  refine lv_aload_n hx hb dX8_copyFrom_32 rfl (lv_at hl 0 rfl) ?_
  refine lv_aload_n hx hb dX8_copyFrom_33 rfl (lv_at hl 1 rfl) ?_
  refine m_geti (100) 4 hx hb hts hown hE oc8 hM (hG.1 100 (by decide)) rfl (by decide) rfl tb_48 dX8_copyFrom_34 ?_
  have z12 : (u2 (u2 (u2 (u2 I (120) 0 (I (100) 0)) (120) 1 (I (100) 1)) (120) 2 (I (100) 2)) (120) 3 (I (100) 3)) (100) 4 = I (100) 4 := (show (u2 (u2 (u2 (u2 I (120) 0 (I (100) 0)) (120) 1 (I (100) 1)) (120) 2 (I (100) 2)) (120) 3 (I (100) 3)) (100) 4 = I (100) 4 from by simp [u2_v])
  rw [z12]
  refine m_puti (120) 4 hx hb hts hown hE oc8 hM hS (hT.2.1 0 (by decide)) rfl (by decide) rfl rfl rfl rfl tb_48 dX8_copyFrom_37 (fun H locs I13 eI13 hM hS => ?_)
  subst eI13
  have hI := hI.putF (n := 120) (k := 4) (v := I (100) 4) rfl
  have hK := hK.put (n := 120) (k := 4) (v := I (100) 4) (by first | rfl | simp [inR])
  refine lv_aload_n hx hb dX8_copyFrom_40 rfl (lv_at hl 0 rfl) ?_
  refine lv_aload_n hx hb dX8_copyFrom_41 rfl (lv_at hl 1 rfl) ?_
  refine m_geti (100) 5 hx hb hts hown hE oc8 hM (hG.1 100 (by decide)) rfl (by decide) rfl tb_51 dX8_copyFrom_42 ?_
  have g14 := hI.get (100) 5 (lo := 0) (hi := 11) rfl
  have z15 : (u2 (u2 (u2 (u2 (u2 I (120) 0 (I (100) 0)) (120) 1 (I (100) 1)) (120) 2 (I (100) 2)) (120) 3 (I (100) 3)) (120) 4 (I (100) 4)) (100) 5 = I (100) 5 := (show (u2 (u2 (u2 (u2 (u2 I (120) 0 (I (100) 0)) (120) 1 (I (100) 1)) (120) 2 (I (100) 2)) (120) 3 (I (100) 3)) (120) 4 (I (100) 4)) (100) 5 = I (100) 5 from by simp [u2_v])
  rw [z15] at g14 ⊢
  refine m_puti (120) 5 hx hb hts hown hE oc8 hM hS (hT.2.1 0 (by decide)) rfl (by decide) rfl rfl rfl rfl tb_51 dX8_copyFrom_45 (fun H locs I16 eI16 hM hS => ?_)
  subst eI16
  have hI := hI.put (n := 120) (k := 5) (v := I (100) 5) (lo := 0) (hi := 11) rfl (by first | omega | decide)
  have hK := hK.put (n := 120) (k := 5) (v := I (100) 5) (by first | rfl | simp [inR])
  refine lv_aload_n hx hb dX8_copyFrom_48 rfl (lv_at hl 0 rfl) ?_
  refine lv_aload_n hx hb dX8_copyFrom_49 rfl (lv_at hl 1 rfl) ?_
  refine m_geti (100) 6 hx hb hts hown hE oc8 hM (hG.1 100 (by decide)) rfl (by decide) rfl tb_54 dX8_copyFrom_50 ?_
  have z17 : (u2 (u2 (u2 (u2 (u2 (u2 I (120) 0 (I (100) 0)) (120) 1 (I (100) 1)) (120) 2 (I (100) 2)) (120) 3 (I (100) 3)) (120) 4 (I (100) 4)) (120) 5 (I (100) 5)) (100) 6 = I (100) 6 := (show (u2 (u2 (u2 (u2 (u2 (u2 I (120) 0 (I (100) 0)) (120) 1 (I (100) 1)) (120) 2 (I (100) 2)) (120) 3 (I (100) 3)) (120) 4 (I (100) 4)) (120) 5 (I (100) 5)) (100) 6 = I (100) 6 from by simp [u2_v])
  rw [z17]
  refine m_puti (120) 6 hx hb hts hown hE oc8 hM hS (hT.2.1 0 (by decide)) rfl (by decide) rfl rfl rfl rfl tb_54 dX8_copyFrom_53 (fun H locs I18 eI18 hM hS => ?_)
  subst eI18
  have hI := hI.putF (n := 120) (k := 6) (v := I (100) 6) rfl
  have hK := hK.put (n := 120) (k := 6) (v := I (100) 6) (by first | rfl | simp [inR])
  refine lv_aload_n hx hb dX8_copyFrom_56 rfl (lv_at hl 0 rfl) ?_
  refine lv_aload_n hx hb dX8_copyFrom_57 rfl (lv_at hl 1 rfl) ?_
  refine m_geti (100) 7 hx hb hts hown hE oc8 hM (hG.1 100 (by decide)) rfl (by decide) rfl tb_57 dX8_copyFrom_58 ?_
  have z19 : (u2 (u2 (u2 (u2 (u2 (u2 (u2 I (120) 0 (I (100) 0)) (120) 1 (I (100) 1)) (120) 2 (I (100) 2)) (120) 3 (I (100) 3)) (120) 4 (I (100) 4)) (120) 5 (I (100) 5)) (120) 6 (I (100) 6)) (100) 7 = I (100) 7 := (show (u2 (u2 (u2 (u2 (u2 (u2 (u2 I (120) 0 (I (100) 0)) (120) 1 (I (100) 1)) (120) 2 (I (100) 2)) (120) 3 (I (100) 3)) (120) 4 (I (100) 4)) (120) 5 (I (100) 5)) (120) 6 (I (100) 6)) (100) 7 = I (100) 7 from by simp [u2_v])
  rw [z19]
  refine m_puti (120) 7 hx hb hts hown hE oc8 hM hS (hT.2.1 0 (by decide)) rfl (by decide) rfl rfl rfl rfl tb_57 dX8_copyFrom_61 (fun H locs I20 eI20 hM hS => ?_)
  subst eI20
  have hI := hI.putF (n := 120) (k := 7) (v := I (100) 7) rfl
  have hK := hK.put (n := 120) (k := 7) (v := I (100) 7) (by first | rfl | simp [inR])
  refine lv_aload_n hx hb dX8_copyFrom_64 rfl (lv_at hl 0 rfl) ?_
  refine lv_aload_n hx hb dX8_copyFrom_65 rfl (lv_at hl 1 rfl) ?_
  refine m_geti (100) 8 hx hb hts hown hE oc8 hM (hG.1 100 (by decide)) rfl (by decide) rfl tb_59 dX8_copyFrom_66 ?_
  have g21 := hI.get (100) 8 (lo := 0) (hi := 24) rfl
  have z22 : (u2 (u2 (u2 (u2 (u2 (u2 (u2 (u2 I (120) 0 (I (100) 0)) (120) 1 (I (100) 1)) (120) 2 (I (100) 2)) (120) 3 (I (100) 3)) (120) 4 (I (100) 4)) (120) 5 (I (100) 5)) (120) 6 (I (100) 6)) (120) 7 (I (100) 7)) (100) 8 = I (100) 8 := (show (u2 (u2 (u2 (u2 (u2 (u2 (u2 (u2 I (120) 0 (I (100) 0)) (120) 1 (I (100) 1)) (120) 2 (I (100) 2)) (120) 3 (I (100) 3)) (120) 4 (I (100) 4)) (120) 5 (I (100) 5)) (120) 6 (I (100) 6)) (120) 7 (I (100) 7)) (100) 8 = I (100) 8 from by simp [u2_v])
  rw [z22] at g21 ⊢
  refine m_puti (120) 8 hx hb hts hown hE oc8 hM hS (hT.2.1 0 (by decide)) rfl (by decide) rfl rfl rfl rfl tb_59 dX8_copyFrom_69 (fun H locs I23 eI23 hM hS => ?_)
  subst eI23
  have hI := hI.put (n := 120) (k := 8) (v := I (100) 8) (lo := 0) (hi := 24) rfl (by first | omega | decide)
  have hK := hK.put (n := 120) (k := 8) (v := I (100) 8) (by first | rfl | simp [inR])
  refine lv_aload_n hx hb dX8_copyFrom_72 rfl (lv_at hl 0 rfl) ?_
  refine lv_aload_n hx hb dX8_copyFrom_73 rfl (lv_at hl 1 rfl) ?_
  refine m_geti (100) 9 hx hb hts hown hE oc8 hM (hG.1 100 (by decide)) rfl (by decide) rfl tb_63 dX8_copyFrom_74 ?_
  have g24 := hI.get (100) 9 (lo := 0) (hi := 8) rfl
  have z25 : (u2 (u2 (u2 (u2 (u2 (u2 (u2 (u2 (u2 I (120) 0 (I (100) 0)) (120) 1 (I (100) 1)) (120) 2 (I (100) 2)) (120) 3 (I (100) 3)) (120) 4 (I (100) 4)) (120) 5 (I (100) 5)) (120) 6 (I (100) 6)) (120) 7 (I (100) 7)) (120) 8 (I (100) 8)) (100) 9 = I (100) 9 := (show (u2 (u2 (u2 (u2 (u2 (u2 (u2 (u2 (u2 I (120) 0 (I (100) 0)) (120) 1 (I (100) 1)) (120) 2 (I (100) 2)) (120) 3 (I (100) 3)) (120) 4 (I (100) 4)) (120) 5 (I (100) 5)) (120) 6 (I (100) 6)) (120) 7 (I (100) 7)) (120) 8 (I (100) 8)) (100) 9 = I (100) 9 from by simp [u2_v])
  rw [z25] at g24 ⊢
  refine m_puti (120) 9 hx hb hts hown hE oc8 hM hS (hT.2.1 0 (by decide)) rfl (by decide) rfl rfl rfl rfl tb_63 dX8_copyFrom_77 (fun H locs I26 eI26 hM hS => ?_)
  subst eI26
  have hI := hI.put (n := 120) (k := 9) (v := I (100) 9) (lo := 0) (hi := 8) rfl (by first | omega | decide)
  have hK := hK.put (n := 120) (k := 9) (v := I (100) 9) (by first | rfl | simp [inR])
  refine lv_aload_n hx hb dX8_copyFrom_80 rfl (lv_at hl 1 rfl) ?_
  refine m_getr (100) 10 (101) hx hb hts hown hE oc8 hM (hG.1 100 (by decide)) rfl (by decide) rfl (hG.2 (100, 10, 101) (by decide)) (by decide) tb_66 dX8_copyFrom_81 ?_
  refine lv_iconst (v := (0)) hx hb dX8_copyFrom_84 (by decide) ?_
  refine lv_aload_n hx hb dX8_copyFrom_85 rfl (lv_at hl 0 rfl) ?_
  refine m_getr (120) 10 (121) hx hb hts hown hE oc8 hM (hT.2.1 0 (by decide)) rfl (by decide) rfl (hT.2.2 0 (by decide)) (by decide) tb_66 dX8_copyFrom_86 ?_
  refine lv_iconst (v := (0)) hx hb dX8_copyFrom_89 (by decide) ?_
  refine lv_sipush (v := (576)) hx hb dX8_copyFrom_90 (by decide) ?_
  refine m_copyi (101) (121) hx hb (hml.trans hl.1.symm) hown hE hM hS (hG.1 101 (by decide)) rfl (hT.2.1 1 (by decide)) rfl (hts _ tb_1151) (hts _ tb_568) (hts _ tb_567) (hts _ tb_13) ⟨⟨by decide, by decide, by decide⟩, by decide, by decide⟩ (Nat.le_of_ble_eq_true rfl) (Nat.le_of_ble_eq_true rfl) dX8_copyFrom_93 (fun H locs I27 eI27 hM hS => ?_)
  have hI : INV I27 := by rw [eI27]; exact hI.cpy (by intro i hi; left; rfl)
  have hK : Kp [(121, 129)] [(120, 0), (120, 1), (120, 2), (120, 3), (120, 4), (120, 5), (120, 6), (120, 7), (120, 8), (120, 9)] I I27 := by rw [eI27]; exact hK.cpy rfl
  have hkI27 : Kp [(121, 122)] [] (u2 (u2 (u2 (u2 (u2 (u2 (u2 (u2 (u2 (u2 I (120) 0 (I (100) 0)) (120) 1 (I (100) 1)) (120) 2 (I (100) 2)) (120) 3 (I (100) 3)) (120) 4 (I (100) 4)) (120) 5 (I (100) 5)) (120) 6 (I (100) 6)) (120) 7 (I (100) 7)) (120) 8 (I (100) 8)) (120) 9 (I (100) 9)) I27 := by rw [eI27]; exact Kp.rf.cpy rfl
  have hcpI27 : ∀ j, j < 576 → I27 121 j = (u2 (u2 (u2 (u2 (u2 (u2 (u2 (u2 (u2 (u2 I (120) 0 (I (100) 0)) (120) 1 (I (100) 1)) (120) 2 (I (100) 2)) (120) 3 (I (100) 3)) (120) 4 (I (100) 4)) (120) 5 (I (100) 5)) (120) 6 (I (100) 6)) (120) 7 (I (100) 7)) (120) 8 (I (100) 8)) (120) 9 (I (100) 9)) 101 j := fun j hj => by rw [eI27]; exact cpy_at rfl hj
  refine lv_aload_n hx hb dX8_copyFrom_96 rfl (lv_at hl 1 rfl) ?_
  refine m_getr (100) 11 (102) hx hb hts hown hE oc8 hM (hG.1 100 (by decide)) rfl (by decide) rfl (hG.2 (100, 11, 102) (by decide)) (by decide) tb_68 dX8_copyFrom_97 ?_
  refine lv_iconst (v := (0)) hx hb dX8_copyFrom_100 (by decide) ?_
  refine lv_aload_n hx hb dX8_copyFrom_101 rfl (lv_at hl 0 rfl) ?_
  refine m_getr (120) 11 (122) hx hb hts hown hE oc8 hM (hT.2.1 0 (by decide)) rfl (by decide) rfl (hT.2.2 1 (by decide)) (by decide) tb_68 dX8_copyFrom_102 ?_
  refine lv_iconst (v := (0)) hx hb dX8_copyFrom_105 (by decide) ?_
  refine lv_sipush (v := (576)) hx hb dX8_copyFrom_106 (by decide) ?_
  refine m_copyi (102) (122) hx hb (hml.trans hl.1.symm) hown hE hM hS (hG.1 102 (by decide)) rfl (hT.2.1 2 (by decide)) rfl (hts _ tb_1151) (hts _ tb_568) (hts _ tb_567) (hts _ tb_13) ⟨⟨by decide, by decide, by decide⟩, by decide, by decide⟩ (Nat.le_of_ble_eq_true rfl) (Nat.le_of_ble_eq_true rfl) dX8_copyFrom_109 (fun H locs I28 eI28 hM hS => ?_)
  have hI : INV I28 := by rw [eI28]; exact hI.cpy (by intro i hi; left; rfl)
  have hK : Kp [(121, 129)] [(120, 0), (120, 1), (120, 2), (120, 3), (120, 4), (120, 5), (120, 6), (120, 7), (120, 8), (120, 9)] I I28 := by rw [eI28]; exact hK.cpy rfl
  have hkI28 : Kp [(122, 123)] [] I27 I28 := by rw [eI28]; exact Kp.rf.cpy rfl
  have hcpI28 : ∀ j, j < 576 → I28 122 j = I27 102 j := fun j hj => by rw [eI28]; exact cpy_at rfl hj
  refine lv_aload_n hx hb dX8_copyFrom_112 rfl (lv_at hl 1 rfl) ?_
  refine m_getr (100) 12 (103) hx hb hts hown hE oc8 hM (hG.1 100 (by decide)) rfl (by decide) rfl (hG.2 (100, 12, 103) (by decide)) (by decide) tb_71 dX8_copyFrom_113 ?_
  refine lv_iconst (v := (0)) hx hb dX8_copyFrom_116 (by decide) ?_
  refine lv_aload_n hx hb dX8_copyFrom_117 rfl (lv_at hl 0 rfl) ?_
  refine m_getr (120) 12 (123) hx hb hts hown hE oc8 hM (hT.2.1 0 (by decide)) rfl (by decide) rfl (hT.2.2 2 (by decide)) (by decide) tb_71 dX8_copyFrom_118 ?_
  refine lv_iconst (v := (0)) hx hb dX8_copyFrom_121 (by decide) ?_
  refine lv_sipush (v := (576)) hx hb dX8_copyFrom_122 (by decide) ?_
  refine m_copyi (103) (123) hx hb (hml.trans hl.1.symm) hown hE hM hS (hG.1 103 (by decide)) rfl (hT.2.1 3 (by decide)) rfl (hts _ tb_1151) (hts _ tb_568) (hts _ tb_567) (hts _ tb_13) ⟨⟨by decide, by decide, by decide⟩, by decide, by decide⟩ (Nat.le_of_ble_eq_true rfl) (Nat.le_of_ble_eq_true rfl) dX8_copyFrom_125 (fun H locs I29 eI29 hM hS => ?_)
  have hI : INV I29 := by rw [eI29]; exact hI.cpy (by intro i hi; left; rfl)
  have hK : Kp [(121, 129)] [(120, 0), (120, 1), (120, 2), (120, 3), (120, 4), (120, 5), (120, 6), (120, 7), (120, 8), (120, 9)] I I29 := by rw [eI29]; exact hK.cpy rfl
  have hkI29 : Kp [(123, 124)] [] I28 I29 := by rw [eI29]; exact Kp.rf.cpy rfl
  have hcpI29 : ∀ j, j < 576 → I29 123 j = I28 103 j := fun j hj => by rw [eI29]; exact cpy_at rfl hj
  refine lv_aload_n hx hb dX8_copyFrom_128 rfl (lv_at hl 1 rfl) ?_
  refine m_getr (100) 13 (104) hx hb hts hown hE oc8 hM (hG.1 100 (by decide)) rfl (by decide) rfl (hG.2 (100, 13, 104) (by decide)) (by decide) tb_75 dX8_copyFrom_129 ?_
  refine lv_iconst (v := (0)) hx hb dX8_copyFrom_132 (by decide) ?_
  refine lv_aload_n hx hb dX8_copyFrom_133 rfl (lv_at hl 0 rfl) ?_
  refine m_getr (120) 13 (124) hx hb hts hown hE oc8 hM (hT.2.1 0 (by decide)) rfl (by decide) rfl (hT.2.2 3 (by decide)) (by decide) tb_75 dX8_copyFrom_134 ?_
  refine lv_iconst (v := (0)) hx hb dX8_copyFrom_137 (by decide) ?_
  refine lv_sipush (v := (576)) hx hb dX8_copyFrom_138 (by decide) ?_
  refine m_copyi (104) (124) hx hb (hml.trans hl.1.symm) hown hE hM hS (hG.1 104 (by decide)) rfl (hT.2.1 4 (by decide)) rfl (hts _ tb_1151) (hts _ tb_568) (hts _ tb_567) (hts _ tb_13) ⟨⟨by decide, by decide, by decide⟩, by decide, by decide⟩ (Nat.le_of_ble_eq_true rfl) (Nat.le_of_ble_eq_true rfl) dX8_copyFrom_141 (fun H locs I30 eI30 hM hS => ?_)
  have hI : INV I30 := by rw [eI30]; exact hI.cpy (by intro i hi; left; rfl)
  have hK : Kp [(121, 129)] [(120, 0), (120, 1), (120, 2), (120, 3), (120, 4), (120, 5), (120, 6), (120, 7), (120, 8), (120, 9)] I I30 := by rw [eI30]; exact hK.cpy rfl
  have hkI30 : Kp [(124, 125)] [] I29 I30 := by rw [eI30]; exact Kp.rf.cpy rfl
  have hcpI30 : ∀ j, j < 576 → I30 124 j = I29 104 j := fun j hj => by rw [eI30]; exact cpy_at rfl hj
  refine lv_aload_n hx hb dX8_copyFrom_144 rfl (lv_at hl 1 rfl) ?_
  refine m_getr (100) 14 (105) hx hb hts hown hE oc8 hM (hG.1 100 (by decide)) rfl (by decide) rfl (hG.2 (100, 14, 105) (by decide)) (by decide) tb_78 dX8_copyFrom_145 ?_
  refine lv_iconst (v := (0)) hx hb dX8_copyFrom_148 (by decide) ?_
  refine lv_aload_n hx hb dX8_copyFrom_149 rfl (lv_at hl 0 rfl) ?_
  refine m_getr (120) 14 (125) hx hb hts hown hE oc8 hM (hT.2.1 0 (by decide)) rfl (by decide) rfl (hT.2.2 4 (by decide)) (by decide) tb_78 dX8_copyFrom_150 ?_
  refine lv_iconst (v := (0)) hx hb dX8_copyFrom_153 (by decide) ?_
  refine lv_sipush (v := (288)) hx hb dX8_copyFrom_154 (by decide) ?_
  refine m_copyi (105) (125) hx hb (hml.trans hl.1.symm) hown hE hM hS (hG.1 105 (by decide)) rfl (hT.2.1 5 (by decide)) rfl (hts _ tb_1151) (hts _ tb_568) (hts _ tb_567) (hts _ tb_13) ⟨⟨by decide, by decide, by decide⟩, by decide, by decide⟩ (Nat.le_of_ble_eq_true rfl) (Nat.le_of_ble_eq_true rfl) dX8_copyFrom_157 (fun H locs I31 eI31 hM hS => ?_)
  have hI : INV I31 := by rw [eI31]; exact hI.cpy (by intro i hi; left; rfl)
  have hK : Kp [(121, 129)] [(120, 0), (120, 1), (120, 2), (120, 3), (120, 4), (120, 5), (120, 6), (120, 7), (120, 8), (120, 9)] I I31 := by rw [eI31]; exact hK.cpy rfl
  have hkI31 : Kp [(125, 126)] [] I30 I31 := by rw [eI31]; exact Kp.rf.cpy rfl
  have hcpI31 : ∀ j, j < 288 → I31 125 j = I30 105 j := fun j hj => by rw [eI31]; exact cpy_at rfl hj
  refine lv_aload_n hx hb dX8_copyFrom_160 rfl (lv_at hl 1 rfl) ?_
  refine m_getr (100) 15 (106) hx hb hts hown hE oc8 hM (hG.1 100 (by decide)) rfl (by decide) rfl (hG.2 (100, 15, 106) (by decide)) (by decide) tb_80 dX8_copyFrom_161 ?_
  refine lv_iconst (v := (0)) hx hb dX8_copyFrom_164 (by decide) ?_
  refine lv_aload_n hx hb dX8_copyFrom_165 rfl (lv_at hl 0 rfl) ?_
  refine m_getr (120) 15 (126) hx hb hts hown hE oc8 hM (hT.2.1 0 (by decide)) rfl (by decide) rfl (hT.2.2 5 (by decide)) (by decide) tb_80 dX8_copyFrom_166 ?_
  refine lv_iconst (v := (0)) hx hb dX8_copyFrom_169 (by decide) ?_
  refine lv_sipush (v := (288)) hx hb dX8_copyFrom_170 (by decide) ?_
  refine m_copyi (106) (126) hx hb (hml.trans hl.1.symm) hown hE hM hS (hG.1 106 (by decide)) rfl (hT.2.1 6 (by decide)) rfl (hts _ tb_1151) (hts _ tb_568) (hts _ tb_567) (hts _ tb_13) ⟨⟨by decide, by decide, by decide⟩, by decide, by decide⟩ (Nat.le_of_ble_eq_true rfl) (Nat.le_of_ble_eq_true rfl) dX8_copyFrom_173 (fun H locs I32 eI32 hM hS => ?_)
  have hI : INV I32 := by rw [eI32]; exact hI.cpy (by intro i hi; left; rfl)
  have hK : Kp [(121, 129)] [(120, 0), (120, 1), (120, 2), (120, 3), (120, 4), (120, 5), (120, 6), (120, 7), (120, 8), (120, 9)] I I32 := by rw [eI32]; exact hK.cpy rfl
  have hkI32 : Kp [(126, 127)] [] I31 I32 := by rw [eI32]; exact Kp.rf.cpy rfl
  have hcpI32 : ∀ j, j < 288 → I32 126 j = I31 106 j := fun j hj => by rw [eI32]; exact cpy_at rfl hj
  refine lv_aload_n hx hb dX8_copyFrom_176 rfl (lv_at hl 1 rfl) ?_
  refine m_getr (100) 16 (107) hx hb hts hown hE oc8 hM (hG.1 100 (by decide)) rfl (by decide) rfl (hG.2 (100, 16, 107) (by decide)) (by decide) tb_82 dX8_copyFrom_177 ?_
  refine lv_iconst (v := (0)) hx hb dX8_copyFrom_180 (by decide) ?_
  refine lv_aload_n hx hb dX8_copyFrom_181 rfl (lv_at hl 0 rfl) ?_
  refine m_getr (120) 16 (127) hx hb hts hown hE oc8 hM (hT.2.1 0 (by decide)) rfl (by decide) rfl (hT.2.2 6 (by decide)) (by decide) tb_82 dX8_copyFrom_182 ?_
  refine lv_iconst (v := (0)) hx hb dX8_copyFrom_185 (by decide) ?_
  refine lv_sipush (v := (240)) hx hb dX8_copyFrom_186 (by decide) ?_
  refine m_copyi (107) (127) hx hb (hml.trans hl.1.symm) hown hE hM hS (hG.1 107 (by decide)) rfl (hT.2.1 7 (by decide)) rfl (hts _ tb_1151) (hts _ tb_568) (hts _ tb_567) (hts _ tb_13) ⟨⟨by decide, by decide, by decide⟩, by decide, by decide⟩ (Nat.le_of_ble_eq_true rfl) (Nat.le_of_ble_eq_true rfl) dX8_copyFrom_189 (fun H locs I33 eI33 hM hS => ?_)
  have hI : INV I33 := by rw [eI33]; exact hI.cpy (by intro i hi; left; rfl)
  have hK : Kp [(121, 129)] [(120, 0), (120, 1), (120, 2), (120, 3), (120, 4), (120, 5), (120, 6), (120, 7), (120, 8), (120, 9)] I I33 := by rw [eI33]; exact hK.cpy rfl
  have hkI33 : Kp [(127, 128)] [] I32 I33 := by rw [eI33]; exact Kp.rf.cpy rfl
  have hcpI33 : ∀ j, j < 240 → I33 127 j = I32 107 j := fun j hj => by rw [eI33]; exact cpy_at rfl hj
  refine lv_aload_n hx hb dX8_copyFrom_192 rfl (lv_at hl 1 rfl) ?_
  refine m_getr (100) 17 (108) hx hb hts hown hE oc8 hM (hG.1 100 (by decide)) rfl (by decide) rfl (hG.2 (100, 17, 108) (by decide)) (by decide) tb_83 dX8_copyFrom_193 ?_
  refine lv_iconst (v := (0)) hx hb dX8_copyFrom_196 (by decide) ?_
  refine lv_aload_n hx hb dX8_copyFrom_197 rfl (lv_at hl 0 rfl) ?_
  refine m_getr (120) 17 (128) hx hb hts hown hE oc8 hM (hT.2.1 0 (by decide)) rfl (by decide) rfl (hT.2.2 7 (by decide)) (by decide) tb_83 dX8_copyFrom_198 ?_
  refine lv_iconst (v := (0)) hx hb dX8_copyFrom_201 (by decide) ?_
  refine lv_bipush (v := (56)) hx hb dX8_copyFrom_202 (by decide) ?_
  refine m_copyi (108) (128) hx hb (hml.trans hl.1.symm) hown hE hM hS (hG.1 108 (by decide)) rfl (hT.2.1 8 (by decide)) rfl (hts _ tb_1151) (hts _ tb_568) (hts _ tb_567) (hts _ tb_13) ⟨⟨by decide, by decide, by decide⟩, by decide, by decide⟩ (Nat.le_of_ble_eq_true rfl) (Nat.le_of_ble_eq_true rfl) dX8_copyFrom_204 (fun H locs I34 eI34 hM hS => ?_)
  have hI : INV I34 := by rw [eI34]; exact hI.cpy (by intro i hi; left; rfl)
  have hK : Kp [(121, 129)] [(120, 0), (120, 1), (120, 2), (120, 3), (120, 4), (120, 5), (120, 6), (120, 7), (120, 8), (120, 9)] I I34 := by rw [eI34]; exact hK.cpy rfl
  have hkI34 : Kp [(128, 129)] [] I33 I34 := by rw [eI34]; exact Kp.rf.cpy rfl
  have hcpI34 : ∀ j, j < 56 → I34 128 j = I33 108 j := fun j hj => by rw [eI34]; exact cpy_at rfl hj
  have hsc : ∀ j, j < 10 → I34 120 j = I 100 j := by
    intro j hj
    rcases (show j = 0 ∨ j = 1 ∨ j = 2 ∨ j = 3 ∨ j = 4 ∨ j = 5 ∨ j = 6 ∨ j = 7 ∨ j = 8 ∨ j = 9 by omega) with rfl | rfl | rfl | rfl | rfl | rfl | rfl | rfl | rfl | rfl
    · exact (((((((((hkI34.get (120) 0 rfl)).trans (hkI33.get (120) 0 rfl)).trans (hkI32.get (120) 0 rfl)).trans (hkI31.get (120) 0 rfl)).trans (hkI30.get (120) 0 rfl)).trans (hkI29.get (120) 0 rfl)).trans (hkI28.get (120) 0 rfl)).trans (hkI27.get (120) 0 rfl)).trans (show (u2 (u2 (u2 (u2 (u2 (u2 (u2 (u2 (u2 (u2 I (120) 0 (I (100) 0)) (120) 1 (I (100) 1)) (120) 2 (I (100) 2)) (120) 3 (I (100) 3)) (120) 4 (I (100) 4)) (120) 5 (I (100) 5)) (120) 6 (I (100) 6)) (120) 7 (I (100) 7)) (120) 8 (I (100) 8)) (120) 9 (I (100) 9)) (120) 0 = I (100) 0 from by simp [u2_v])
    · exact (((((((((hkI34.get (120) 1 rfl)).trans (hkI33.get (120) 1 rfl)).trans (hkI32.get (120) 1 rfl)).trans (hkI31.get (120) 1 rfl)).trans (hkI30.get (120) 1 rfl)).trans (hkI29.get (120) 1 rfl)).trans (hkI28.get (120) 1 rfl)).trans (hkI27.get (120) 1 rfl)).trans (show (u2 (u2 (u2 (u2 (u2 (u2 (u2 (u2 (u2 (u2 I (120) 0 (I (100) 0)) (120) 1 (I (100) 1)) (120) 2 (I (100) 2)) (120) 3 (I (100) 3)) (120) 4 (I (100) 4)) (120) 5 (I (100) 5)) (120) 6 (I (100) 6)) (120) 7 (I (100) 7)) (120) 8 (I (100) 8)) (120) 9 (I (100) 9)) (120) 1 = I (100) 1 from by simp [u2_v])
    · exact (((((((((hkI34.get (120) 2 rfl)).trans (hkI33.get (120) 2 rfl)).trans (hkI32.get (120) 2 rfl)).trans (hkI31.get (120) 2 rfl)).trans (hkI30.get (120) 2 rfl)).trans (hkI29.get (120) 2 rfl)).trans (hkI28.get (120) 2 rfl)).trans (hkI27.get (120) 2 rfl)).trans (show (u2 (u2 (u2 (u2 (u2 (u2 (u2 (u2 (u2 (u2 I (120) 0 (I (100) 0)) (120) 1 (I (100) 1)) (120) 2 (I (100) 2)) (120) 3 (I (100) 3)) (120) 4 (I (100) 4)) (120) 5 (I (100) 5)) (120) 6 (I (100) 6)) (120) 7 (I (100) 7)) (120) 8 (I (100) 8)) (120) 9 (I (100) 9)) (120) 2 = I (100) 2 from by simp [u2_v])
    · exact (((((((((hkI34.get (120) 3 rfl)).trans (hkI33.get (120) 3 rfl)).trans (hkI32.get (120) 3 rfl)).trans (hkI31.get (120) 3 rfl)).trans (hkI30.get (120) 3 rfl)).trans (hkI29.get (120) 3 rfl)).trans (hkI28.get (120) 3 rfl)).trans (hkI27.get (120) 3 rfl)).trans (show (u2 (u2 (u2 (u2 (u2 (u2 (u2 (u2 (u2 (u2 I (120) 0 (I (100) 0)) (120) 1 (I (100) 1)) (120) 2 (I (100) 2)) (120) 3 (I (100) 3)) (120) 4 (I (100) 4)) (120) 5 (I (100) 5)) (120) 6 (I (100) 6)) (120) 7 (I (100) 7)) (120) 8 (I (100) 8)) (120) 9 (I (100) 9)) (120) 3 = I (100) 3 from by simp [u2_v])
    · exact (((((((((hkI34.get (120) 4 rfl)).trans (hkI33.get (120) 4 rfl)).trans (hkI32.get (120) 4 rfl)).trans (hkI31.get (120) 4 rfl)).trans (hkI30.get (120) 4 rfl)).trans (hkI29.get (120) 4 rfl)).trans (hkI28.get (120) 4 rfl)).trans (hkI27.get (120) 4 rfl)).trans (show (u2 (u2 (u2 (u2 (u2 (u2 (u2 (u2 (u2 (u2 I (120) 0 (I (100) 0)) (120) 1 (I (100) 1)) (120) 2 (I (100) 2)) (120) 3 (I (100) 3)) (120) 4 (I (100) 4)) (120) 5 (I (100) 5)) (120) 6 (I (100) 6)) (120) 7 (I (100) 7)) (120) 8 (I (100) 8)) (120) 9 (I (100) 9)) (120) 4 = I (100) 4 from by simp [u2_v])
    · exact (((((((((hkI34.get (120) 5 rfl)).trans (hkI33.get (120) 5 rfl)).trans (hkI32.get (120) 5 rfl)).trans (hkI31.get (120) 5 rfl)).trans (hkI30.get (120) 5 rfl)).trans (hkI29.get (120) 5 rfl)).trans (hkI28.get (120) 5 rfl)).trans (hkI27.get (120) 5 rfl)).trans (show (u2 (u2 (u2 (u2 (u2 (u2 (u2 (u2 (u2 (u2 I (120) 0 (I (100) 0)) (120) 1 (I (100) 1)) (120) 2 (I (100) 2)) (120) 3 (I (100) 3)) (120) 4 (I (100) 4)) (120) 5 (I (100) 5)) (120) 6 (I (100) 6)) (120) 7 (I (100) 7)) (120) 8 (I (100) 8)) (120) 9 (I (100) 9)) (120) 5 = I (100) 5 from by simp [u2_v])
    · exact (((((((((hkI34.get (120) 6 rfl)).trans (hkI33.get (120) 6 rfl)).trans (hkI32.get (120) 6 rfl)).trans (hkI31.get (120) 6 rfl)).trans (hkI30.get (120) 6 rfl)).trans (hkI29.get (120) 6 rfl)).trans (hkI28.get (120) 6 rfl)).trans (hkI27.get (120) 6 rfl)).trans (show (u2 (u2 (u2 (u2 (u2 (u2 (u2 (u2 (u2 (u2 I (120) 0 (I (100) 0)) (120) 1 (I (100) 1)) (120) 2 (I (100) 2)) (120) 3 (I (100) 3)) (120) 4 (I (100) 4)) (120) 5 (I (100) 5)) (120) 6 (I (100) 6)) (120) 7 (I (100) 7)) (120) 8 (I (100) 8)) (120) 9 (I (100) 9)) (120) 6 = I (100) 6 from by simp [u2_v])
    · exact (((((((((hkI34.get (120) 7 rfl)).trans (hkI33.get (120) 7 rfl)).trans (hkI32.get (120) 7 rfl)).trans (hkI31.get (120) 7 rfl)).trans (hkI30.get (120) 7 rfl)).trans (hkI29.get (120) 7 rfl)).trans (hkI28.get (120) 7 rfl)).trans (hkI27.get (120) 7 rfl)).trans (show (u2 (u2 (u2 (u2 (u2 (u2 (u2 (u2 (u2 (u2 I (120) 0 (I (100) 0)) (120) 1 (I (100) 1)) (120) 2 (I (100) 2)) (120) 3 (I (100) 3)) (120) 4 (I (100) 4)) (120) 5 (I (100) 5)) (120) 6 (I (100) 6)) (120) 7 (I (100) 7)) (120) 8 (I (100) 8)) (120) 9 (I (100) 9)) (120) 7 = I (100) 7 from by simp [u2_v])
    · exact (((((((((hkI34.get (120) 8 rfl)).trans (hkI33.get (120) 8 rfl)).trans (hkI32.get (120) 8 rfl)).trans (hkI31.get (120) 8 rfl)).trans (hkI30.get (120) 8 rfl)).trans (hkI29.get (120) 8 rfl)).trans (hkI28.get (120) 8 rfl)).trans (hkI27.get (120) 8 rfl)).trans (show (u2 (u2 (u2 (u2 (u2 (u2 (u2 (u2 (u2 (u2 I (120) 0 (I (100) 0)) (120) 1 (I (100) 1)) (120) 2 (I (100) 2)) (120) 3 (I (100) 3)) (120) 4 (I (100) 4)) (120) 5 (I (100) 5)) (120) 6 (I (100) 6)) (120) 7 (I (100) 7)) (120) 8 (I (100) 8)) (120) 9 (I (100) 9)) (120) 8 = I (100) 8 from by simp [u2_v])
    · exact (((((((((hkI34.get (120) 9 rfl)).trans (hkI33.get (120) 9 rfl)).trans (hkI32.get (120) 9 rfl)).trans (hkI31.get (120) 9 rfl)).trans (hkI30.get (120) 9 rfl)).trans (hkI29.get (120) 9 rfl)).trans (hkI28.get (120) 9 rfl)).trans (hkI27.get (120) 9 rfl)).trans (show (u2 (u2 (u2 (u2 (u2 (u2 (u2 (u2 (u2 (u2 I (120) 0 (I (100) 0)) (120) 1 (I (100) 1)) (120) 2 (I (100) 2)) (120) 3 (I (100) 3)) (120) 4 (I (100) 4)) (120) 5 (I (100) 5)) (120) 6 (I (100) 6)) (120) 7 (I (100) 7)) (120) 8 (I (100) 8)) (120) 9 (I (100) 9)) (120) 9 = I (100) 9 from by simp [u2_v])
  exact m_vret hx hb hr hlocks hM hS (Nat.le_of_ble_eq_true rfl) (Nat.le_of_ble_eq_true rfl) ⟨_, _, rfl, hI, hK, ⟨hsc, (fun j hj => (congrFun ((((((((hkI34.getA 121 rfl)).trans (hkI33.getA 121 rfl)).trans (hkI32.getA 121 rfl)).trans (hkI31.getA 121 rfl)).trans (hkI30.getA 121 rfl)).trans (hkI29.getA 121 rfl)).trans (hkI28.getA 121 rfl)) j).trans ((hcpI27 j hj).trans (congrFun ((show (u2 (u2 (u2 (u2 (u2 (u2 (u2 (u2 (u2 (u2 I (120) 0 (I (100) 0)) (120) 1 (I (100) 1)) (120) 2 (I (100) 2)) (120) 3 (I (100) 3)) (120) 4 (I (100) 4)) (120) 5 (I (100) 5)) (120) 6 (I (100) 6)) (120) 7 (I (100) 7)) (120) 8 (I (100) 8)) (120) 9 (I (100) 9)) 101 = I 101 from by funext zz; simp [u2_v])) j))), (fun j hj => (congrFun (((((((hkI34.getA 122 rfl)).trans (hkI33.getA 122 rfl)).trans (hkI32.getA 122 rfl)).trans (hkI31.getA 122 rfl)).trans (hkI30.getA 122 rfl)).trans (hkI29.getA 122 rfl)) j).trans ((hcpI28 j hj).trans (congrFun (((hkI27.getA 102 rfl)).trans (show (u2 (u2 (u2 (u2 (u2 (u2 (u2 (u2 (u2 (u2 I (120) 0 (I (100) 0)) (120) 1 (I (100) 1)) (120) 2 (I (100) 2)) (120) 3 (I (100) 3)) (120) 4 (I (100) 4)) (120) 5 (I (100) 5)) (120) 6 (I (100) 6)) (120) 7 (I (100) 7)) (120) 8 (I (100) 8)) (120) 9 (I (100) 9)) 102 = I 102 from by funext zz; simp [u2_v])) j))), (fun j hj => (congrFun ((((((hkI34.getA 123 rfl)).trans (hkI33.getA 123 rfl)).trans (hkI32.getA 123 rfl)).trans (hkI31.getA 123 rfl)).trans (hkI30.getA 123 rfl)) j).trans ((hcpI29 j hj).trans (congrFun ((((hkI28.getA 103 rfl)).trans (hkI27.getA 103 rfl)).trans (show (u2 (u2 (u2 (u2 (u2 (u2 (u2 (u2 (u2 (u2 I (120) 0 (I (100) 0)) (120) 1 (I (100) 1)) (120) 2 (I (100) 2)) (120) 3 (I (100) 3)) (120) 4 (I (100) 4)) (120) 5 (I (100) 5)) (120) 6 (I (100) 6)) (120) 7 (I (100) 7)) (120) 8 (I (100) 8)) (120) 9 (I (100) 9)) 103 = I 103 from by funext zz; simp [u2_v])) j))), (fun j hj => (congrFun (((((hkI34.getA 124 rfl)).trans (hkI33.getA 124 rfl)).trans (hkI32.getA 124 rfl)).trans (hkI31.getA 124 rfl)) j).trans ((hcpI30 j hj).trans (congrFun (((((hkI29.getA 104 rfl)).trans (hkI28.getA 104 rfl)).trans (hkI27.getA 104 rfl)).trans (show (u2 (u2 (u2 (u2 (u2 (u2 (u2 (u2 (u2 (u2 I (120) 0 (I (100) 0)) (120) 1 (I (100) 1)) (120) 2 (I (100) 2)) (120) 3 (I (100) 3)) (120) 4 (I (100) 4)) (120) 5 (I (100) 5)) (120) 6 (I (100) 6)) (120) 7 (I (100) 7)) (120) 8 (I (100) 8)) (120) 9 (I (100) 9)) 104 = I 104 from by funext zz; simp [u2_v])) j))), (fun j hj => (congrFun ((((hkI34.getA 125 rfl)).trans (hkI33.getA 125 rfl)).trans (hkI32.getA 125 rfl)) j).trans ((hcpI31 j hj).trans (congrFun ((((((hkI30.getA 105 rfl)).trans (hkI29.getA 105 rfl)).trans (hkI28.getA 105 rfl)).trans (hkI27.getA 105 rfl)).trans (show (u2 (u2 (u2 (u2 (u2 (u2 (u2 (u2 (u2 (u2 I (120) 0 (I (100) 0)) (120) 1 (I (100) 1)) (120) 2 (I (100) 2)) (120) 3 (I (100) 3)) (120) 4 (I (100) 4)) (120) 5 (I (100) 5)) (120) 6 (I (100) 6)) (120) 7 (I (100) 7)) (120) 8 (I (100) 8)) (120) 9 (I (100) 9)) 105 = I 105 from by funext zz; simp [u2_v])) j))), (fun j hj => (congrFun (((hkI34.getA 126 rfl)).trans (hkI33.getA 126 rfl)) j).trans ((hcpI32 j hj).trans (congrFun (((((((hkI31.getA 106 rfl)).trans (hkI30.getA 106 rfl)).trans (hkI29.getA 106 rfl)).trans (hkI28.getA 106 rfl)).trans (hkI27.getA 106 rfl)).trans (show (u2 (u2 (u2 (u2 (u2 (u2 (u2 (u2 (u2 (u2 I (120) 0 (I (100) 0)) (120) 1 (I (100) 1)) (120) 2 (I (100) 2)) (120) 3 (I (100) 3)) (120) 4 (I (100) 4)) (120) 5 (I (100) 5)) (120) 6 (I (100) 6)) (120) 7 (I (100) 7)) (120) 8 (I (100) 8)) (120) 9 (I (100) 9)) 106 = I 106 from by funext zz; simp [u2_v])) j))), (fun j hj => (congrFun ((hkI34.getA 127 rfl)) j).trans ((hcpI33 j hj).trans (congrFun ((((((((hkI32.getA 107 rfl)).trans (hkI31.getA 107 rfl)).trans (hkI30.getA 107 rfl)).trans (hkI29.getA 107 rfl)).trans (hkI28.getA 107 rfl)).trans (hkI27.getA 107 rfl)).trans (show (u2 (u2 (u2 (u2 (u2 (u2 (u2 (u2 (u2 (u2 I (120) 0 (I (100) 0)) (120) 1 (I (100) 1)) (120) 2 (I (100) 2)) (120) 3 (I (100) 3)) (120) 4 (I (100) 4)) (120) 5 (I (100) 5)) (120) 6 (I (100) 6)) (120) 7 (I (100) 7)) (120) 8 (I (100) 8)) (120) 9 (I (100) 9)) 107 = I 107 from by funext zz; simp [u2_v])) j))), (fun j hj => (congrFun (rfl) j).trans ((hcpI34 j hj).trans (congrFun (((((((((hkI33.getA 108 rfl)).trans (hkI32.getA 108 rfl)).trans (hkI31.getA 108 rfl)).trans (hkI30.getA 108 rfl)).trans (hkI29.getA 108 rfl)).trans (hkI28.getA 108 rfl)).trans (hkI27.getA 108 rfl)).trans (show (u2 (u2 (u2 (u2 (u2 (u2 (u2 (u2 (u2 (u2 I (120) 0 (I (100) 0)) (120) 1 (I (100) 1)) (120) 2 (I (100) 2)) (120) 3 (I (100) 3)) (120) 4 (I (100) 4)) (120) 5 (I (100) 5)) (120) 6 (I (100) 6)) (120) 7 (I (100) 7)) (120) 8 (I (100) 8)) (120) 9 (I (100) 9)) 108 = I 108 from by funext zz; simp [u2_v])) j)))⟩⟩ dX8_copyFrom_207
set_option maxHeartbeats 4000000 in
set_option maxRecDepth 20000 in
theorem V_X8_copyFrom_100_120_f (l : Launch) (D : va_G) (A : Nat → Prop) (ad : Nat → Nat) (ns : List Nat) (I : MI) (L : ML) (G : MG) (hG : SGC ns G) (hI : INV I) (hT : TOK ns G 120) : Met l yX8_copyFrom (wd yX8_copyFrom cX8_copyFrom 2 none) ({ frames := 1, cells := 0, slots := 0, locals := 40 }) (va_Pc [.ref (ad (100)), .ref (ad (120))] (PM D A ad ns I L G)) (va_Qv (fun u => ∃ I2 L2, u = (ad, ns, I2, L2, G) ∧ INV I2 ∧ Kp [(101, 109)] [(100, 0), (100, 1), (100, 2), (100, 3), (100, 4), (100, 5), (100, 6), (100, 7), (100, 8), (100, 9)] I I2 ∧ (CPF 100 120 I I2)) (BM D A) A) 0 0 A := by
  refine m_ofW (by decide) (Nat.le_of_ble_eq_true rfl) ?_
  intro p e s m below meth c ls args hC hE hM hA hS hl
  obtain ⟨hx, hb, hml, hown, hts, hr, hlocks, hin⟩ := hC
  have k0 : (0 : Int32).toInt = 0 := by decide
  have k56 : (56 : Int32).toInt = 56 := by decide
  have k240 : (240 : Int32).toInt = 240 := by decide
  have k288 : (288 : Int32).toInt = 288 := by decide
  have k576 : (576 : Int32).toInt = 576 := by decide
  have hK : Kp [(101, 109)] [(100, 0), (100, 1), (100, 2), (100, 3), (100, 4), (100, 5), (100, 6), (100, 7), (100, 8), (100, 9)] I I := Kp.rf
  have hl : lv_has ls 2 [(0, .ref (ad (100))), (1, .ref (ad (120)))] := hl
  refine lv_aload_n hx hb dX8_copyFrom_0 rfl (lv_at hl 0 rfl) ?_
  refine lv_aload_n hx hb dX8_copyFrom_1 rfl (lv_at hl 1 rfl) ?_
  refine m_geti (120) 0 hx hb hts hown hE oc8 hM (hT.2.1 0 (by decide)) rfl (by decide) rfl tb_34 dX8_copyFrom_2 ?_
  have g1 := hI.get (120) 0 (lo := 0) (hi := 24) rfl
  refine m_puti (100) 0 hx hb hts hown hE oc8 hM hS (hG.1 100 (by decide)) rfl (by decide) rfl rfl rfl rfl tb_34 dX8_copyFrom_5 (fun H locs I2 eI2 hM hS => ?_)
  subst eI2
  have hI := hI.put (n := 100) (k := 0) (v := I (120) 0) (lo := 0) (hi := 24) rfl (by first | omega | decide)
  have hK := hK.put (n := 100) (k := 0) (v := I (120) 0) (by first | rfl | simp [inR])
  refine lv_aload_n hx hb dX8_copyFrom_8 rfl (lv_at hl 0 rfl) ?_
  refine lv_aload_n hx hb dX8_copyFrom_9 rfl (lv_at hl 1 rfl) ?_
  refine m_geti (120) 1 hx hb hts hown hE oc8 hM (hT.2.1 0 (by decide)) rfl (by decide) rfl tb_37 dX8_copyFrom_10 ?_
  have g3 := hI.get (120) 1 (lo := 0) (hi := 24) rfl
  have z4 : (u2 I (100) 0 (I (120) 0)) (120) 1 = I (120) 1 := (show (u2 I (100) 0 (I (120) 0)) (120) 1 = I (120) 1 from by simp [u2_v])
  rw [z4] at g3 ⊢
  refine m_puti (100) 1 hx hb hts hown hE oc8 hM hS (hG.1 100 (by decide)) rfl (by decide) rfl rfl rfl rfl tb_37 dX8_copyFrom_13 (fun H locs I5 eI5 hM hS => ?_)
  subst eI5
  have hI := hI.put (n := 100) (k := 1) (v := I (120) 1) (lo := 0) (hi := 24) rfl (by first | omega | decide)
  have hK := hK.put (n := 100) (k := 1) (v := I (120) 1) (by first | rfl | simp [inR])
  refine lv_aload_n hx hb dX8_copyFrom_16 rfl (lv_at hl 0 rfl) ?_
  refine lv_aload_n hx hb dX8_copyFrom_17 rfl (lv_at hl 1 rfl) ?_
  refine m_geti (120) 2 hx hb hts hown hE oc8 hM (hT.2.1 0 (by decide)) rfl (by decide) rfl tb_41 dX8_copyFrom_18 ?_
  have g6 := hI.get (120) 2 (lo := 0) (hi := 23) rfl
  have z7 : (u2 (u2 I (100) 0 (I (120) 0)) (100) 1 (I (120) 1)) (120) 2 = I (120) 2 := (show (u2 (u2 I (100) 0 (I (120) 0)) (100) 1 (I (120) 1)) (120) 2 = I (120) 2 from by simp [u2_v])
  rw [z7] at g6 ⊢
  refine m_puti (100) 2 hx hb hts hown hE oc8 hM hS (hG.1 100 (by decide)) rfl (by decide) rfl rfl rfl rfl tb_41 dX8_copyFrom_21 (fun H locs I8 eI8 hM hS => ?_)
  subst eI8
  have hI := hI.put (n := 100) (k := 2) (v := I (120) 2) (lo := 0) (hi := 23) rfl (by first | omega | decide)
  have hK := hK.put (n := 100) (k := 2) (v := I (120) 2) (by first | rfl | simp [inR])
  refine lv_aload_n hx hb dX8_copyFrom_24 rfl (lv_at hl 0 rfl) ?_
  refine lv_aload_n hx hb dX8_copyFrom_25 rfl (lv_at hl 1 rfl) ?_
  refine m_geti (120) 3 hx hb hts hown hE oc8 hM (hT.2.1 0 (by decide)) rfl (by decide) rfl tb_45 dX8_copyFrom_26 ?_
  have g9 := hI.get (120) 3 (lo := 0) (hi := 23) rfl
  have z10 : (u2 (u2 (u2 I (100) 0 (I (120) 0)) (100) 1 (I (120) 1)) (100) 2 (I (120) 2)) (120) 3 = I (120) 3 := (show (u2 (u2 (u2 I (100) 0 (I (120) 0)) (100) 1 (I (120) 1)) (100) 2 (I (120) 2)) (120) 3 = I (120) 3 from by simp [u2_v])
  rw [z10] at g9 ⊢
  refine m_puti (100) 3 hx hb hts hown hE oc8 hM hS (hG.1 100 (by decide)) rfl (by decide) rfl rfl rfl rfl tb_45 dX8_copyFrom_29 (fun H locs I11 eI11 hM hS => ?_)
  subst eI11
  have hI := hI.put (n := 100) (k := 3) (v := I (120) 3) (lo := 0) (hi := 23) rfl (by first | omega | decide)
  have hK := hK.put (n := 100) (k := 3) (v := I (120) 3) (by first | rfl | simp [inR])
  refine lv_aload_n hx hb dX8_copyFrom_32 rfl (lv_at hl 0 rfl) ?_
  refine lv_aload_n hx hb dX8_copyFrom_33 rfl (lv_at hl 1 rfl) ?_
  refine m_geti (120) 4 hx hb hts hown hE oc8 hM (hT.2.1 0 (by decide)) rfl (by decide) rfl tb_48 dX8_copyFrom_34 ?_
  have z12 : (u2 (u2 (u2 (u2 I (100) 0 (I (120) 0)) (100) 1 (I (120) 1)) (100) 2 (I (120) 2)) (100) 3 (I (120) 3)) (120) 4 = I (120) 4 := (show (u2 (u2 (u2 (u2 I (100) 0 (I (120) 0)) (100) 1 (I (120) 1)) (100) 2 (I (120) 2)) (100) 3 (I (120) 3)) (120) 4 = I (120) 4 from by simp [u2_v])
  rw [z12]
  refine m_puti (100) 4 hx hb hts hown hE oc8 hM hS (hG.1 100 (by decide)) rfl (by decide) rfl rfl rfl rfl tb_48 dX8_copyFrom_37 (fun H locs I13 eI13 hM hS => ?_)
  subst eI13
  have hI := hI.putF (n := 100) (k := 4) (v := I (120) 4) rfl
  have hK := hK.put (n := 100) (k := 4) (v := I (120) 4) (by first | rfl | simp [inR])
  refine lv_aload_n hx hb dX8_copyFrom_40 rfl (lv_at hl 0 rfl) ?_
  refine lv_aload_n hx hb dX8_copyFrom_41 rfl (lv_at hl 1 rfl) ?_
  refine m_geti (120) 5 hx hb hts hown hE oc8 hM (hT.2.1 0 (by decide)) rfl (by decide) rfl tb_51 dX8_copyFrom_42 ?_
  have g14 := hI.get (120) 5 (lo := 0) (hi := 11) rfl
  have z15 : (u2 (u2 (u2 (u2 (u2 I (100) 0 (I (120) 0)) (100) 1 (I (120) 1)) (100) 2 (I (120) 2)) (100) 3 (I (120) 3)) (100) 4 (I (120) 4)) (120) 5 = I (120) 5 := (show (u2 (u2 (u2 (u2 (u2 I (100) 0 (I (120) 0)) (100) 1 (I (120) 1)) (100) 2 (I (120) 2)) (100) 3 (I (120) 3)) (100) 4 (I (120) 4)) (120) 5 = I (120) 5 from by simp [u2_v])
  rw [z15] at g14 ⊢
  refine m_puti (100) 5 hx hb hts hown hE oc8 hM hS (hG.1 100 (by decide)) rfl (by decide) rfl rfl rfl rfl tb_51 dX8_copyFrom_45 (fun H locs I16 eI16 hM hS => ?_)
  subst eI16
  have hI := hI.put (n := 100) (k := 5) (v := I (120) 5) (lo := 0) (hi := 11) rfl (by first | omega | decide)
  have hK := hK.put (n := 100) (k := 5) (v := I (120) 5) (by first | rfl | simp [inR])
  refine lv_aload_n hx hb dX8_copyFrom_48 rfl (lv_at hl 0 rfl) ?_
  refine lv_aload_n hx hb dX8_copyFrom_49 rfl (lv_at hl 1 rfl) ?_
  refine m_geti (120) 6 hx hb hts hown hE oc8 hM (hT.2.1 0 (by decide)) rfl (by decide) rfl tb_54 dX8_copyFrom_50 ?_
  have z17 : (u2 (u2 (u2 (u2 (u2 (u2 I (100) 0 (I (120) 0)) (100) 1 (I (120) 1)) (100) 2 (I (120) 2)) (100) 3 (I (120) 3)) (100) 4 (I (120) 4)) (100) 5 (I (120) 5)) (120) 6 = I (120) 6 := (show (u2 (u2 (u2 (u2 (u2 (u2 I (100) 0 (I (120) 0)) (100) 1 (I (120) 1)) (100) 2 (I (120) 2)) (100) 3 (I (120) 3)) (100) 4 (I (120) 4)) (100) 5 (I (120) 5)) (120) 6 = I (120) 6 from by simp [u2_v])
  rw [z17]
  refine m_puti (100) 6 hx hb hts hown hE oc8 hM hS (hG.1 100 (by decide)) rfl (by decide) rfl rfl rfl rfl tb_54 dX8_copyFrom_53 (fun H locs I18 eI18 hM hS => ?_)
  subst eI18
  have hI := hI.putF (n := 100) (k := 6) (v := I (120) 6) rfl
  have hK := hK.put (n := 100) (k := 6) (v := I (120) 6) (by first | rfl | simp [inR])
  refine lv_aload_n hx hb dX8_copyFrom_56 rfl (lv_at hl 0 rfl) ?_
  refine lv_aload_n hx hb dX8_copyFrom_57 rfl (lv_at hl 1 rfl) ?_
  refine m_geti (120) 7 hx hb hts hown hE oc8 hM (hT.2.1 0 (by decide)) rfl (by decide) rfl tb_57 dX8_copyFrom_58 ?_
  have z19 : (u2 (u2 (u2 (u2 (u2 (u2 (u2 I (100) 0 (I (120) 0)) (100) 1 (I (120) 1)) (100) 2 (I (120) 2)) (100) 3 (I (120) 3)) (100) 4 (I (120) 4)) (100) 5 (I (120) 5)) (100) 6 (I (120) 6)) (120) 7 = I (120) 7 := (show (u2 (u2 (u2 (u2 (u2 (u2 (u2 I (100) 0 (I (120) 0)) (100) 1 (I (120) 1)) (100) 2 (I (120) 2)) (100) 3 (I (120) 3)) (100) 4 (I (120) 4)) (100) 5 (I (120) 5)) (100) 6 (I (120) 6)) (120) 7 = I (120) 7 from by simp [u2_v])
  rw [z19]
  refine m_puti (100) 7 hx hb hts hown hE oc8 hM hS (hG.1 100 (by decide)) rfl (by decide) rfl rfl rfl rfl tb_57 dX8_copyFrom_61 (fun H locs I20 eI20 hM hS => ?_)
  subst eI20
  have hI := hI.putF (n := 100) (k := 7) (v := I (120) 7) rfl
  have hK := hK.put (n := 100) (k := 7) (v := I (120) 7) (by first | rfl | simp [inR])
  refine lv_aload_n hx hb dX8_copyFrom_64 rfl (lv_at hl 0 rfl) ?_
  refine lv_aload_n hx hb dX8_copyFrom_65 rfl (lv_at hl 1 rfl) ?_
  refine m_geti (120) 8 hx hb hts hown hE oc8 hM (hT.2.1 0 (by decide)) rfl (by decide) rfl tb_59 dX8_copyFrom_66 ?_
  have g21 := hI.get (120) 8 (lo := 0) (hi := 24) rfl
  have z22 : (u2 (u2 (u2 (u2 (u2 (u2 (u2 (u2 I (100) 0 (I (120) 0)) (100) 1 (I (120) 1)) (100) 2 (I (120) 2)) (100) 3 (I (120) 3)) (100) 4 (I (120) 4)) (100) 5 (I (120) 5)) (100) 6 (I (120) 6)) (100) 7 (I (120) 7)) (120) 8 = I (120) 8 := (show (u2 (u2 (u2 (u2 (u2 (u2 (u2 (u2 I (100) 0 (I (120) 0)) (100) 1 (I (120) 1)) (100) 2 (I (120) 2)) (100) 3 (I (120) 3)) (100) 4 (I (120) 4)) (100) 5 (I (120) 5)) (100) 6 (I (120) 6)) (100) 7 (I (120) 7)) (120) 8 = I (120) 8 from by simp [u2_v])
  rw [z22] at g21 ⊢
  refine m_puti (100) 8 hx hb hts hown hE oc8 hM hS (hG.1 100 (by decide)) rfl (by decide) rfl rfl rfl rfl tb_59 dX8_copyFrom_69 (fun H locs I23 eI23 hM hS => ?_)
  subst eI23
  have hI := hI.put (n := 100) (k := 8) (v := I (120) 8) (lo := 0) (hi := 24) rfl (by first | omega | decide)
  have hK := hK.put (n := 100) (k := 8) (v := I (120) 8) (by first | rfl | simp [inR])
  refine lv_aload_n hx hb dX8_copyFrom_72 rfl (lv_at hl 0 rfl) ?_
  refine lv_aload_n hx hb dX8_copyFrom_73 rfl (lv_at hl 1 rfl) ?_
  refine m_geti (120) 9 hx hb hts hown hE oc8 hM (hT.2.1 0 (by decide)) rfl (by decide) rfl tb_63 dX8_copyFrom_74 ?_
  have g24 := hI.get (120) 9 (lo := 0) (hi := 8) rfl
  have z25 : (u2 (u2 (u2 (u2 (u2 (u2 (u2 (u2 (u2 I (100) 0 (I (120) 0)) (100) 1 (I (120) 1)) (100) 2 (I (120) 2)) (100) 3 (I (120) 3)) (100) 4 (I (120) 4)) (100) 5 (I (120) 5)) (100) 6 (I (120) 6)) (100) 7 (I (120) 7)) (100) 8 (I (120) 8)) (120) 9 = I (120) 9 := (show (u2 (u2 (u2 (u2 (u2 (u2 (u2 (u2 (u2 I (100) 0 (I (120) 0)) (100) 1 (I (120) 1)) (100) 2 (I (120) 2)) (100) 3 (I (120) 3)) (100) 4 (I (120) 4)) (100) 5 (I (120) 5)) (100) 6 (I (120) 6)) (100) 7 (I (120) 7)) (100) 8 (I (120) 8)) (120) 9 = I (120) 9 from by simp [u2_v])
  rw [z25] at g24 ⊢
  refine m_puti (100) 9 hx hb hts hown hE oc8 hM hS (hG.1 100 (by decide)) rfl (by decide) rfl rfl rfl rfl tb_63 dX8_copyFrom_77 (fun H locs I26 eI26 hM hS => ?_)
  subst eI26
  have hI := hI.put (n := 100) (k := 9) (v := I (120) 9) (lo := 0) (hi := 8) rfl (by first | omega | decide)
  have hK := hK.put (n := 100) (k := 9) (v := I (120) 9) (by first | rfl | simp [inR])
  refine lv_aload_n hx hb dX8_copyFrom_80 rfl (lv_at hl 1 rfl) ?_
  refine m_getr (120) 10 (121) hx hb hts hown hE oc8 hM (hT.2.1 0 (by decide)) rfl (by decide) rfl (hT.2.2 0 (by decide)) (by decide) tb_66 dX8_copyFrom_81 ?_
  refine lv_iconst (v := (0)) hx hb dX8_copyFrom_84 (by decide) ?_
  refine lv_aload_n hx hb dX8_copyFrom_85 rfl (lv_at hl 0 rfl) ?_
  refine m_getr (100) 10 (101) hx hb hts hown hE oc8 hM (hG.1 100 (by decide)) rfl (by decide) rfl (hG.2 (100, 10, 101) (by decide)) (by decide) tb_66 dX8_copyFrom_86 ?_
  refine lv_iconst (v := (0)) hx hb dX8_copyFrom_89 (by decide) ?_
  refine lv_sipush (v := (576)) hx hb dX8_copyFrom_90 (by decide) ?_
  refine m_copyi (121) (101) hx hb (hml.trans hl.1.symm) hown hE hM hS (hT.2.1 1 (by decide)) rfl (hG.1 101 (by decide)) rfl (hts _ tb_1151) (hts _ tb_568) (hts _ tb_567) (hts _ tb_13) ⟨⟨by decide, by decide, by decide⟩, by decide, by decide⟩ (Nat.le_of_ble_eq_true rfl) (Nat.le_of_ble_eq_true rfl) dX8_copyFrom_93 (fun H locs I27 eI27 hM hS => ?_)
  have hI : INV I27 := by rw [eI27]; exact hI.cpy (by intro i hi; left; rfl)
  have hK : Kp [(101, 109)] [(100, 0), (100, 1), (100, 2), (100, 3), (100, 4), (100, 5), (100, 6), (100, 7), (100, 8), (100, 9)] I I27 := by rw [eI27]; exact hK.cpy rfl
  have hkI27 : Kp [(101, 102)] [] (u2 (u2 (u2 (u2 (u2 (u2 (u2 (u2 (u2 (u2 I (100) 0 (I (120) 0)) (100) 1 (I (120) 1)) (100) 2 (I (120) 2)) (100) 3 (I (120) 3)) (100) 4 (I (120) 4)) (100) 5 (I (120) 5)) (100) 6 (I (120) 6)) (100) 7 (I (120) 7)) (100) 8 (I (120) 8)) (100) 9 (I (120) 9)) I27 := by rw [eI27]; exact Kp.rf.cpy rfl
  have hcpI27 : ∀ j, j < 576 → I27 101 j = (u2 (u2 (u2 (u2 (u2 (u2 (u2 (u2 (u2 (u2 I (100) 0 (I (120) 0)) (100) 1 (I (120) 1)) (100) 2 (I (120) 2)) (100) 3 (I (120) 3)) (100) 4 (I (120) 4)) (100) 5 (I (120) 5)) (100) 6 (I (120) 6)) (100) 7 (I (120) 7)) (100) 8 (I (120) 8)) (100) 9 (I (120) 9)) 121 j := fun j hj => by rw [eI27]; exact cpy_at rfl hj
  refine lv_aload_n hx hb dX8_copyFrom_96 rfl (lv_at hl 1 rfl) ?_
  refine m_getr (120) 11 (122) hx hb hts hown hE oc8 hM (hT.2.1 0 (by decide)) rfl (by decide) rfl (hT.2.2 1 (by decide)) (by decide) tb_68 dX8_copyFrom_97 ?_
  refine lv_iconst (v := (0)) hx hb dX8_copyFrom_100 (by decide) ?_
  refine lv_aload_n hx hb dX8_copyFrom_101 rfl (lv_at hl 0 rfl) ?_
  refine m_getr (100) 11 (102) hx hb hts hown hE oc8 hM (hG.1 100 (by decide)) rfl (by decide) rfl (hG.2 (100, 11, 102) (by decide)) (by decide) tb_68 dX8_copyFrom_102 ?_
  refine lv_iconst (v := (0)) hx hb dX8_copyFrom_105 (by decide) ?_
  refine lv_sipush (v := (576)) hx hb dX8_copyFrom_106 (by decide) ?_
  refine m_copyi (122) (102) hx hb (hml.trans hl.1.symm) hown hE hM hS (hT.2.1 2 (by decide)) rfl (hG.1 102 (by decide)) rfl (hts _ tb_1151) (hts _ tb_568) (hts _ tb_567) (hts _ tb_13) ⟨⟨by decide, by decide, by decide⟩, by decide, by decide⟩ (Nat.le_of_ble_eq_true rfl) (Nat.le_of_ble_eq_true rfl) dX8_copyFrom_109 (fun H locs I28 eI28 hM hS => ?_)
  have hI : INV I28 := by rw [eI28]; exact hI.cpy (by intro i hi; left; rfl)
  have hK : Kp [(101, 109)] [(100, 0), (100, 1), (100, 2), (100, 3), (100, 4), (100, 5), (100, 6), (100, 7), (100, 8), (100, 9)] I I28 := by rw [eI28]; exact hK.cpy rfl
  have hkI28 : Kp [(102, 103)] [] I27 I28 := by rw [eI28]; exact Kp.rf.cpy rfl
  have hcpI28 : ∀ j, j < 576 → I28 102 j = I27 122 j := fun j hj => by rw [eI28]; exact cpy_at rfl hj
  refine lv_aload_n hx hb dX8_copyFrom_112 rfl (lv_at hl 1 rfl) ?_
  refine m_getr (120) 12 (123) hx hb hts hown hE oc8 hM (hT.2.1 0 (by decide)) rfl (by decide) rfl (hT.2.2 2 (by decide)) (by decide) tb_71 dX8_copyFrom_113 ?_
  refine lv_iconst (v := (0)) hx hb dX8_copyFrom_116 (by decide) ?_
  refine lv_aload_n hx hb dX8_copyFrom_117 rfl (lv_at hl 0 rfl) ?_
  refine m_getr (100) 12 (103) hx hb hts hown hE oc8 hM (hG.1 100 (by decide)) rfl (by decide) rfl (hG.2 (100, 12, 103) (by decide)) (by decide) tb_71 dX8_copyFrom_118 ?_
  refine lv_iconst (v := (0)) hx hb dX8_copyFrom_121 (by decide) ?_
  refine lv_sipush (v := (576)) hx hb dX8_copyFrom_122 (by decide) ?_
  refine m_copyi (123) (103) hx hb (hml.trans hl.1.symm) hown hE hM hS (hT.2.1 3 (by decide)) rfl (hG.1 103 (by decide)) rfl (hts _ tb_1151) (hts _ tb_568) (hts _ tb_567) (hts _ tb_13) ⟨⟨by decide, by decide, by decide⟩, by decide, by decide⟩ (Nat.le_of_ble_eq_true rfl) (Nat.le_of_ble_eq_true rfl) dX8_copyFrom_125 (fun H locs I29 eI29 hM hS => ?_)
  have hI : INV I29 := by rw [eI29]; exact hI.cpy (by intro i hi; left; rfl)
  have hK : Kp [(101, 109)] [(100, 0), (100, 1), (100, 2), (100, 3), (100, 4), (100, 5), (100, 6), (100, 7), (100, 8), (100, 9)] I I29 := by rw [eI29]; exact hK.cpy rfl
  have hkI29 : Kp [(103, 104)] [] I28 I29 := by rw [eI29]; exact Kp.rf.cpy rfl
  have hcpI29 : ∀ j, j < 576 → I29 103 j = I28 123 j := fun j hj => by rw [eI29]; exact cpy_at rfl hj
  refine lv_aload_n hx hb dX8_copyFrom_128 rfl (lv_at hl 1 rfl) ?_
  refine m_getr (120) 13 (124) hx hb hts hown hE oc8 hM (hT.2.1 0 (by decide)) rfl (by decide) rfl (hT.2.2 3 (by decide)) (by decide) tb_75 dX8_copyFrom_129 ?_
  refine lv_iconst (v := (0)) hx hb dX8_copyFrom_132 (by decide) ?_
  refine lv_aload_n hx hb dX8_copyFrom_133 rfl (lv_at hl 0 rfl) ?_
  refine m_getr (100) 13 (104) hx hb hts hown hE oc8 hM (hG.1 100 (by decide)) rfl (by decide) rfl (hG.2 (100, 13, 104) (by decide)) (by decide) tb_75 dX8_copyFrom_134 ?_
  refine lv_iconst (v := (0)) hx hb dX8_copyFrom_137 (by decide) ?_
  refine lv_sipush (v := (576)) hx hb dX8_copyFrom_138 (by decide) ?_
  refine m_copyi (124) (104) hx hb (hml.trans hl.1.symm) hown hE hM hS (hT.2.1 4 (by decide)) rfl (hG.1 104 (by decide)) rfl (hts _ tb_1151) (hts _ tb_568) (hts _ tb_567) (hts _ tb_13) ⟨⟨by decide, by decide, by decide⟩, by decide, by decide⟩ (Nat.le_of_ble_eq_true rfl) (Nat.le_of_ble_eq_true rfl) dX8_copyFrom_141 (fun H locs I30 eI30 hM hS => ?_)
  have hI : INV I30 := by rw [eI30]; exact hI.cpy (by intro i hi; left; rfl)
  have hK : Kp [(101, 109)] [(100, 0), (100, 1), (100, 2), (100, 3), (100, 4), (100, 5), (100, 6), (100, 7), (100, 8), (100, 9)] I I30 := by rw [eI30]; exact hK.cpy rfl
  have hkI30 : Kp [(104, 105)] [] I29 I30 := by rw [eI30]; exact Kp.rf.cpy rfl
  have hcpI30 : ∀ j, j < 576 → I30 104 j = I29 124 j := fun j hj => by rw [eI30]; exact cpy_at rfl hj
  refine lv_aload_n hx hb dX8_copyFrom_144 rfl (lv_at hl 1 rfl) ?_
  refine m_getr (120) 14 (125) hx hb hts hown hE oc8 hM (hT.2.1 0 (by decide)) rfl (by decide) rfl (hT.2.2 4 (by decide)) (by decide) tb_78 dX8_copyFrom_145 ?_
  refine lv_iconst (v := (0)) hx hb dX8_copyFrom_148 (by decide) ?_
  refine lv_aload_n hx hb dX8_copyFrom_149 rfl (lv_at hl 0 rfl) ?_
  refine m_getr (100) 14 (105) hx hb hts hown hE oc8 hM (hG.1 100 (by decide)) rfl (by decide) rfl (hG.2 (100, 14, 105) (by decide)) (by decide) tb_78 dX8_copyFrom_150 ?_
  refine lv_iconst (v := (0)) hx hb dX8_copyFrom_153 (by decide) ?_
  refine lv_sipush (v := (288)) hx hb dX8_copyFrom_154 (by decide) ?_
  refine m_copyi (125) (105) hx hb (hml.trans hl.1.symm) hown hE hM hS (hT.2.1 5 (by decide)) rfl (hG.1 105 (by decide)) rfl (hts _ tb_1151) (hts _ tb_568) (hts _ tb_567) (hts _ tb_13) ⟨⟨by decide, by decide, by decide⟩, by decide, by decide⟩ (Nat.le_of_ble_eq_true rfl) (Nat.le_of_ble_eq_true rfl) dX8_copyFrom_157 (fun H locs I31 eI31 hM hS => ?_)
  have hI : INV I31 := by rw [eI31]; exact hI.cpy (by intro i hi; left; rfl)
  have hK : Kp [(101, 109)] [(100, 0), (100, 1), (100, 2), (100, 3), (100, 4), (100, 5), (100, 6), (100, 7), (100, 8), (100, 9)] I I31 := by rw [eI31]; exact hK.cpy rfl
  have hkI31 : Kp [(105, 106)] [] I30 I31 := by rw [eI31]; exact Kp.rf.cpy rfl
  have hcpI31 : ∀ j, j < 288 → I31 105 j = I30 125 j := fun j hj => by rw [eI31]; exact cpy_at rfl hj
  refine lv_aload_n hx hb dX8_copyFrom_160 rfl (lv_at hl 1 rfl) ?_
  refine m_getr (120) 15 (126) hx hb hts hown hE oc8 hM (hT.2.1 0 (by decide)) rfl (by decide) rfl (hT.2.2 5 (by decide)) (by decide) tb_80 dX8_copyFrom_161 ?_
  refine lv_iconst (v := (0)) hx hb dX8_copyFrom_164 (by decide) ?_
  refine lv_aload_n hx hb dX8_copyFrom_165 rfl (lv_at hl 0 rfl) ?_
  refine m_getr (100) 15 (106) hx hb hts hown hE oc8 hM (hG.1 100 (by decide)) rfl (by decide) rfl (hG.2 (100, 15, 106) (by decide)) (by decide) tb_80 dX8_copyFrom_166 ?_
  refine lv_iconst (v := (0)) hx hb dX8_copyFrom_169 (by decide) ?_
  refine lv_sipush (v := (288)) hx hb dX8_copyFrom_170 (by decide) ?_
  refine m_copyi (126) (106) hx hb (hml.trans hl.1.symm) hown hE hM hS (hT.2.1 6 (by decide)) rfl (hG.1 106 (by decide)) rfl (hts _ tb_1151) (hts _ tb_568) (hts _ tb_567) (hts _ tb_13) ⟨⟨by decide, by decide, by decide⟩, by decide, by decide⟩ (Nat.le_of_ble_eq_true rfl) (Nat.le_of_ble_eq_true rfl) dX8_copyFrom_173 (fun H locs I32 eI32 hM hS => ?_)
  have hI : INV I32 := by rw [eI32]; exact hI.cpy (by intro i hi; left; rfl)
  have hK : Kp [(101, 109)] [(100, 0), (100, 1), (100, 2), (100, 3), (100, 4), (100, 5), (100, 6), (100, 7), (100, 8), (100, 9)] I I32 := by rw [eI32]; exact hK.cpy rfl
  have hkI32 : Kp [(106, 107)] [] I31 I32 := by rw [eI32]; exact Kp.rf.cpy rfl
  have hcpI32 : ∀ j, j < 288 → I32 106 j = I31 126 j := fun j hj => by rw [eI32]; exact cpy_at rfl hj
  refine lv_aload_n hx hb dX8_copyFrom_176 rfl (lv_at hl 1 rfl) ?_
  refine m_getr (120) 16 (127) hx hb hts hown hE oc8 hM (hT.2.1 0 (by decide)) rfl (by decide) rfl (hT.2.2 6 (by decide)) (by decide) tb_82 dX8_copyFrom_177 ?_
  refine lv_iconst (v := (0)) hx hb dX8_copyFrom_180 (by decide) ?_
  refine lv_aload_n hx hb dX8_copyFrom_181 rfl (lv_at hl 0 rfl) ?_
  refine m_getr (100) 16 (107) hx hb hts hown hE oc8 hM (hG.1 100 (by decide)) rfl (by decide) rfl (hG.2 (100, 16, 107) (by decide)) (by decide) tb_82 dX8_copyFrom_182 ?_
  refine lv_iconst (v := (0)) hx hb dX8_copyFrom_185 (by decide) ?_
  refine lv_sipush (v := (240)) hx hb dX8_copyFrom_186 (by decide) ?_
  refine m_copyi (127) (107) hx hb (hml.trans hl.1.symm) hown hE hM hS (hT.2.1 7 (by decide)) rfl (hG.1 107 (by decide)) rfl (hts _ tb_1151) (hts _ tb_568) (hts _ tb_567) (hts _ tb_13) ⟨⟨by decide, by decide, by decide⟩, by decide, by decide⟩ (Nat.le_of_ble_eq_true rfl) (Nat.le_of_ble_eq_true rfl) dX8_copyFrom_189 (fun H locs I33 eI33 hM hS => ?_)
  have hI : INV I33 := by rw [eI33]; exact hI.cpy (by intro i hi; left; rfl)
  have hK : Kp [(101, 109)] [(100, 0), (100, 1), (100, 2), (100, 3), (100, 4), (100, 5), (100, 6), (100, 7), (100, 8), (100, 9)] I I33 := by rw [eI33]; exact hK.cpy rfl
  have hkI33 : Kp [(107, 108)] [] I32 I33 := by rw [eI33]; exact Kp.rf.cpy rfl
  have hcpI33 : ∀ j, j < 240 → I33 107 j = I32 127 j := fun j hj => by rw [eI33]; exact cpy_at rfl hj
  refine lv_aload_n hx hb dX8_copyFrom_192 rfl (lv_at hl 1 rfl) ?_
  refine m_getr (120) 17 (128) hx hb hts hown hE oc8 hM (hT.2.1 0 (by decide)) rfl (by decide) rfl (hT.2.2 7 (by decide)) (by decide) tb_83 dX8_copyFrom_193 ?_
  refine lv_iconst (v := (0)) hx hb dX8_copyFrom_196 (by decide) ?_
  refine lv_aload_n hx hb dX8_copyFrom_197 rfl (lv_at hl 0 rfl) ?_
  refine m_getr (100) 17 (108) hx hb hts hown hE oc8 hM (hG.1 100 (by decide)) rfl (by decide) rfl (hG.2 (100, 17, 108) (by decide)) (by decide) tb_83 dX8_copyFrom_198 ?_
  refine lv_iconst (v := (0)) hx hb dX8_copyFrom_201 (by decide) ?_
  refine lv_bipush (v := (56)) hx hb dX8_copyFrom_202 (by decide) ?_
  refine m_copyi (128) (108) hx hb (hml.trans hl.1.symm) hown hE hM hS (hT.2.1 8 (by decide)) rfl (hG.1 108 (by decide)) rfl (hts _ tb_1151) (hts _ tb_568) (hts _ tb_567) (hts _ tb_13) ⟨⟨by decide, by decide, by decide⟩, by decide, by decide⟩ (Nat.le_of_ble_eq_true rfl) (Nat.le_of_ble_eq_true rfl) dX8_copyFrom_204 (fun H locs I34 eI34 hM hS => ?_)
  have hI : INV I34 := by rw [eI34]; exact hI.cpy (by intro i hi; left; rfl)
  have hK : Kp [(101, 109)] [(100, 0), (100, 1), (100, 2), (100, 3), (100, 4), (100, 5), (100, 6), (100, 7), (100, 8), (100, 9)] I I34 := by rw [eI34]; exact hK.cpy rfl
  have hkI34 : Kp [(108, 109)] [] I33 I34 := by rw [eI34]; exact Kp.rf.cpy rfl
  have hcpI34 : ∀ j, j < 56 → I34 108 j = I33 128 j := fun j hj => by rw [eI34]; exact cpy_at rfl hj
  have hsc : ∀ j, j < 10 → I34 100 j = I 120 j := by
    intro j hj
    rcases (show j = 0 ∨ j = 1 ∨ j = 2 ∨ j = 3 ∨ j = 4 ∨ j = 5 ∨ j = 6 ∨ j = 7 ∨ j = 8 ∨ j = 9 by omega) with rfl | rfl | rfl | rfl | rfl | rfl | rfl | rfl | rfl | rfl
    · exact (((((((((hkI34.get (100) 0 rfl)).trans (hkI33.get (100) 0 rfl)).trans (hkI32.get (100) 0 rfl)).trans (hkI31.get (100) 0 rfl)).trans (hkI30.get (100) 0 rfl)).trans (hkI29.get (100) 0 rfl)).trans (hkI28.get (100) 0 rfl)).trans (hkI27.get (100) 0 rfl)).trans (show (u2 (u2 (u2 (u2 (u2 (u2 (u2 (u2 (u2 (u2 I (100) 0 (I (120) 0)) (100) 1 (I (120) 1)) (100) 2 (I (120) 2)) (100) 3 (I (120) 3)) (100) 4 (I (120) 4)) (100) 5 (I (120) 5)) (100) 6 (I (120) 6)) (100) 7 (I (120) 7)) (100) 8 (I (120) 8)) (100) 9 (I (120) 9)) (100) 0 = I (120) 0 from by simp [u2_v])
    · exact (((((((((hkI34.get (100) 1 rfl)).trans (hkI33.get (100) 1 rfl)).trans (hkI32.get (100) 1 rfl)).trans (hkI31.get (100) 1 rfl)).trans (hkI30.get (100) 1 rfl)).trans (hkI29.get (100) 1 rfl)).trans (hkI28.get (100) 1 rfl)).trans (hkI27.get (100) 1 rfl)).trans (show (u2 (u2 (u2 (u2 (u2 (u2 (u2 (u2 (u2 (u2 I (100) 0 (I (120) 0)) (100) 1 (I (120) 1)) (100) 2 (I (120) 2)) (100) 3 (I (120) 3)) (100) 4 (I (120) 4)) (100) 5 (I (120) 5)) (100) 6 (I (120) 6)) (100) 7 (I (120) 7)) (100) 8 (I (120) 8)) (100) 9 (I (120) 9)) (100) 1 = I (120) 1 from by simp [u2_v])
    · exact (((((((((hkI34.get (100) 2 rfl)).trans (hkI33.get (100) 2 rfl)).trans (hkI32.get (100) 2 rfl)).trans (hkI31.get (100) 2 rfl)).trans (hkI30.get (100) 2 rfl)).trans (hkI29.get (100) 2 rfl)).trans (hkI28.get (100) 2 rfl)).trans (hkI27.get (100) 2 rfl)).trans (show (u2 (u2 (u2 (u2 (u2 (u2 (u2 (u2 (u2 (u2 I (100) 0 (I (120) 0)) (100) 1 (I (120) 1)) (100) 2 (I (120) 2)) (100) 3 (I (120) 3)) (100) 4 (I (120) 4)) (100) 5 (I (120) 5)) (100) 6 (I (120) 6)) (100) 7 (I (120) 7)) (100) 8 (I (120) 8)) (100) 9 (I (120) 9)) (100) 2 = I (120) 2 from by simp [u2_v])
    · exact (((((((((hkI34.get (100) 3 rfl)).trans (hkI33.get (100) 3 rfl)).trans (hkI32.get (100) 3 rfl)).trans (hkI31.get (100) 3 rfl)).trans (hkI30.get (100) 3 rfl)).trans (hkI29.get (100) 3 rfl)).trans (hkI28.get (100) 3 rfl)).trans (hkI27.get (100) 3 rfl)).trans (show (u2 (u2 (u2 (u2 (u2 (u2 (u2 (u2 (u2 (u2 I (100) 0 (I (120) 0)) (100) 1 (I (120) 1)) (100) 2 (I (120) 2)) (100) 3 (I (120) 3)) (100) 4 (I (120) 4)) (100) 5 (I (120) 5)) (100) 6 (I (120) 6)) (100) 7 (I (120) 7)) (100) 8 (I (120) 8)) (100) 9 (I (120) 9)) (100) 3 = I (120) 3 from by simp [u2_v])
    · exact (((((((((hkI34.get (100) 4 rfl)).trans (hkI33.get (100) 4 rfl)).trans (hkI32.get (100) 4 rfl)).trans (hkI31.get (100) 4 rfl)).trans (hkI30.get (100) 4 rfl)).trans (hkI29.get (100) 4 rfl)).trans (hkI28.get (100) 4 rfl)).trans (hkI27.get (100) 4 rfl)).trans (show (u2 (u2 (u2 (u2 (u2 (u2 (u2 (u2 (u2 (u2 I (100) 0 (I (120) 0)) (100) 1 (I (120) 1)) (100) 2 (I (120) 2)) (100) 3 (I (120) 3)) (100) 4 (I (120) 4)) (100) 5 (I (120) 5)) (100) 6 (I (120) 6)) (100) 7 (I (120) 7)) (100) 8 (I (120) 8)) (100) 9 (I (120) 9)) (100) 4 = I (120) 4 from by simp [u2_v])
    · exact (((((((((hkI34.get (100) 5 rfl)).trans (hkI33.get (100) 5 rfl)).trans (hkI32.get (100) 5 rfl)).trans (hkI31.get (100) 5 rfl)).trans (hkI30.get (100) 5 rfl)).trans (hkI29.get (100) 5 rfl)).trans (hkI28.get (100) 5 rfl)).trans (hkI27.get (100) 5 rfl)).trans (show (u2 (u2 (u2 (u2 (u2 (u2 (u2 (u2 (u2 (u2 I (100) 0 (I (120) 0)) (100) 1 (I (120) 1)) (100) 2 (I (120) 2)) (100) 3 (I (120) 3)) (100) 4 (I (120) 4)) (100) 5 (I (120) 5)) (100) 6 (I (120) 6)) (100) 7 (I (120) 7)) (100) 8 (I (120) 8)) (100) 9 (I (120) 9)) (100) 5 = I (120) 5 from by simp [u2_v])
    · exact (((((((((hkI34.get (100) 6 rfl)).trans (hkI33.get (100) 6 rfl)).trans (hkI32.get (100) 6 rfl)).trans (hkI31.get (100) 6 rfl)).trans (hkI30.get (100) 6 rfl)).trans (hkI29.get (100) 6 rfl)).trans (hkI28.get (100) 6 rfl)).trans (hkI27.get (100) 6 rfl)).trans (show (u2 (u2 (u2 (u2 (u2 (u2 (u2 (u2 (u2 (u2 I (100) 0 (I (120) 0)) (100) 1 (I (120) 1)) (100) 2 (I (120) 2)) (100) 3 (I (120) 3)) (100) 4 (I (120) 4)) (100) 5 (I (120) 5)) (100) 6 (I (120) 6)) (100) 7 (I (120) 7)) (100) 8 (I (120) 8)) (100) 9 (I (120) 9)) (100) 6 = I (120) 6 from by simp [u2_v])
    · exact (((((((((hkI34.get (100) 7 rfl)).trans (hkI33.get (100) 7 rfl)).trans (hkI32.get (100) 7 rfl)).trans (hkI31.get (100) 7 rfl)).trans (hkI30.get (100) 7 rfl)).trans (hkI29.get (100) 7 rfl)).trans (hkI28.get (100) 7 rfl)).trans (hkI27.get (100) 7 rfl)).trans (show (u2 (u2 (u2 (u2 (u2 (u2 (u2 (u2 (u2 (u2 I (100) 0 (I (120) 0)) (100) 1 (I (120) 1)) (100) 2 (I (120) 2)) (100) 3 (I (120) 3)) (100) 4 (I (120) 4)) (100) 5 (I (120) 5)) (100) 6 (I (120) 6)) (100) 7 (I (120) 7)) (100) 8 (I (120) 8)) (100) 9 (I (120) 9)) (100) 7 = I (120) 7 from by simp [u2_v])
    · exact (((((((((hkI34.get (100) 8 rfl)).trans (hkI33.get (100) 8 rfl)).trans (hkI32.get (100) 8 rfl)).trans (hkI31.get (100) 8 rfl)).trans (hkI30.get (100) 8 rfl)).trans (hkI29.get (100) 8 rfl)).trans (hkI28.get (100) 8 rfl)).trans (hkI27.get (100) 8 rfl)).trans (show (u2 (u2 (u2 (u2 (u2 (u2 (u2 (u2 (u2 (u2 I (100) 0 (I (120) 0)) (100) 1 (I (120) 1)) (100) 2 (I (120) 2)) (100) 3 (I (120) 3)) (100) 4 (I (120) 4)) (100) 5 (I (120) 5)) (100) 6 (I (120) 6)) (100) 7 (I (120) 7)) (100) 8 (I (120) 8)) (100) 9 (I (120) 9)) (100) 8 = I (120) 8 from by simp [u2_v])
    · exact (((((((((hkI34.get (100) 9 rfl)).trans (hkI33.get (100) 9 rfl)).trans (hkI32.get (100) 9 rfl)).trans (hkI31.get (100) 9 rfl)).trans (hkI30.get (100) 9 rfl)).trans (hkI29.get (100) 9 rfl)).trans (hkI28.get (100) 9 rfl)).trans (hkI27.get (100) 9 rfl)).trans (show (u2 (u2 (u2 (u2 (u2 (u2 (u2 (u2 (u2 (u2 I (100) 0 (I (120) 0)) (100) 1 (I (120) 1)) (100) 2 (I (120) 2)) (100) 3 (I (120) 3)) (100) 4 (I (120) 4)) (100) 5 (I (120) 5)) (100) 6 (I (120) 6)) (100) 7 (I (120) 7)) (100) 8 (I (120) 8)) (100) 9 (I (120) 9)) (100) 9 = I (120) 9 from by simp [u2_v])
  exact m_vret hx hb hr hlocks hM hS (Nat.le_of_ble_eq_true rfl) (Nat.le_of_ble_eq_true rfl) ⟨_, _, rfl, hI, hK, ⟨hsc, (fun j hj => (congrFun ((((((((hkI34.getA 101 rfl)).trans (hkI33.getA 101 rfl)).trans (hkI32.getA 101 rfl)).trans (hkI31.getA 101 rfl)).trans (hkI30.getA 101 rfl)).trans (hkI29.getA 101 rfl)).trans (hkI28.getA 101 rfl)) j).trans ((hcpI27 j hj).trans (congrFun ((show (u2 (u2 (u2 (u2 (u2 (u2 (u2 (u2 (u2 (u2 I (100) 0 (I (120) 0)) (100) 1 (I (120) 1)) (100) 2 (I (120) 2)) (100) 3 (I (120) 3)) (100) 4 (I (120) 4)) (100) 5 (I (120) 5)) (100) 6 (I (120) 6)) (100) 7 (I (120) 7)) (100) 8 (I (120) 8)) (100) 9 (I (120) 9)) 121 = I 121 from by funext zz; simp [u2_v])) j))), (fun j hj => (congrFun (((((((hkI34.getA 102 rfl)).trans (hkI33.getA 102 rfl)).trans (hkI32.getA 102 rfl)).trans (hkI31.getA 102 rfl)).trans (hkI30.getA 102 rfl)).trans (hkI29.getA 102 rfl)) j).trans ((hcpI28 j hj).trans (congrFun (((hkI27.getA 122 rfl)).trans (show (u2 (u2 (u2 (u2 (u2 (u2 (u2 (u2 (u2 (u2 I (100) 0 (I (120) 0)) (100) 1 (I (120) 1)) (100) 2 (I (120) 2)) (100) 3 (I (120) 3)) (100) 4 (I (120) 4)) (100) 5 (I (120) 5)) (100) 6 (I (120) 6)) (100) 7 (I (120) 7)) (100) 8 (I (120) 8)) (100) 9 (I (120) 9)) 122 = I 122 from by funext zz; simp [u2_v])) j))), (fun j hj => (congrFun ((((((hkI34.getA 103 rfl)).trans (hkI33.getA 103 rfl)).trans (hkI32.getA 103 rfl)).trans (hkI31.getA 103 rfl)).trans (hkI30.getA 103 rfl)) j).trans ((hcpI29 j hj).trans (congrFun ((((hkI28.getA 123 rfl)).trans (hkI27.getA 123 rfl)).trans (show (u2 (u2 (u2 (u2 (u2 (u2 (u2 (u2 (u2 (u2 I (100) 0 (I (120) 0)) (100) 1 (I (120) 1)) (100) 2 (I (120) 2)) (100) 3 (I (120) 3)) (100) 4 (I (120) 4)) (100) 5 (I (120) 5)) (100) 6 (I (120) 6)) (100) 7 (I (120) 7)) (100) 8 (I (120) 8)) (100) 9 (I (120) 9)) 123 = I 123 from by funext zz; simp [u2_v])) j))), (fun j hj => (congrFun (((((hkI34.getA 104 rfl)).trans (hkI33.getA 104 rfl)).trans (hkI32.getA 104 rfl)).trans (hkI31.getA 104 rfl)) j).trans ((hcpI30 j hj).trans (congrFun (((((hkI29.getA 124 rfl)).trans (hkI28.getA 124 rfl)).trans (hkI27.getA 124 rfl)).trans (show (u2 (u2 (u2 (u2 (u2 (u2 (u2 (u2 (u2 (u2 I (100) 0 (I (120) 0)) (100) 1 (I (120) 1)) (100) 2 (I (120) 2)) (100) 3 (I (120) 3)) (100) 4 (I (120) 4)) (100) 5 (I (120) 5)) (100) 6 (I (120) 6)) (100) 7 (I (120) 7)) (100) 8 (I (120) 8)) (100) 9 (I (120) 9)) 124 = I 124 from by funext zz; simp [u2_v])) j))), (fun j hj => (congrFun ((((hkI34.getA 105 rfl)).trans (hkI33.getA 105 rfl)).trans (hkI32.getA 105 rfl)) j).trans ((hcpI31 j hj).trans (congrFun ((((((hkI30.getA 125 rfl)).trans (hkI29.getA 125 rfl)).trans (hkI28.getA 125 rfl)).trans (hkI27.getA 125 rfl)).trans (show (u2 (u2 (u2 (u2 (u2 (u2 (u2 (u2 (u2 (u2 I (100) 0 (I (120) 0)) (100) 1 (I (120) 1)) (100) 2 (I (120) 2)) (100) 3 (I (120) 3)) (100) 4 (I (120) 4)) (100) 5 (I (120) 5)) (100) 6 (I (120) 6)) (100) 7 (I (120) 7)) (100) 8 (I (120) 8)) (100) 9 (I (120) 9)) 125 = I 125 from by funext zz; simp [u2_v])) j))), (fun j hj => (congrFun (((hkI34.getA 106 rfl)).trans (hkI33.getA 106 rfl)) j).trans ((hcpI32 j hj).trans (congrFun (((((((hkI31.getA 126 rfl)).trans (hkI30.getA 126 rfl)).trans (hkI29.getA 126 rfl)).trans (hkI28.getA 126 rfl)).trans (hkI27.getA 126 rfl)).trans (show (u2 (u2 (u2 (u2 (u2 (u2 (u2 (u2 (u2 (u2 I (100) 0 (I (120) 0)) (100) 1 (I (120) 1)) (100) 2 (I (120) 2)) (100) 3 (I (120) 3)) (100) 4 (I (120) 4)) (100) 5 (I (120) 5)) (100) 6 (I (120) 6)) (100) 7 (I (120) 7)) (100) 8 (I (120) 8)) (100) 9 (I (120) 9)) 126 = I 126 from by funext zz; simp [u2_v])) j))), (fun j hj => (congrFun ((hkI34.getA 107 rfl)) j).trans ((hcpI33 j hj).trans (congrFun ((((((((hkI32.getA 127 rfl)).trans (hkI31.getA 127 rfl)).trans (hkI30.getA 127 rfl)).trans (hkI29.getA 127 rfl)).trans (hkI28.getA 127 rfl)).trans (hkI27.getA 127 rfl)).trans (show (u2 (u2 (u2 (u2 (u2 (u2 (u2 (u2 (u2 (u2 I (100) 0 (I (120) 0)) (100) 1 (I (120) 1)) (100) 2 (I (120) 2)) (100) 3 (I (120) 3)) (100) 4 (I (120) 4)) (100) 5 (I (120) 5)) (100) 6 (I (120) 6)) (100) 7 (I (120) 7)) (100) 8 (I (120) 8)) (100) 9 (I (120) 9)) 127 = I 127 from by funext zz; simp [u2_v])) j))), (fun j hj => (congrFun (rfl) j).trans ((hcpI34 j hj).trans (congrFun (((((((((hkI33.getA 128 rfl)).trans (hkI32.getA 128 rfl)).trans (hkI31.getA 128 rfl)).trans (hkI30.getA 128 rfl)).trans (hkI29.getA 128 rfl)).trans (hkI28.getA 128 rfl)).trans (hkI27.getA 128 rfl)).trans (show (u2 (u2 (u2 (u2 (u2 (u2 (u2 (u2 (u2 (u2 I (100) 0 (I (120) 0)) (100) 1 (I (120) 1)) (100) 2 (I (120) 2)) (100) 3 (I (120) 3)) (100) 4 (I (120) 4)) (100) 5 (I (120) 5)) (100) 6 (I (120) 6)) (100) 7 (I (120) 7)) (100) 8 (I (120) 8)) (100) 9 (I (120) 9)) 128 = I 128 from by funext zz; simp [u2_v])) j)))⟩⟩ dX8_copyFrom_207
set_option maxHeartbeats 4000000 in
set_option maxRecDepth 20000 in
theorem V_X8_copyFrom_130_100_f (l : Launch) (D : va_G) (A : Nat → Prop) (ad : Nat → Nat) (ns : List Nat) (I : MI) (L : ML) (G : MG) (hG : SGC ns G) (hI : INV I) (hT : TOK ns G 130) : Met l yX8_copyFrom (wd yX8_copyFrom cX8_copyFrom 2 none) ({ frames := 1, cells := 0, slots := 0, locals := 40 }) (va_Pc [.ref (ad (130)), .ref (ad (100))] (PM D A ad ns I L G)) (va_Qv (fun u => ∃ I2 L2, u = (ad, ns, I2, L2, G) ∧ INV I2 ∧ Kp [(131, 139)] [(130, 0), (130, 1), (130, 2), (130, 3), (130, 4), (130, 5), (130, 6), (130, 7), (130, 8), (130, 9)] I I2 ∧ (CPF 130 100 I I2)) (BM D A) A) 0 0 A := by
  refine m_ofW (by decide) (Nat.le_of_ble_eq_true rfl) ?_
  intro p e s m below meth c ls args hC hE hM hA hS hl
  obtain ⟨hx, hb, hml, hown, hts, hr, hlocks, hin⟩ := hC
  have k0 : (0 : Int32).toInt = 0 := by decide
  have k56 : (56 : Int32).toInt = 56 := by decide
  have k240 : (240 : Int32).toInt = 240 := by decide
  have k288 : (288 : Int32).toInt = 288 := by decide
  have k576 : (576 : Int32).toInt = 576 := by decide
  have hK : Kp [(131, 139)] [(130, 0), (130, 1), (130, 2), (130, 3), (130, 4), (130, 5), (130, 6), (130, 7), (130, 8), (130, 9)] I I := Kp.rf
  have hl : lv_has ls 2 [(0, .ref (ad (130))), (1, .ref (ad (100)))] := hl
  refine lv_aload_n hx hb dX8_copyFrom_0 rfl (lv_at hl 0 rfl) ?_
  refine lv_aload_n hx hb dX8_copyFrom_1 rfl (lv_at hl 1 rfl) ?_
  refine m_geti (100) 0 hx hb hts hown hE oc8 hM (hG.1 100 (by decide)) rfl (by decide) rfl tb_34 dX8_copyFrom_2 ?_
  have g1 := hI.get (100) 0 (lo := 0) (hi := 24) rfl
  refine m_puti (130) 0 hx hb hts hown hE oc8 hM hS (hT.2.1 0 (by decide)) rfl (by decide) rfl rfl rfl rfl tb_34 dX8_copyFrom_5 (fun H locs I2 eI2 hM hS => ?_)
  subst eI2
  have hI := hI.put (n := 130) (k := 0) (v := I (100) 0) (lo := 0) (hi := 24) rfl (by first | omega | decide)
  have hK := hK.put (n := 130) (k := 0) (v := I (100) 0) (by first | rfl | simp [inR])
  refine lv_aload_n hx hb dX8_copyFrom_8 rfl (lv_at hl 0 rfl) ?_
  refine lv_aload_n hx hb dX8_copyFrom_9 rfl (lv_at hl 1 rfl) ?_
  refine m_geti (100) 1 hx hb hts hown hE oc8 hM (hG.1 100 (by decide)) rfl (by decide) rfl tb_37 dX8_copyFrom_10 ?_
  have g3 := hI.get (100) 1 (lo := 0) (hi := 24) rfl
  have z4 : (u2 I (130) 0 (I (100) 0)) (100) 1 = I (100) 1 := (show (u2 I (130) 0 (I (100) 0)) (100) 1 = I (100) 1 from by simp [u2_v])
  rw [z4] at g3 ⊢
  refine m_puti (130) 1 hx hb hts hown hE oc8 hM hS (hT.2.1 0 (by decide)) rfl (by decide) rfl rfl rfl rfl tb_37 dX8_copyFrom_13 (fun H locs I5 eI5 hM hS => ?_)
  subst eI5
  have hI := hI.put (n := 130) (k := 1) (v := I (100) 1) (lo := 0) (hi := 24) rfl (by first | omega | decide)
  have hK := hK.put (n := 130) (k := 1) (v := I (100) 1) (by first | rfl | simp [inR])
  refine lv_aload_n hx hb dX8_copyFrom_16 rfl (lv_at hl 0 rfl) ?_
  refine lv_aload_n hx hb dX8_copyFrom_17 rfl (lv_at hl 1 rfl) ?_
  refine m_geti (100) 2 hx hb hts hown hE oc8 hM (hG.1 100 (by decide)) rfl (by decide) rfl tb_41 dX8_copyFrom_18 ?_
  have g6 := hI.get (100) 2 (lo := 0) (hi := 23) rfl
  have z7 : (u2 (u2 I (130) 0 (I (100) 0)) (130) 1 (I (100) 1)) (100) 2 = I (100) 2 := (show (u2 (u2 I (130) 0 (I (100) 0)) (130) 1 (I (100) 1)) (100) 2 = I (100) 2 from by simp [u2_v])
  rw [z7] at g6 ⊢
  refine m_puti (130) 2 hx hb hts hown hE oc8 hM hS (hT.2.1 0 (by decide)) rfl (by decide) rfl rfl rfl rfl tb_41 dX8_copyFrom_21 (fun H locs I8 eI8 hM hS => ?_)
  subst eI8
  have hI := hI.put (n := 130) (k := 2) (v := I (100) 2) (lo := 0) (hi := 23) rfl (by first | omega | decide)
  have hK := hK.put (n := 130) (k := 2) (v := I (100) 2) (by first | rfl | simp [inR])
  refine lv_aload_n hx hb dX8_copyFrom_24 rfl (lv_at hl 0 rfl) ?_
  refine lv_aload_n hx hb dX8_copyFrom_25 rfl (lv_at hl 1 rfl) ?_
  refine m_geti (100) 3 hx hb hts hown hE oc8 hM (hG.1 100 (by decide)) rfl (by decide) rfl tb_45 dX8_copyFrom_26 ?_
  have g9 := hI.get (100) 3 (lo := 0) (hi := 23) rfl
  have z10 : (u2 (u2 (u2 I (130) 0 (I (100) 0)) (130) 1 (I (100) 1)) (130) 2 (I (100) 2)) (100) 3 = I (100) 3 := (show (u2 (u2 (u2 I (130) 0 (I (100) 0)) (130) 1 (I (100) 1)) (130) 2 (I (100) 2)) (100) 3 = I (100) 3 from by simp [u2_v])
  rw [z10] at g9 ⊢
  refine m_puti (130) 3 hx hb hts hown hE oc8 hM hS (hT.2.1 0 (by decide)) rfl (by decide) rfl rfl rfl rfl tb_45 dX8_copyFrom_29 (fun H locs I11 eI11 hM hS => ?_)
  subst eI11
  have hI := hI.put (n := 130) (k := 3) (v := I (100) 3) (lo := 0) (hi := 23) rfl (by first | omega | decide)
  have hK := hK.put (n := 130) (k := 3) (v := I (100) 3) (by first | rfl | simp [inR])
  refine lv_aload_n hx hb dX8_copyFrom_32 rfl (lv_at hl 0 rfl) ?_
  refine lv_aload_n hx hb dX8_copyFrom_33 rfl (lv_at hl 1 rfl) ?_
  refine m_geti (100) 4 hx hb hts hown hE oc8 hM (hG.1 100 (by decide)) rfl (by decide) rfl tb_48 dX8_copyFrom_34 ?_
  have z12 : (u2 (u2 (u2 (u2 I (130) 0 (I (100) 0)) (130) 1 (I (100) 1)) (130) 2 (I (100) 2)) (130) 3 (I (100) 3)) (100) 4 = I (100) 4 := (show (u2 (u2 (u2 (u2 I (130) 0 (I (100) 0)) (130) 1 (I (100) 1)) (130) 2 (I (100) 2)) (130) 3 (I (100) 3)) (100) 4 = I (100) 4 from by simp [u2_v])
  rw [z12]
  refine m_puti (130) 4 hx hb hts hown hE oc8 hM hS (hT.2.1 0 (by decide)) rfl (by decide) rfl rfl rfl rfl tb_48 dX8_copyFrom_37 (fun H locs I13 eI13 hM hS => ?_)
  subst eI13
  have hI := hI.putF (n := 130) (k := 4) (v := I (100) 4) rfl
  have hK := hK.put (n := 130) (k := 4) (v := I (100) 4) (by first | rfl | simp [inR])
  refine lv_aload_n hx hb dX8_copyFrom_40 rfl (lv_at hl 0 rfl) ?_
  refine lv_aload_n hx hb dX8_copyFrom_41 rfl (lv_at hl 1 rfl) ?_
  refine m_geti (100) 5 hx hb hts hown hE oc8 hM (hG.1 100 (by decide)) rfl (by decide) rfl tb_51 dX8_copyFrom_42 ?_
  have g14 := hI.get (100) 5 (lo := 0) (hi := 11) rfl
  have z15 : (u2 (u2 (u2 (u2 (u2 I (130) 0 (I (100) 0)) (130) 1 (I (100) 1)) (130) 2 (I (100) 2)) (130) 3 (I (100) 3)) (130) 4 (I (100) 4)) (100) 5 = I (100) 5 := (show (u2 (u2 (u2 (u2 (u2 I (130) 0 (I (100) 0)) (130) 1 (I (100) 1)) (130) 2 (I (100) 2)) (130) 3 (I (100) 3)) (130) 4 (I (100) 4)) (100) 5 = I (100) 5 from by simp [u2_v])
  rw [z15] at g14 ⊢
  refine m_puti (130) 5 hx hb hts hown hE oc8 hM hS (hT.2.1 0 (by decide)) rfl (by decide) rfl rfl rfl rfl tb_51 dX8_copyFrom_45 (fun H locs I16 eI16 hM hS => ?_)
  subst eI16
  have hI := hI.put (n := 130) (k := 5) (v := I (100) 5) (lo := 0) (hi := 11) rfl (by first | omega | decide)
  have hK := hK.put (n := 130) (k := 5) (v := I (100) 5) (by first | rfl | simp [inR])
  refine lv_aload_n hx hb dX8_copyFrom_48 rfl (lv_at hl 0 rfl) ?_
  refine lv_aload_n hx hb dX8_copyFrom_49 rfl (lv_at hl 1 rfl) ?_
  refine m_geti (100) 6 hx hb hts hown hE oc8 hM (hG.1 100 (by decide)) rfl (by decide) rfl tb_54 dX8_copyFrom_50 ?_
  have z17 : (u2 (u2 (u2 (u2 (u2 (u2 I (130) 0 (I (100) 0)) (130) 1 (I (100) 1)) (130) 2 (I (100) 2)) (130) 3 (I (100) 3)) (130) 4 (I (100) 4)) (130) 5 (I (100) 5)) (100) 6 = I (100) 6 := (show (u2 (u2 (u2 (u2 (u2 (u2 I (130) 0 (I (100) 0)) (130) 1 (I (100) 1)) (130) 2 (I (100) 2)) (130) 3 (I (100) 3)) (130) 4 (I (100) 4)) (130) 5 (I (100) 5)) (100) 6 = I (100) 6 from by simp [u2_v])
  rw [z17]
  refine m_puti (130) 6 hx hb hts hown hE oc8 hM hS (hT.2.1 0 (by decide)) rfl (by decide) rfl rfl rfl rfl tb_54 dX8_copyFrom_53 (fun H locs I18 eI18 hM hS => ?_)
  subst eI18
  have hI := hI.putF (n := 130) (k := 6) (v := I (100) 6) rfl
  have hK := hK.put (n := 130) (k := 6) (v := I (100) 6) (by first | rfl | simp [inR])
  refine lv_aload_n hx hb dX8_copyFrom_56 rfl (lv_at hl 0 rfl) ?_
  refine lv_aload_n hx hb dX8_copyFrom_57 rfl (lv_at hl 1 rfl) ?_
  refine m_geti (100) 7 hx hb hts hown hE oc8 hM (hG.1 100 (by decide)) rfl (by decide) rfl tb_57 dX8_copyFrom_58 ?_
  have z19 : (u2 (u2 (u2 (u2 (u2 (u2 (u2 I (130) 0 (I (100) 0)) (130) 1 (I (100) 1)) (130) 2 (I (100) 2)) (130) 3 (I (100) 3)) (130) 4 (I (100) 4)) (130) 5 (I (100) 5)) (130) 6 (I (100) 6)) (100) 7 = I (100) 7 := (show (u2 (u2 (u2 (u2 (u2 (u2 (u2 I (130) 0 (I (100) 0)) (130) 1 (I (100) 1)) (130) 2 (I (100) 2)) (130) 3 (I (100) 3)) (130) 4 (I (100) 4)) (130) 5 (I (100) 5)) (130) 6 (I (100) 6)) (100) 7 = I (100) 7 from by simp [u2_v])
  rw [z19]
  refine m_puti (130) 7 hx hb hts hown hE oc8 hM hS (hT.2.1 0 (by decide)) rfl (by decide) rfl rfl rfl rfl tb_57 dX8_copyFrom_61 (fun H locs I20 eI20 hM hS => ?_)
  subst eI20
  have hI := hI.putF (n := 130) (k := 7) (v := I (100) 7) rfl
  have hK := hK.put (n := 130) (k := 7) (v := I (100) 7) (by first | rfl | simp [inR])
  refine lv_aload_n hx hb dX8_copyFrom_64 rfl (lv_at hl 0 rfl) ?_
  refine lv_aload_n hx hb dX8_copyFrom_65 rfl (lv_at hl 1 rfl) ?_
  refine m_geti (100) 8 hx hb hts hown hE oc8 hM (hG.1 100 (by decide)) rfl (by decide) rfl tb_59 dX8_copyFrom_66 ?_
  have g21 := hI.get (100) 8 (lo := 0) (hi := 24) rfl
  have z22 : (u2 (u2 (u2 (u2 (u2 (u2 (u2 (u2 I (130) 0 (I (100) 0)) (130) 1 (I (100) 1)) (130) 2 (I (100) 2)) (130) 3 (I (100) 3)) (130) 4 (I (100) 4)) (130) 5 (I (100) 5)) (130) 6 (I (100) 6)) (130) 7 (I (100) 7)) (100) 8 = I (100) 8 := (show (u2 (u2 (u2 (u2 (u2 (u2 (u2 (u2 I (130) 0 (I (100) 0)) (130) 1 (I (100) 1)) (130) 2 (I (100) 2)) (130) 3 (I (100) 3)) (130) 4 (I (100) 4)) (130) 5 (I (100) 5)) (130) 6 (I (100) 6)) (130) 7 (I (100) 7)) (100) 8 = I (100) 8 from by simp [u2_v])
  rw [z22] at g21 ⊢
  refine m_puti (130) 8 hx hb hts hown hE oc8 hM hS (hT.2.1 0 (by decide)) rfl (by decide) rfl rfl rfl rfl tb_59 dX8_copyFrom_69 (fun H locs I23 eI23 hM hS => ?_)
  subst eI23
  have hI := hI.put (n := 130) (k := 8) (v := I (100) 8) (lo := 0) (hi := 24) rfl (by first | omega | decide)
  have hK := hK.put (n := 130) (k := 8) (v := I (100) 8) (by first | rfl | simp [inR])
  refine lv_aload_n hx hb dX8_copyFrom_72 rfl (lv_at hl 0 rfl) ?_
  refine lv_aload_n hx hb dX8_copyFrom_73 rfl (lv_at hl 1 rfl) ?_
  refine m_geti (100) 9 hx hb hts hown hE oc8 hM (hG.1 100 (by decide)) rfl (by decide) rfl tb_63 dX8_copyFrom_74 ?_
  have g24 := hI.get (100) 9 (lo := 0) (hi := 8) rfl
  have z25 : (u2 (u2 (u2 (u2 (u2 (u2 (u2 (u2 (u2 I (130) 0 (I (100) 0)) (130) 1 (I (100) 1)) (130) 2 (I (100) 2)) (130) 3 (I (100) 3)) (130) 4 (I (100) 4)) (130) 5 (I (100) 5)) (130) 6 (I (100) 6)) (130) 7 (I (100) 7)) (130) 8 (I (100) 8)) (100) 9 = I (100) 9 := (show (u2 (u2 (u2 (u2 (u2 (u2 (u2 (u2 (u2 I (130) 0 (I (100) 0)) (130) 1 (I (100) 1)) (130) 2 (I (100) 2)) (130) 3 (I (100) 3)) (130) 4 (I (100) 4)) (130) 5 (I (100) 5)) (130) 6 (I (100) 6)) (130) 7 (I (100) 7)) (130) 8 (I (100) 8)) (100) 9 = I (100) 9 from by simp [u2_v])
  rw [z25] at g24 ⊢
  refine m_puti (130) 9 hx hb hts hown hE oc8 hM hS (hT.2.1 0 (by decide)) rfl (by decide) rfl rfl rfl rfl tb_63 dX8_copyFrom_77 (fun H locs I26 eI26 hM hS => ?_)
  subst eI26
  have hI := hI.put (n := 130) (k := 9) (v := I (100) 9) (lo := 0) (hi := 8) rfl (by first | omega | decide)
  have hK := hK.put (n := 130) (k := 9) (v := I (100) 9) (by first | rfl | simp [inR])
  refine lv_aload_n hx hb dX8_copyFrom_80 rfl (lv_at hl 1 rfl) ?_
  refine m_getr (100) 10 (101) hx hb hts hown hE oc8 hM (hG.1 100 (by decide)) rfl (by decide) rfl (hG.2 (100, 10, 101) (by decide)) (by decide) tb_66 dX8_copyFrom_81 ?_
  refine lv_iconst (v := (0)) hx hb dX8_copyFrom_84 (by decide) ?_
  refine lv_aload_n hx hb dX8_copyFrom_85 rfl (lv_at hl 0 rfl) ?_
  refine m_getr (130) 10 (131) hx hb hts hown hE oc8 hM (hT.2.1 0 (by decide)) rfl (by decide) rfl (hT.2.2 0 (by decide)) (by decide) tb_66 dX8_copyFrom_86 ?_
  refine lv_iconst (v := (0)) hx hb dX8_copyFrom_89 (by decide) ?_
  refine lv_sipush (v := (576)) hx hb dX8_copyFrom_90 (by decide) ?_
  refine m_copyi (101) (131) hx hb (hml.trans hl.1.symm) hown hE hM hS (hG.1 101 (by decide)) rfl (hT.2.1 1 (by decide)) rfl (hts _ tb_1151) (hts _ tb_568) (hts _ tb_567) (hts _ tb_13) ⟨⟨by decide, by decide, by decide⟩, by decide, by decide⟩ (Nat.le_of_ble_eq_true rfl) (Nat.le_of_ble_eq_true rfl) dX8_copyFrom_93 (fun H locs I27 eI27 hM hS => ?_)
  have hI : INV I27 := by rw [eI27]; exact hI.cpy (by intro i hi; left; rfl)
  have hK : Kp [(131, 139)] [(130, 0), (130, 1), (130, 2), (130, 3), (130, 4), (130, 5), (130, 6), (130, 7), (130, 8), (130, 9)] I I27 := by rw [eI27]; exact hK.cpy rfl
  have hkI27 : Kp [(131, 132)] [] (u2 (u2 (u2 (u2 (u2 (u2 (u2 (u2 (u2 (u2 I (130) 0 (I (100) 0)) (130) 1 (I (100) 1)) (130) 2 (I (100) 2)) (130) 3 (I (100) 3)) (130) 4 (I (100) 4)) (130) 5 (I (100) 5)) (130) 6 (I (100) 6)) (130) 7 (I (100) 7)) (130) 8 (I (100) 8)) (130) 9 (I (100) 9)) I27 := by rw [eI27]; exact Kp.rf.cpy rfl
  have hcpI27 : ∀ j, j < 576 → I27 131 j = (u2 (u2 (u2 (u2 (u2 (u2 (u2 (u2 (u2 (u2 I (130) 0 (I (100) 0)) (130) 1 (I (100) 1)) (130) 2 (I (100) 2)) (130) 3 (I (100) 3)) (130) 4 (I (100) 4)) (130) 5 (I (100) 5)) (130) 6 (I (100) 6)) (130) 7 (I (100) 7)) (130) 8 (I (100) 8)) (130) 9 (I (100) 9)) 101 j := fun j hj => by rw [eI27]; exact cpy_at rfl hj
  refine lv_aload_n hx hb dX8_copyFrom_96 rfl (lv_at hl 1 rfl) ?_
  refine m_getr (100) 11 (102) hx hb hts hown hE oc8 hM (hG.1 100 (by decide)) rfl (by decide) rfl (hG.2 (100, 11, 102) (by decide)) (by decide) tb_68 dX8_copyFrom_97 ?_
  refine lv_iconst (v := (0)) hx hb dX8_copyFrom_100 (by decide) ?_
  refine lv_aload_n hx hb dX8_copyFrom_101 rfl (lv_at hl 0 rfl) ?_
  refine m_getr (130) 11 (132) hx hb hts hown hE oc8 hM (hT.2.1 0 (by decide)) rfl (by decide) rfl (hT.2.2 1 (by decide)) (by decide) tb_68 dX8_copyFrom_102 ?_
  refine lv_iconst (v := (0)) hx hb dX8_copyFrom_105 (by decide) ?_
  refine lv_sipush (v := (576)) hx hb dX8_copyFrom_106 (by decide) ?_
  refine m_copyi (102) (132) hx hb (hml.trans hl.1.symm) hown hE hM hS (hG.1 102 (by decide)) rfl (hT.2.1 2 (by decide)) rfl (hts _ tb_1151) (hts _ tb_568) (hts _ tb_567) (hts _ tb_13) ⟨⟨by decide, by decide, by decide⟩, by decide, by decide⟩ (Nat.le_of_ble_eq_true rfl) (Nat.le_of_ble_eq_true rfl) dX8_copyFrom_109 (fun H locs I28 eI28 hM hS => ?_)
  have hI : INV I28 := by rw [eI28]; exact hI.cpy (by intro i hi; left; rfl)
  have hK : Kp [(131, 139)] [(130, 0), (130, 1), (130, 2), (130, 3), (130, 4), (130, 5), (130, 6), (130, 7), (130, 8), (130, 9)] I I28 := by rw [eI28]; exact hK.cpy rfl
  have hkI28 : Kp [(132, 133)] [] I27 I28 := by rw [eI28]; exact Kp.rf.cpy rfl
  have hcpI28 : ∀ j, j < 576 → I28 132 j = I27 102 j := fun j hj => by rw [eI28]; exact cpy_at rfl hj
  refine lv_aload_n hx hb dX8_copyFrom_112 rfl (lv_at hl 1 rfl) ?_
  refine m_getr (100) 12 (103) hx hb hts hown hE oc8 hM (hG.1 100 (by decide)) rfl (by decide) rfl (hG.2 (100, 12, 103) (by decide)) (by decide) tb_71 dX8_copyFrom_113 ?_
  refine lv_iconst (v := (0)) hx hb dX8_copyFrom_116 (by decide) ?_
  refine lv_aload_n hx hb dX8_copyFrom_117 rfl (lv_at hl 0 rfl) ?_
  refine m_getr (130) 12 (133) hx hb hts hown hE oc8 hM (hT.2.1 0 (by decide)) rfl (by decide) rfl (hT.2.2 2 (by decide)) (by decide) tb_71 dX8_copyFrom_118 ?_
  refine lv_iconst (v := (0)) hx hb dX8_copyFrom_121 (by decide) ?_
  refine lv_sipush (v := (576)) hx hb dX8_copyFrom_122 (by decide) ?_
  refine m_copyi (103) (133) hx hb (hml.trans hl.1.symm) hown hE hM hS (hG.1 103 (by decide)) rfl (hT.2.1 3 (by decide)) rfl (hts _ tb_1151) (hts _ tb_568) (hts _ tb_567) (hts _ tb_13) ⟨⟨by decide, by decide, by decide⟩, by decide, by decide⟩ (Nat.le_of_ble_eq_true rfl) (Nat.le_of_ble_eq_true rfl) dX8_copyFrom_125 (fun H locs I29 eI29 hM hS => ?_)
  have hI : INV I29 := by rw [eI29]; exact hI.cpy (by intro i hi; left; rfl)
  have hK : Kp [(131, 139)] [(130, 0), (130, 1), (130, 2), (130, 3), (130, 4), (130, 5), (130, 6), (130, 7), (130, 8), (130, 9)] I I29 := by rw [eI29]; exact hK.cpy rfl
  have hkI29 : Kp [(133, 134)] [] I28 I29 := by rw [eI29]; exact Kp.rf.cpy rfl
  have hcpI29 : ∀ j, j < 576 → I29 133 j = I28 103 j := fun j hj => by rw [eI29]; exact cpy_at rfl hj
  refine lv_aload_n hx hb dX8_copyFrom_128 rfl (lv_at hl 1 rfl) ?_
  refine m_getr (100) 13 (104) hx hb hts hown hE oc8 hM (hG.1 100 (by decide)) rfl (by decide) rfl (hG.2 (100, 13, 104) (by decide)) (by decide) tb_75 dX8_copyFrom_129 ?_
  refine lv_iconst (v := (0)) hx hb dX8_copyFrom_132 (by decide) ?_
  refine lv_aload_n hx hb dX8_copyFrom_133 rfl (lv_at hl 0 rfl) ?_
  refine m_getr (130) 13 (134) hx hb hts hown hE oc8 hM (hT.2.1 0 (by decide)) rfl (by decide) rfl (hT.2.2 3 (by decide)) (by decide) tb_75 dX8_copyFrom_134 ?_
  refine lv_iconst (v := (0)) hx hb dX8_copyFrom_137 (by decide) ?_
  refine lv_sipush (v := (576)) hx hb dX8_copyFrom_138 (by decide) ?_
  refine m_copyi (104) (134) hx hb (hml.trans hl.1.symm) hown hE hM hS (hG.1 104 (by decide)) rfl (hT.2.1 4 (by decide)) rfl (hts _ tb_1151) (hts _ tb_568) (hts _ tb_567) (hts _ tb_13) ⟨⟨by decide, by decide, by decide⟩, by decide, by decide⟩ (Nat.le_of_ble_eq_true rfl) (Nat.le_of_ble_eq_true rfl) dX8_copyFrom_141 (fun H locs I30 eI30 hM hS => ?_)
  have hI : INV I30 := by rw [eI30]; exact hI.cpy (by intro i hi; left; rfl)
  have hK : Kp [(131, 139)] [(130, 0), (130, 1), (130, 2), (130, 3), (130, 4), (130, 5), (130, 6), (130, 7), (130, 8), (130, 9)] I I30 := by rw [eI30]; exact hK.cpy rfl
  have hkI30 : Kp [(134, 135)] [] I29 I30 := by rw [eI30]; exact Kp.rf.cpy rfl
  have hcpI30 : ∀ j, j < 576 → I30 134 j = I29 104 j := fun j hj => by rw [eI30]; exact cpy_at rfl hj
  refine lv_aload_n hx hb dX8_copyFrom_144 rfl (lv_at hl 1 rfl) ?_
  refine m_getr (100) 14 (105) hx hb hts hown hE oc8 hM (hG.1 100 (by decide)) rfl (by decide) rfl (hG.2 (100, 14, 105) (by decide)) (by decide) tb_78 dX8_copyFrom_145 ?_
  refine lv_iconst (v := (0)) hx hb dX8_copyFrom_148 (by decide) ?_
  refine lv_aload_n hx hb dX8_copyFrom_149 rfl (lv_at hl 0 rfl) ?_
  refine m_getr (130) 14 (135) hx hb hts hown hE oc8 hM (hT.2.1 0 (by decide)) rfl (by decide) rfl (hT.2.2 4 (by decide)) (by decide) tb_78 dX8_copyFrom_150 ?_
  refine lv_iconst (v := (0)) hx hb dX8_copyFrom_153 (by decide) ?_
  refine lv_sipush (v := (288)) hx hb dX8_copyFrom_154 (by decide) ?_
  refine m_copyi (105) (135) hx hb (hml.trans hl.1.symm) hown hE hM hS (hG.1 105 (by decide)) rfl (hT.2.1 5 (by decide)) rfl (hts _ tb_1151) (hts _ tb_568) (hts _ tb_567) (hts _ tb_13) ⟨⟨by decide, by decide, by decide⟩, by decide, by decide⟩ (Nat.le_of_ble_eq_true rfl) (Nat.le_of_ble_eq_true rfl) dX8_copyFrom_157 (fun H locs I31 eI31 hM hS => ?_)
  have hI : INV I31 := by rw [eI31]; exact hI.cpy (by intro i hi; left; rfl)
  have hK : Kp [(131, 139)] [(130, 0), (130, 1), (130, 2), (130, 3), (130, 4), (130, 5), (130, 6), (130, 7), (130, 8), (130, 9)] I I31 := by rw [eI31]; exact hK.cpy rfl
  have hkI31 : Kp [(135, 136)] [] I30 I31 := by rw [eI31]; exact Kp.rf.cpy rfl
  have hcpI31 : ∀ j, j < 288 → I31 135 j = I30 105 j := fun j hj => by rw [eI31]; exact cpy_at rfl hj
  refine lv_aload_n hx hb dX8_copyFrom_160 rfl (lv_at hl 1 rfl) ?_
  refine m_getr (100) 15 (106) hx hb hts hown hE oc8 hM (hG.1 100 (by decide)) rfl (by decide) rfl (hG.2 (100, 15, 106) (by decide)) (by decide) tb_80 dX8_copyFrom_161 ?_
  refine lv_iconst (v := (0)) hx hb dX8_copyFrom_164 (by decide) ?_
  refine lv_aload_n hx hb dX8_copyFrom_165 rfl (lv_at hl 0 rfl) ?_
  refine m_getr (130) 15 (136) hx hb hts hown hE oc8 hM (hT.2.1 0 (by decide)) rfl (by decide) rfl (hT.2.2 5 (by decide)) (by decide) tb_80 dX8_copyFrom_166 ?_
  refine lv_iconst (v := (0)) hx hb dX8_copyFrom_169 (by decide) ?_
  refine lv_sipush (v := (288)) hx hb dX8_copyFrom_170 (by decide) ?_
  refine m_copyi (106) (136) hx hb (hml.trans hl.1.symm) hown hE hM hS (hG.1 106 (by decide)) rfl (hT.2.1 6 (by decide)) rfl (hts _ tb_1151) (hts _ tb_568) (hts _ tb_567) (hts _ tb_13) ⟨⟨by decide, by decide, by decide⟩, by decide, by decide⟩ (Nat.le_of_ble_eq_true rfl) (Nat.le_of_ble_eq_true rfl) dX8_copyFrom_173 (fun H locs I32 eI32 hM hS => ?_)
  have hI : INV I32 := by rw [eI32]; exact hI.cpy (by intro i hi; left; rfl)
  have hK : Kp [(131, 139)] [(130, 0), (130, 1), (130, 2), (130, 3), (130, 4), (130, 5), (130, 6), (130, 7), (130, 8), (130, 9)] I I32 := by rw [eI32]; exact hK.cpy rfl
  have hkI32 : Kp [(136, 137)] [] I31 I32 := by rw [eI32]; exact Kp.rf.cpy rfl
  have hcpI32 : ∀ j, j < 288 → I32 136 j = I31 106 j := fun j hj => by rw [eI32]; exact cpy_at rfl hj
  refine lv_aload_n hx hb dX8_copyFrom_176 rfl (lv_at hl 1 rfl) ?_
  refine m_getr (100) 16 (107) hx hb hts hown hE oc8 hM (hG.1 100 (by decide)) rfl (by decide) rfl (hG.2 (100, 16, 107) (by decide)) (by decide) tb_82 dX8_copyFrom_177 ?_
  refine lv_iconst (v := (0)) hx hb dX8_copyFrom_180 (by decide) ?_
  refine lv_aload_n hx hb dX8_copyFrom_181 rfl (lv_at hl 0 rfl) ?_
  refine m_getr (130) 16 (137) hx hb hts hown hE oc8 hM (hT.2.1 0 (by decide)) rfl (by decide) rfl (hT.2.2 6 (by decide)) (by decide) tb_82 dX8_copyFrom_182 ?_
  refine lv_iconst (v := (0)) hx hb dX8_copyFrom_185 (by decide) ?_
  refine lv_sipush (v := (240)) hx hb dX8_copyFrom_186 (by decide) ?_
  refine m_copyi (107) (137) hx hb (hml.trans hl.1.symm) hown hE hM hS (hG.1 107 (by decide)) rfl (hT.2.1 7 (by decide)) rfl (hts _ tb_1151) (hts _ tb_568) (hts _ tb_567) (hts _ tb_13) ⟨⟨by decide, by decide, by decide⟩, by decide, by decide⟩ (Nat.le_of_ble_eq_true rfl) (Nat.le_of_ble_eq_true rfl) dX8_copyFrom_189 (fun H locs I33 eI33 hM hS => ?_)
  have hI : INV I33 := by rw [eI33]; exact hI.cpy (by intro i hi; left; rfl)
  have hK : Kp [(131, 139)] [(130, 0), (130, 1), (130, 2), (130, 3), (130, 4), (130, 5), (130, 6), (130, 7), (130, 8), (130, 9)] I I33 := by rw [eI33]; exact hK.cpy rfl
  have hkI33 : Kp [(137, 138)] [] I32 I33 := by rw [eI33]; exact Kp.rf.cpy rfl
  have hcpI33 : ∀ j, j < 240 → I33 137 j = I32 107 j := fun j hj => by rw [eI33]; exact cpy_at rfl hj
  refine lv_aload_n hx hb dX8_copyFrom_192 rfl (lv_at hl 1 rfl) ?_
  refine m_getr (100) 17 (108) hx hb hts hown hE oc8 hM (hG.1 100 (by decide)) rfl (by decide) rfl (hG.2 (100, 17, 108) (by decide)) (by decide) tb_83 dX8_copyFrom_193 ?_
  refine lv_iconst (v := (0)) hx hb dX8_copyFrom_196 (by decide) ?_
  refine lv_aload_n hx hb dX8_copyFrom_197 rfl (lv_at hl 0 rfl) ?_
  refine m_getr (130) 17 (138) hx hb hts hown hE oc8 hM (hT.2.1 0 (by decide)) rfl (by decide) rfl (hT.2.2 7 (by decide)) (by decide) tb_83 dX8_copyFrom_198 ?_
  refine lv_iconst (v := (0)) hx hb dX8_copyFrom_201 (by decide) ?_
  refine lv_bipush (v := (56)) hx hb dX8_copyFrom_202 (by decide) ?_
  refine m_copyi (108) (138) hx hb (hml.trans hl.1.symm) hown hE hM hS (hG.1 108 (by decide)) rfl (hT.2.1 8 (by decide)) rfl (hts _ tb_1151) (hts _ tb_568) (hts _ tb_567) (hts _ tb_13) ⟨⟨by decide, by decide, by decide⟩, by decide, by decide⟩ (Nat.le_of_ble_eq_true rfl) (Nat.le_of_ble_eq_true rfl) dX8_copyFrom_204 (fun H locs I34 eI34 hM hS => ?_)
  have hI : INV I34 := by rw [eI34]; exact hI.cpy (by intro i hi; left; rfl)
  have hK : Kp [(131, 139)] [(130, 0), (130, 1), (130, 2), (130, 3), (130, 4), (130, 5), (130, 6), (130, 7), (130, 8), (130, 9)] I I34 := by rw [eI34]; exact hK.cpy rfl
  have hkI34 : Kp [(138, 139)] [] I33 I34 := by rw [eI34]; exact Kp.rf.cpy rfl
  have hcpI34 : ∀ j, j < 56 → I34 138 j = I33 108 j := fun j hj => by rw [eI34]; exact cpy_at rfl hj
  have hsc : ∀ j, j < 10 → I34 130 j = I 100 j := by
    intro j hj
    rcases (show j = 0 ∨ j = 1 ∨ j = 2 ∨ j = 3 ∨ j = 4 ∨ j = 5 ∨ j = 6 ∨ j = 7 ∨ j = 8 ∨ j = 9 by omega) with rfl | rfl | rfl | rfl | rfl | rfl | rfl | rfl | rfl | rfl
    · exact (((((((((hkI34.get (130) 0 rfl)).trans (hkI33.get (130) 0 rfl)).trans (hkI32.get (130) 0 rfl)).trans (hkI31.get (130) 0 rfl)).trans (hkI30.get (130) 0 rfl)).trans (hkI29.get (130) 0 rfl)).trans (hkI28.get (130) 0 rfl)).trans (hkI27.get (130) 0 rfl)).trans (show (u2 (u2 (u2 (u2 (u2 (u2 (u2 (u2 (u2 (u2 I (130) 0 (I (100) 0)) (130) 1 (I (100) 1)) (130) 2 (I (100) 2)) (130) 3 (I (100) 3)) (130) 4 (I (100) 4)) (130) 5 (I (100) 5)) (130) 6 (I (100) 6)) (130) 7 (I (100) 7)) (130) 8 (I (100) 8)) (130) 9 (I (100) 9)) (130) 0 = I (100) 0 from by simp [u2_v])
    · exact (((((((((hkI34.get (130) 1 rfl)).trans (hkI33.get (130) 1 rfl)).trans (hkI32.get (130) 1 rfl)).trans (hkI31.get (130) 1 rfl)).trans (hkI30.get (130) 1 rfl)).trans (hkI29.get (130) 1 rfl)).trans (hkI28.get (130) 1 rfl)).trans (hkI27.get (130) 1 rfl)).trans (show (u2 (u2 (u2 (u2 (u2 (u2 (u2 (u2 (u2 (u2 I (130) 0 (I (100) 0)) (130) 1 (I (100) 1)) (130) 2 (I (100) 2)) (130) 3 (I (100) 3)) (130) 4 (I (100) 4)) (130) 5 (I (100) 5)) (130) 6 (I (100) 6)) (130) 7 (I (100) 7)) (130) 8 (I (100) 8)) (130) 9 (I (100) 9)) (130) 1 = I (100) 1 from by simp [u2_v])
    · exact (((((((((hkI34.get (130) 2 rfl)).trans (hkI33.get (130) 2 rfl)).trans (hkI32.get (130) 2 rfl)).trans (hkI31.get (130) 2 rfl)).trans (hkI30.get (130) 2 rfl)).trans (hkI29.get (130) 2 rfl)).trans (hkI28.get (130) 2 rfl)).trans (hkI27.get (130) 2 rfl)).trans (show (u2 (u2 (u2 (u2 (u2 (u2 (u2 (u2 (u2 (u2 I (130) 0 (I (100) 0)) (130) 1 (I (100) 1)) (130) 2 (I (100) 2)) (130) 3 (I (100) 3)) (130) 4 (I (100) 4)) (130) 5 (I (100) 5)) (130) 6 (I (100) 6)) (130) 7 (I (100) 7)) (130) 8 (I (100) 8)) (130) 9 (I (100) 9)) (130) 2 = I (100) 2 from by simp [u2_v])
    · exact (((((((((hkI34.get (130) 3 rfl)).trans (hkI33.get (130) 3 rfl)).trans (hkI32.get (130) 3 rfl)).trans (hkI31.get (130) 3 rfl)).trans (hkI30.get (130) 3 rfl)).trans (hkI29.get (130) 3 rfl)).trans (hkI28.get (130) 3 rfl)).trans (hkI27.get (130) 3 rfl)).trans (show (u2 (u2 (u2 (u2 (u2 (u2 (u2 (u2 (u2 (u2 I (130) 0 (I (100) 0)) (130) 1 (I (100) 1)) (130) 2 (I (100) 2)) (130) 3 (I (100) 3)) (130) 4 (I (100) 4)) (130) 5 (I (100) 5)) (130) 6 (I (100) 6)) (130) 7 (I (100) 7)) (130) 8 (I (100) 8)) (130) 9 (I (100) 9)) (130) 3 = I (100) 3 from by simp [u2_v])
    · exact (((((((((hkI34.get (130) 4 rfl)).trans (hkI33.get (130) 4 rfl)).trans (hkI32.get (130) 4 rfl)).trans (hkI31.get (130) 4 rfl)).trans (hkI30.get (130) 4 rfl)).trans (hkI29.get (130) 4 rfl)).trans (hkI28.get (130) 4 rfl)).trans (hkI27.get (130) 4 rfl)).trans (show (u2 (u2 (u2 (u2 (u2 (u2 (u2 (u2 (u2 (u2 I (130) 0 (I (100) 0)) (130) 1 (I (100) 1)) (130) 2 (I (100) 2)) (130) 3 (I (100) 3)) (130) 4 (I (100) 4)) (130) 5 (I (100) 5)) (130) 6 (I (100) 6)) (130) 7 (I (100) 7)) (130) 8 (I (100) 8)) (130) 9 (I (100) 9)) (130) 4 = I (100) 4 from by simp [u2_v])
    · exact (((((((((hkI34.get (130) 5 rfl)).trans (hkI33.get (130) 5 rfl)).trans (hkI32.get (130) 5 rfl)).trans (hkI31.get (130) 5 rfl)).trans (hkI30.get (130) 5 rfl)).trans (hkI29.get (130) 5 rfl)).trans (hkI28.get (130) 5 rfl)).trans (hkI27.get (130) 5 rfl)).trans (show (u2 (u2 (u2 (u2 (u2 (u2 (u2 (u2 (u2 (u2 I (130) 0 (I (100) 0)) (130) 1 (I (100) 1)) (130) 2 (I (100) 2)) (130) 3 (I (100) 3)) (130) 4 (I (100) 4)) (130) 5 (I (100) 5)) (130) 6 (I (100) 6)) (130) 7 (I (100) 7)) (130) 8 (I (100) 8)) (130) 9 (I (100) 9)) (130) 5 = I (100) 5 from by simp [u2_v])
    · exact (((((((((hkI34.get (130) 6 rfl)).trans (hkI33.get (130) 6 rfl)).trans (hkI32.get (130) 6 rfl)).trans (hkI31.get (130) 6 rfl)).trans (hkI30.get (130) 6 rfl)).trans (hkI29.get (130) 6 rfl)).trans (hkI28.get (130) 6 rfl)).trans (hkI27.get (130) 6 rfl)).trans (show (u2 (u2 (u2 (u2 (u2 (u2 (u2 (u2 (u2 (u2 I (130) 0 (I (100) 0)) (130) 1 (I (100) 1)) (130) 2 (I (100) 2)) (130) 3 (I (100) 3)) (130) 4 (I (100) 4)) (130) 5 (I (100) 5)) (130) 6 (I (100) 6)) (130) 7 (I (100) 7)) (130) 8 (I (100) 8)) (130) 9 (I (100) 9)) (130) 6 = I (100) 6 from by simp [u2_v])
    · exact (((((((((hkI34.get (130) 7 rfl)).trans (hkI33.get (130) 7 rfl)).trans (hkI32.get (130) 7 rfl)).trans (hkI31.get (130) 7 rfl)).trans (hkI30.get (130) 7 rfl)).trans (hkI29.get (130) 7 rfl)).trans (hkI28.get (130) 7 rfl)).trans (hkI27.get (130) 7 rfl)).trans (show (u2 (u2 (u2 (u2 (u2 (u2 (u2 (u2 (u2 (u2 I (130) 0 (I (100) 0)) (130) 1 (I (100) 1)) (130) 2 (I (100) 2)) (130) 3 (I (100) 3)) (130) 4 (I (100) 4)) (130) 5 (I (100) 5)) (130) 6 (I (100) 6)) (130) 7 (I (100) 7)) (130) 8 (I (100) 8)) (130) 9 (I (100) 9)) (130) 7 = I (100) 7 from by simp [u2_v])
    · exact (((((((((hkI34.get (130) 8 rfl)).trans (hkI33.get (130) 8 rfl)).trans (hkI32.get (130) 8 rfl)).trans (hkI31.get (130) 8 rfl)).trans (hkI30.get (130) 8 rfl)).trans (hkI29.get (130) 8 rfl)).trans (hkI28.get (130) 8 rfl)).trans (hkI27.get (130) 8 rfl)).trans (show (u2 (u2 (u2 (u2 (u2 (u2 (u2 (u2 (u2 (u2 I (130) 0 (I (100) 0)) (130) 1 (I (100) 1)) (130) 2 (I (100) 2)) (130) 3 (I (100) 3)) (130) 4 (I (100) 4)) (130) 5 (I (100) 5)) (130) 6 (I (100) 6)) (130) 7 (I (100) 7)) (130) 8 (I (100) 8)) (130) 9 (I (100) 9)) (130) 8 = I (100) 8 from by simp [u2_v])
    · exact (((((((((hkI34.get (130) 9 rfl)).trans (hkI33.get (130) 9 rfl)).trans (hkI32.get (130) 9 rfl)).trans (hkI31.get (130) 9 rfl)).trans (hkI30.get (130) 9 rfl)).trans (hkI29.get (130) 9 rfl)).trans (hkI28.get (130) 9 rfl)).trans (hkI27.get (130) 9 rfl)).trans (show (u2 (u2 (u2 (u2 (u2 (u2 (u2 (u2 (u2 (u2 I (130) 0 (I (100) 0)) (130) 1 (I (100) 1)) (130) 2 (I (100) 2)) (130) 3 (I (100) 3)) (130) 4 (I (100) 4)) (130) 5 (I (100) 5)) (130) 6 (I (100) 6)) (130) 7 (I (100) 7)) (130) 8 (I (100) 8)) (130) 9 (I (100) 9)) (130) 9 = I (100) 9 from by simp [u2_v])
  exact m_vret hx hb hr hlocks hM hS (Nat.le_of_ble_eq_true rfl) (Nat.le_of_ble_eq_true rfl) ⟨_, _, rfl, hI, hK, ⟨hsc, (fun j hj => (congrFun ((((((((hkI34.getA 131 rfl)).trans (hkI33.getA 131 rfl)).trans (hkI32.getA 131 rfl)).trans (hkI31.getA 131 rfl)).trans (hkI30.getA 131 rfl)).trans (hkI29.getA 131 rfl)).trans (hkI28.getA 131 rfl)) j).trans ((hcpI27 j hj).trans (congrFun ((show (u2 (u2 (u2 (u2 (u2 (u2 (u2 (u2 (u2 (u2 I (130) 0 (I (100) 0)) (130) 1 (I (100) 1)) (130) 2 (I (100) 2)) (130) 3 (I (100) 3)) (130) 4 (I (100) 4)) (130) 5 (I (100) 5)) (130) 6 (I (100) 6)) (130) 7 (I (100) 7)) (130) 8 (I (100) 8)) (130) 9 (I (100) 9)) 101 = I 101 from by funext zz; simp [u2_v])) j))), (fun j hj => (congrFun (((((((hkI34.getA 132 rfl)).trans (hkI33.getA 132 rfl)).trans (hkI32.getA 132 rfl)).trans (hkI31.getA 132 rfl)).trans (hkI30.getA 132 rfl)).trans (hkI29.getA 132 rfl)) j).trans ((hcpI28 j hj).trans (congrFun (((hkI27.getA 102 rfl)).trans (show (u2 (u2 (u2 (u2 (u2 (u2 (u2 (u2 (u2 (u2 I (130) 0 (I (100) 0)) (130) 1 (I (100) 1)) (130) 2 (I (100) 2)) (130) 3 (I (100) 3)) (130) 4 (I (100) 4)) (130) 5 (I (100) 5)) (130) 6 (I (100) 6)) (130) 7 (I (100) 7)) (130) 8 (I (100) 8)) (130) 9 (I (100) 9)) 102 = I 102 from by funext zz; simp [u2_v])) j))), (fun j hj => (congrFun ((((((hkI34.getA 133 rfl)).trans (hkI33.getA 133 rfl)).trans (hkI32.getA 133 rfl)).trans (hkI31.getA 133 rfl)).trans (hkI30.getA 133 rfl)) j).trans ((hcpI29 j hj).trans (congrFun ((((hkI28.getA 103 rfl)).trans (hkI27.getA 103 rfl)).trans (show (u2 (u2 (u2 (u2 (u2 (u2 (u2 (u2 (u2 (u2 I (130) 0 (I (100) 0)) (130) 1 (I (100) 1)) (130) 2 (I (100) 2)) (130) 3 (I (100) 3)) (130) 4 (I (100) 4)) (130) 5 (I (100) 5)) (130) 6 (I (100) 6)) (130) 7 (I (100) 7)) (130) 8 (I (100) 8)) (130) 9 (I (100) 9)) 103 = I 103 from by funext zz; simp [u2_v])) j))), (fun j hj => (congrFun (((((hkI34.getA 134 rfl)).trans (hkI33.getA 134 rfl)).trans (hkI32.getA 134 rfl)).trans (hkI31.getA 134 rfl)) j).trans ((hcpI30 j hj).trans (congrFun (((((hkI29.getA 104 rfl)).trans (hkI28.getA 104 rfl)).trans (hkI27.getA 104 rfl)).trans (show (u2 (u2 (u2 (u2 (u2 (u2 (u2 (u2 (u2 (u2 I (130) 0 (I (100) 0)) (130) 1 (I (100) 1)) (130) 2 (I (100) 2)) (130) 3 (I (100) 3)) (130) 4 (I (100) 4)) (130) 5 (I (100) 5)) (130) 6 (I (100) 6)) (130) 7 (I (100) 7)) (130) 8 (I (100) 8)) (130) 9 (I (100) 9)) 104 = I 104 from by funext zz; simp [u2_v])) j))), (fun j hj => (congrFun ((((hkI34.getA 135 rfl)).trans (hkI33.getA 135 rfl)).trans (hkI32.getA 135 rfl)) j).trans ((hcpI31 j hj).trans (congrFun ((((((hkI30.getA 105 rfl)).trans (hkI29.getA 105 rfl)).trans (hkI28.getA 105 rfl)).trans (hkI27.getA 105 rfl)).trans (show (u2 (u2 (u2 (u2 (u2 (u2 (u2 (u2 (u2 (u2 I (130) 0 (I (100) 0)) (130) 1 (I (100) 1)) (130) 2 (I (100) 2)) (130) 3 (I (100) 3)) (130) 4 (I (100) 4)) (130) 5 (I (100) 5)) (130) 6 (I (100) 6)) (130) 7 (I (100) 7)) (130) 8 (I (100) 8)) (130) 9 (I (100) 9)) 105 = I 105 from by funext zz; simp [u2_v])) j))), (fun j hj => (congrFun (((hkI34.getA 136 rfl)).trans (hkI33.getA 136 rfl)) j).trans ((hcpI32 j hj).trans (congrFun (((((((hkI31.getA 106 rfl)).trans (hkI30.getA 106 rfl)).trans (hkI29.getA 106 rfl)).trans (hkI28.getA 106 rfl)).trans (hkI27.getA 106 rfl)).trans (show (u2 (u2 (u2 (u2 (u2 (u2 (u2 (u2 (u2 (u2 I (130) 0 (I (100) 0)) (130) 1 (I (100) 1)) (130) 2 (I (100) 2)) (130) 3 (I (100) 3)) (130) 4 (I (100) 4)) (130) 5 (I (100) 5)) (130) 6 (I (100) 6)) (130) 7 (I (100) 7)) (130) 8 (I (100) 8)) (130) 9 (I (100) 9)) 106 = I 106 from by funext zz; simp [u2_v])) j))), (fun j hj => (congrFun ((hkI34.getA 137 rfl)) j).trans ((hcpI33 j hj).trans (congrFun ((((((((hkI32.getA 107 rfl)).trans (hkI31.getA 107 rfl)).trans (hkI30.getA 107 rfl)).trans (hkI29.getA 107 rfl)).trans (hkI28.getA 107 rfl)).trans (hkI27.getA 107 rfl)).trans (show (u2 (u2 (u2 (u2 (u2 (u2 (u2 (u2 (u2 (u2 I (130) 0 (I (100) 0)) (130) 1 (I (100) 1)) (130) 2 (I (100) 2)) (130) 3 (I (100) 3)) (130) 4 (I (100) 4)) (130) 5 (I (100) 5)) (130) 6 (I (100) 6)) (130) 7 (I (100) 7)) (130) 8 (I (100) 8)) (130) 9 (I (100) 9)) 107 = I 107 from by funext zz; simp [u2_v])) j))), (fun j hj => (congrFun (rfl) j).trans ((hcpI34 j hj).trans (congrFun (((((((((hkI33.getA 108 rfl)).trans (hkI32.getA 108 rfl)).trans (hkI31.getA 108 rfl)).trans (hkI30.getA 108 rfl)).trans (hkI29.getA 108 rfl)).trans (hkI28.getA 108 rfl)).trans (hkI27.getA 108 rfl)).trans (show (u2 (u2 (u2 (u2 (u2 (u2 (u2 (u2 (u2 (u2 I (130) 0 (I (100) 0)) (130) 1 (I (100) 1)) (130) 2 (I (100) 2)) (130) 3 (I (100) 3)) (130) 4 (I (100) 4)) (130) 5 (I (100) 5)) (130) 6 (I (100) 6)) (130) 7 (I (100) 7)) (130) 8 (I (100) 8)) (130) 9 (I (100) 9)) 108 = I 108 from by funext zz; simp [u2_v])) j)))⟩⟩ dX8_copyFrom_207
set_option maxHeartbeats 4000000 in
set_option maxRecDepth 20000 in
theorem V_X8_copyFrom_100_130_f (l : Launch) (D : va_G) (A : Nat → Prop) (ad : Nat → Nat) (ns : List Nat) (I : MI) (L : ML) (G : MG) (hG : SGC ns G) (hI : INV I) (hT : TOK ns G 130) : Met l yX8_copyFrom (wd yX8_copyFrom cX8_copyFrom 2 none) ({ frames := 1, cells := 0, slots := 0, locals := 40 }) (va_Pc [.ref (ad (100)), .ref (ad (130))] (PM D A ad ns I L G)) (va_Qv (fun u => ∃ I2 L2, u = (ad, ns, I2, L2, G) ∧ INV I2 ∧ Kp [(101, 109)] [(100, 0), (100, 1), (100, 2), (100, 3), (100, 4), (100, 5), (100, 6), (100, 7), (100, 8), (100, 9)] I I2 ∧ (CPF 100 130 I I2)) (BM D A) A) 0 0 A := by
  refine m_ofW (by decide) (Nat.le_of_ble_eq_true rfl) ?_
  intro p e s m below meth c ls args hC hE hM hA hS hl
  obtain ⟨hx, hb, hml, hown, hts, hr, hlocks, hin⟩ := hC
  have k0 : (0 : Int32).toInt = 0 := by decide
  have k56 : (56 : Int32).toInt = 56 := by decide
  have k240 : (240 : Int32).toInt = 240 := by decide
  have k288 : (288 : Int32).toInt = 288 := by decide
  have k576 : (576 : Int32).toInt = 576 := by decide
  have hK : Kp [(101, 109)] [(100, 0), (100, 1), (100, 2), (100, 3), (100, 4), (100, 5), (100, 6), (100, 7), (100, 8), (100, 9)] I I := Kp.rf
  have hl : lv_has ls 2 [(0, .ref (ad (100))), (1, .ref (ad (130)))] := hl
  refine lv_aload_n hx hb dX8_copyFrom_0 rfl (lv_at hl 0 rfl) ?_
  refine lv_aload_n hx hb dX8_copyFrom_1 rfl (lv_at hl 1 rfl) ?_
  refine m_geti (130) 0 hx hb hts hown hE oc8 hM (hT.2.1 0 (by decide)) rfl (by decide) rfl tb_34 dX8_copyFrom_2 ?_
  have g1 := hI.get (130) 0 (lo := 0) (hi := 24) rfl
  refine m_puti (100) 0 hx hb hts hown hE oc8 hM hS (hG.1 100 (by decide)) rfl (by decide) rfl rfl rfl rfl tb_34 dX8_copyFrom_5 (fun H locs I2 eI2 hM hS => ?_)
  subst eI2
  have hI := hI.put (n := 100) (k := 0) (v := I (130) 0) (lo := 0) (hi := 24) rfl (by first | omega | decide)
  have hK := hK.put (n := 100) (k := 0) (v := I (130) 0) (by first | rfl | simp [inR])
  refine lv_aload_n hx hb dX8_copyFrom_8 rfl (lv_at hl 0 rfl) ?_
  refine lv_aload_n hx hb dX8_copyFrom_9 rfl (lv_at hl 1 rfl) ?_
  refine m_geti (130) 1 hx hb hts hown hE oc8 hM (hT.2.1 0 (by decide)) rfl (by decide) rfl tb_37 dX8_copyFrom_10 ?_
  have g3 := hI.get (130) 1 (lo := 0) (hi := 24) rfl
  have z4 : (u2 I (100) 0 (I (130) 0)) (130) 1 = I (130) 1 := (show (u2 I (100) 0 (I (130) 0)) (130) 1 = I (130) 1 from by simp [u2_v])
  rw [z4] at g3 ⊢
  refine m_puti (100) 1 hx hb hts hown hE oc8 hM hS (hG.1 100 (by decide)) rfl (by decide) rfl rfl rfl rfl tb_37 dX8_copyFrom_13 (fun H locs I5 eI5 hM hS => ?_)
  subst eI5
  have hI := hI.put (n := 100) (k := 1) (v := I (130) 1) (lo := 0) (hi := 24) rfl (by first | omega | decide)
  have hK := hK.put (n := 100) (k := 1) (v := I (130) 1) (by first | rfl | simp [inR])
  refine lv_aload_n hx hb dX8_copyFrom_16 rfl (lv_at hl 0 rfl) ?_
  refine lv_aload_n hx hb dX8_copyFrom_17 rfl (lv_at hl 1 rfl) ?_
  refine m_geti (130) 2 hx hb hts hown hE oc8 hM (hT.2.1 0 (by decide)) rfl (by decide) rfl tb_41 dX8_copyFrom_18 ?_
  have g6 := hI.get (130) 2 (lo := 0) (hi := 23) rfl
  have z7 : (u2 (u2 I (100) 0 (I (130) 0)) (100) 1 (I (130) 1)) (130) 2 = I (130) 2 := (show (u2 (u2 I (100) 0 (I (130) 0)) (100) 1 (I (130) 1)) (130) 2 = I (130) 2 from by simp [u2_v])
  rw [z7] at g6 ⊢
  refine m_puti (100) 2 hx hb hts hown hE oc8 hM hS (hG.1 100 (by decide)) rfl (by decide) rfl rfl rfl rfl tb_41 dX8_copyFrom_21 (fun H locs I8 eI8 hM hS => ?_)
  subst eI8
  have hI := hI.put (n := 100) (k := 2) (v := I (130) 2) (lo := 0) (hi := 23) rfl (by first | omega | decide)
  have hK := hK.put (n := 100) (k := 2) (v := I (130) 2) (by first | rfl | simp [inR])
  refine lv_aload_n hx hb dX8_copyFrom_24 rfl (lv_at hl 0 rfl) ?_
  refine lv_aload_n hx hb dX8_copyFrom_25 rfl (lv_at hl 1 rfl) ?_
  refine m_geti (130) 3 hx hb hts hown hE oc8 hM (hT.2.1 0 (by decide)) rfl (by decide) rfl tb_45 dX8_copyFrom_26 ?_
  have g9 := hI.get (130) 3 (lo := 0) (hi := 23) rfl
  have z10 : (u2 (u2 (u2 I (100) 0 (I (130) 0)) (100) 1 (I (130) 1)) (100) 2 (I (130) 2)) (130) 3 = I (130) 3 := (show (u2 (u2 (u2 I (100) 0 (I (130) 0)) (100) 1 (I (130) 1)) (100) 2 (I (130) 2)) (130) 3 = I (130) 3 from by simp [u2_v])
  rw [z10] at g9 ⊢
  refine m_puti (100) 3 hx hb hts hown hE oc8 hM hS (hG.1 100 (by decide)) rfl (by decide) rfl rfl rfl rfl tb_45 dX8_copyFrom_29 (fun H locs I11 eI11 hM hS => ?_)
  subst eI11
  have hI := hI.put (n := 100) (k := 3) (v := I (130) 3) (lo := 0) (hi := 23) rfl (by first | omega | decide)
  have hK := hK.put (n := 100) (k := 3) (v := I (130) 3) (by first | rfl | simp [inR])
  refine lv_aload_n hx hb dX8_copyFrom_32 rfl (lv_at hl 0 rfl) ?_
  refine lv_aload_n hx hb dX8_copyFrom_33 rfl (lv_at hl 1 rfl) ?_
  refine m_geti (130) 4 hx hb hts hown hE oc8 hM (hT.2.1 0 (by decide)) rfl (by decide) rfl tb_48 dX8_copyFrom_34 ?_
  have z12 : (u2 (u2 (u2 (u2 I (100) 0 (I (130) 0)) (100) 1 (I (130) 1)) (100) 2 (I (130) 2)) (100) 3 (I (130) 3)) (130) 4 = I (130) 4 := (show (u2 (u2 (u2 (u2 I (100) 0 (I (130) 0)) (100) 1 (I (130) 1)) (100) 2 (I (130) 2)) (100) 3 (I (130) 3)) (130) 4 = I (130) 4 from by simp [u2_v])
  rw [z12]
  refine m_puti (100) 4 hx hb hts hown hE oc8 hM hS (hG.1 100 (by decide)) rfl (by decide) rfl rfl rfl rfl tb_48 dX8_copyFrom_37 (fun H locs I13 eI13 hM hS => ?_)
  subst eI13
  have hI := hI.putF (n := 100) (k := 4) (v := I (130) 4) rfl
  have hK := hK.put (n := 100) (k := 4) (v := I (130) 4) (by first | rfl | simp [inR])
  refine lv_aload_n hx hb dX8_copyFrom_40 rfl (lv_at hl 0 rfl) ?_
  refine lv_aload_n hx hb dX8_copyFrom_41 rfl (lv_at hl 1 rfl) ?_
  refine m_geti (130) 5 hx hb hts hown hE oc8 hM (hT.2.1 0 (by decide)) rfl (by decide) rfl tb_51 dX8_copyFrom_42 ?_
  have g14 := hI.get (130) 5 (lo := 0) (hi := 11) rfl
  have z15 : (u2 (u2 (u2 (u2 (u2 I (100) 0 (I (130) 0)) (100) 1 (I (130) 1)) (100) 2 (I (130) 2)) (100) 3 (I (130) 3)) (100) 4 (I (130) 4)) (130) 5 = I (130) 5 := (show (u2 (u2 (u2 (u2 (u2 I (100) 0 (I (130) 0)) (100) 1 (I (130) 1)) (100) 2 (I (130) 2)) (100) 3 (I (130) 3)) (100) 4 (I (130) 4)) (130) 5 = I (130) 5 from by simp [u2_v])
  rw [z15] at g14 ⊢
  refine m_puti (100) 5 hx hb hts hown hE oc8 hM hS (hG.1 100 (by decide)) rfl (by decide) rfl rfl rfl rfl tb_51 dX8_copyFrom_45 (fun H locs I16 eI16 hM hS => ?_)
  subst eI16
  have hI := hI.put (n := 100) (k := 5) (v := I (130) 5) (lo := 0) (hi := 11) rfl (by first | omega | decide)
  have hK := hK.put (n := 100) (k := 5) (v := I (130) 5) (by first | rfl | simp [inR])
  refine lv_aload_n hx hb dX8_copyFrom_48 rfl (lv_at hl 0 rfl) ?_
  refine lv_aload_n hx hb dX8_copyFrom_49 rfl (lv_at hl 1 rfl) ?_
  refine m_geti (130) 6 hx hb hts hown hE oc8 hM (hT.2.1 0 (by decide)) rfl (by decide) rfl tb_54 dX8_copyFrom_50 ?_
  have z17 : (u2 (u2 (u2 (u2 (u2 (u2 I (100) 0 (I (130) 0)) (100) 1 (I (130) 1)) (100) 2 (I (130) 2)) (100) 3 (I (130) 3)) (100) 4 (I (130) 4)) (100) 5 (I (130) 5)) (130) 6 = I (130) 6 := (show (u2 (u2 (u2 (u2 (u2 (u2 I (100) 0 (I (130) 0)) (100) 1 (I (130) 1)) (100) 2 (I (130) 2)) (100) 3 (I (130) 3)) (100) 4 (I (130) 4)) (100) 5 (I (130) 5)) (130) 6 = I (130) 6 from by simp [u2_v])
  rw [z17]
  refine m_puti (100) 6 hx hb hts hown hE oc8 hM hS (hG.1 100 (by decide)) rfl (by decide) rfl rfl rfl rfl tb_54 dX8_copyFrom_53 (fun H locs I18 eI18 hM hS => ?_)
  subst eI18
  have hI := hI.putF (n := 100) (k := 6) (v := I (130) 6) rfl
  have hK := hK.put (n := 100) (k := 6) (v := I (130) 6) (by first | rfl | simp [inR])
  refine lv_aload_n hx hb dX8_copyFrom_56 rfl (lv_at hl 0 rfl) ?_
  refine lv_aload_n hx hb dX8_copyFrom_57 rfl (lv_at hl 1 rfl) ?_
  refine m_geti (130) 7 hx hb hts hown hE oc8 hM (hT.2.1 0 (by decide)) rfl (by decide) rfl tb_57 dX8_copyFrom_58 ?_
  have z19 : (u2 (u2 (u2 (u2 (u2 (u2 (u2 I (100) 0 (I (130) 0)) (100) 1 (I (130) 1)) (100) 2 (I (130) 2)) (100) 3 (I (130) 3)) (100) 4 (I (130) 4)) (100) 5 (I (130) 5)) (100) 6 (I (130) 6)) (130) 7 = I (130) 7 := (show (u2 (u2 (u2 (u2 (u2 (u2 (u2 I (100) 0 (I (130) 0)) (100) 1 (I (130) 1)) (100) 2 (I (130) 2)) (100) 3 (I (130) 3)) (100) 4 (I (130) 4)) (100) 5 (I (130) 5)) (100) 6 (I (130) 6)) (130) 7 = I (130) 7 from by simp [u2_v])
  rw [z19]
  refine m_puti (100) 7 hx hb hts hown hE oc8 hM hS (hG.1 100 (by decide)) rfl (by decide) rfl rfl rfl rfl tb_57 dX8_copyFrom_61 (fun H locs I20 eI20 hM hS => ?_)
  subst eI20
  have hI := hI.putF (n := 100) (k := 7) (v := I (130) 7) rfl
  have hK := hK.put (n := 100) (k := 7) (v := I (130) 7) (by first | rfl | simp [inR])
  refine lv_aload_n hx hb dX8_copyFrom_64 rfl (lv_at hl 0 rfl) ?_
  refine lv_aload_n hx hb dX8_copyFrom_65 rfl (lv_at hl 1 rfl) ?_
  refine m_geti (130) 8 hx hb hts hown hE oc8 hM (hT.2.1 0 (by decide)) rfl (by decide) rfl tb_59 dX8_copyFrom_66 ?_
  have g21 := hI.get (130) 8 (lo := 0) (hi := 24) rfl
  have z22 : (u2 (u2 (u2 (u2 (u2 (u2 (u2 (u2 I (100) 0 (I (130) 0)) (100) 1 (I (130) 1)) (100) 2 (I (130) 2)) (100) 3 (I (130) 3)) (100) 4 (I (130) 4)) (100) 5 (I (130) 5)) (100) 6 (I (130) 6)) (100) 7 (I (130) 7)) (130) 8 = I (130) 8 := (show (u2 (u2 (u2 (u2 (u2 (u2 (u2 (u2 I (100) 0 (I (130) 0)) (100) 1 (I (130) 1)) (100) 2 (I (130) 2)) (100) 3 (I (130) 3)) (100) 4 (I (130) 4)) (100) 5 (I (130) 5)) (100) 6 (I (130) 6)) (100) 7 (I (130) 7)) (130) 8 = I (130) 8 from by simp [u2_v])
  rw [z22] at g21 ⊢
  refine m_puti (100) 8 hx hb hts hown hE oc8 hM hS (hG.1 100 (by decide)) rfl (by decide) rfl rfl rfl rfl tb_59 dX8_copyFrom_69 (fun H locs I23 eI23 hM hS => ?_)
  subst eI23
  have hI := hI.put (n := 100) (k := 8) (v := I (130) 8) (lo := 0) (hi := 24) rfl (by first | omega | decide)
  have hK := hK.put (n := 100) (k := 8) (v := I (130) 8) (by first | rfl | simp [inR])
  refine lv_aload_n hx hb dX8_copyFrom_72 rfl (lv_at hl 0 rfl) ?_
  refine lv_aload_n hx hb dX8_copyFrom_73 rfl (lv_at hl 1 rfl) ?_
  refine m_geti (130) 9 hx hb hts hown hE oc8 hM (hT.2.1 0 (by decide)) rfl (by decide) rfl tb_63 dX8_copyFrom_74 ?_
  have g24 := hI.get (130) 9 (lo := 0) (hi := 8) rfl
  have z25 : (u2 (u2 (u2 (u2 (u2 (u2 (u2 (u2 (u2 I (100) 0 (I (130) 0)) (100) 1 (I (130) 1)) (100) 2 (I (130) 2)) (100) 3 (I (130) 3)) (100) 4 (I (130) 4)) (100) 5 (I (130) 5)) (100) 6 (I (130) 6)) (100) 7 (I (130) 7)) (100) 8 (I (130) 8)) (130) 9 = I (130) 9 := (show (u2 (u2 (u2 (u2 (u2 (u2 (u2 (u2 (u2 I (100) 0 (I (130) 0)) (100) 1 (I (130) 1)) (100) 2 (I (130) 2)) (100) 3 (I (130) 3)) (100) 4 (I (130) 4)) (100) 5 (I (130) 5)) (100) 6 (I (130) 6)) (100) 7 (I (130) 7)) (100) 8 (I (130) 8)) (130) 9 = I (130) 9 from by simp [u2_v])
  rw [z25] at g24 ⊢
  refine m_puti (100) 9 hx hb hts hown hE oc8 hM hS (hG.1 100 (by decide)) rfl (by decide) rfl rfl rfl rfl tb_63 dX8_copyFrom_77 (fun H locs I26 eI26 hM hS => ?_)
  subst eI26
  have hI := hI.put (n := 100) (k := 9) (v := I (130) 9) (lo := 0) (hi := 8) rfl (by first | omega | decide)
  have hK := hK.put (n := 100) (k := 9) (v := I (130) 9) (by first | rfl | simp [inR])
  refine lv_aload_n hx hb dX8_copyFrom_80 rfl (lv_at hl 1 rfl) ?_
  refine m_getr (130) 10 (131) hx hb hts hown hE oc8 hM (hT.2.1 0 (by decide)) rfl (by decide) rfl (hT.2.2 0 (by decide)) (by decide) tb_66 dX8_copyFrom_81 ?_
  refine lv_iconst (v := (0)) hx hb dX8_copyFrom_84 (by decide) ?_
  refine lv_aload_n hx hb dX8_copyFrom_85 rfl (lv_at hl 0 rfl) ?_
  refine m_getr (100) 10 (101) hx hb hts hown hE oc8 hM (hG.1 100 (by decide)) rfl (by decide) rfl (hG.2 (100, 10, 101) (by decide)) (by decide) tb_66 dX8_copyFrom_86 ?_
  refine lv_iconst (v := (0)) hx hb dX8_copyFrom_89 (by decide) ?_
  refine lv_sipush (v := (576)) hx hb dX8_copyFrom_90 (by decide) ?_
  refine m_copyi (131) (101) hx hb (hml.trans hl.1.symm) hown hE hM hS (hT.2.1 1 (by decide)) rfl (hG.1 101 (by decide)) rfl (hts _ tb_1151) (hts _ tb_568) (hts _ tb_567) (hts _ tb_13) ⟨⟨by decide, by decide, by decide⟩, by decide, by decide⟩ (Nat.le_of_ble_eq_true rfl) (Nat.le_of_ble_eq_true rfl) dX8_copyFrom_93 (fun H locs I27 eI27 hM hS => ?_)
  have hI : INV I27 := by rw [eI27]; exact hI.cpy (by intro i hi; left; rfl)
  have hK : Kp [(101, 109)] [(100, 0), (100, 1), (100, 2), (100, 3), (100, 4), (100, 5), (100, 6), (100, 7), (100, 8), (100, 9)] I I27 := by rw [eI27]; exact hK.cpy rfl
  have hkI27 : Kp [(101, 102)] [] (u2 (u2 (u2 (u2 (u2 (u2 (u2 (u2 (u2 (u2 I (100) 0 (I (130) 0)) (100) 1 (I (130) 1)) (100) 2 (I (130) 2)) (100) 3 (I (130) 3)) (100) 4 (I (130) 4)) (100) 5 (I (130) 5)) (100) 6 (I (130) 6)) (100) 7 (I (130) 7)) (100) 8 (I (130) 8)) (100) 9 (I (130) 9)) I27 := by rw [eI27]; exact Kp.rf.cpy rfl
  have hcpI27 : ∀ j, j < 576 → I27 101 j = (u2 (u2 (u2 (u2 (u2 (u2 (u2 (u2 (u2 (u2 I (100) 0 (I (130) 0)) (100) 1 (I (130) 1)) (100) 2 (I (130) 2)) (100) 3 (I (130) 3)) (100) 4 (I (130) 4)) (100) 5 (I (130) 5)) (100) 6 (I (130) 6)) (100) 7 (I (130) 7)) (100) 8 (I (130) 8)) (100) 9 (I (130) 9)) 131 j := fun j hj => by rw [eI27]; exact cpy_at rfl hj
  refine lv_aload_n hx hb dX8_copyFrom_96 rfl (lv_at hl 1 rfl) ?_
  refine m_getr (130) 11 (132) hx hb hts hown hE oc8 hM (hT.2.1 0 (by decide)) rfl (by decide) rfl (hT.2.2 1 (by decide)) (by decide) tb_68 dX8_copyFrom_97 ?_
  refine lv_iconst (v := (0)) hx hb dX8_copyFrom_100 (by decide) ?_
  refine lv_aload_n hx hb dX8_copyFrom_101 rfl (lv_at hl 0 rfl) ?_
  refine m_getr (100) 11 (102) hx hb hts hown hE oc8 hM (hG.1 100 (by decide)) rfl (by decide) rfl (hG.2 (100, 11, 102) (by decide)) (by decide) tb_68 dX8_copyFrom_102 ?_
  refine lv_iconst (v := (0)) hx hb dX8_copyFrom_105 (by decide) ?_
  refine lv_sipush (v := (576)) hx hb dX8_copyFrom_106 (by decide) ?_
  refine m_copyi (132) (102) hx hb (hml.trans hl.1.symm) hown hE hM hS (hT.2.1 2 (by decide)) rfl (hG.1 102 (by decide)) rfl (hts _ tb_1151) (hts _ tb_568) (hts _ tb_567) (hts _ tb_13) ⟨⟨by decide, by decide, by decide⟩, by decide, by decide⟩ (Nat.le_of_ble_eq_true rfl) (Nat.le_of_ble_eq_true rfl) dX8_copyFrom_109 (fun H locs I28 eI28 hM hS => ?_)
  have hI : INV I28 := by rw [eI28]; exact hI.cpy (by intro i hi; left; rfl)
  have hK : Kp [(101, 109)] [(100, 0), (100, 1), (100, 2), (100, 3), (100, 4), (100, 5), (100, 6), (100, 7), (100, 8), (100, 9)] I I28 := by rw [eI28]; exact hK.cpy rfl
  have hkI28 : Kp [(102, 103)] [] I27 I28 := by rw [eI28]; exact Kp.rf.cpy rfl
  have hcpI28 : ∀ j, j < 576 → I28 102 j = I27 132 j := fun j hj => by rw [eI28]; exact cpy_at rfl hj
  refine lv_aload_n hx hb dX8_copyFrom_112 rfl (lv_at hl 1 rfl) ?_
  refine m_getr (130) 12 (133) hx hb hts hown hE oc8 hM (hT.2.1 0 (by decide)) rfl (by decide) rfl (hT.2.2 2 (by decide)) (by decide) tb_71 dX8_copyFrom_113 ?_
  refine lv_iconst (v := (0)) hx hb dX8_copyFrom_116 (by decide) ?_
  refine lv_aload_n hx hb dX8_copyFrom_117 rfl (lv_at hl 0 rfl) ?_
  refine m_getr (100) 12 (103) hx hb hts hown hE oc8 hM (hG.1 100 (by decide)) rfl (by decide) rfl (hG.2 (100, 12, 103) (by decide)) (by decide) tb_71 dX8_copyFrom_118 ?_
  refine lv_iconst (v := (0)) hx hb dX8_copyFrom_121 (by decide) ?_
  refine lv_sipush (v := (576)) hx hb dX8_copyFrom_122 (by decide) ?_
  refine m_copyi (133) (103) hx hb (hml.trans hl.1.symm) hown hE hM hS (hT.2.1 3 (by decide)) rfl (hG.1 103 (by decide)) rfl (hts _ tb_1151) (hts _ tb_568) (hts _ tb_567) (hts _ tb_13) ⟨⟨by decide, by decide, by decide⟩, by decide, by decide⟩ (Nat.le_of_ble_eq_true rfl) (Nat.le_of_ble_eq_true rfl) dX8_copyFrom_125 (fun H locs I29 eI29 hM hS => ?_)
  have hI : INV I29 := by rw [eI29]; exact hI.cpy (by intro i hi; left; rfl)
  have hK : Kp [(101, 109)] [(100, 0), (100, 1), (100, 2), (100, 3), (100, 4), (100, 5), (100, 6), (100, 7), (100, 8), (100, 9)] I I29 := by rw [eI29]; exact hK.cpy rfl
  have hkI29 : Kp [(103, 104)] [] I28 I29 := by rw [eI29]; exact Kp.rf.cpy rfl
  have hcpI29 : ∀ j, j < 576 → I29 103 j = I28 133 j := fun j hj => by rw [eI29]; exact cpy_at rfl hj
  refine lv_aload_n hx hb dX8_copyFrom_128 rfl (lv_at hl 1 rfl) ?_
  refine m_getr (130) 13 (134) hx hb hts hown hE oc8 hM (hT.2.1 0 (by decide)) rfl (by decide) rfl (hT.2.2 3 (by decide)) (by decide) tb_75 dX8_copyFrom_129 ?_
  refine lv_iconst (v := (0)) hx hb dX8_copyFrom_132 (by decide) ?_
  refine lv_aload_n hx hb dX8_copyFrom_133 rfl (lv_at hl 0 rfl) ?_
  refine m_getr (100) 13 (104) hx hb hts hown hE oc8 hM (hG.1 100 (by decide)) rfl (by decide) rfl (hG.2 (100, 13, 104) (by decide)) (by decide) tb_75 dX8_copyFrom_134 ?_
  refine lv_iconst (v := (0)) hx hb dX8_copyFrom_137 (by decide) ?_
  refine lv_sipush (v := (576)) hx hb dX8_copyFrom_138 (by decide) ?_
  refine m_copyi (134) (104) hx hb (hml.trans hl.1.symm) hown hE hM hS (hT.2.1 4 (by decide)) rfl (hG.1 104 (by decide)) rfl (hts _ tb_1151) (hts _ tb_568) (hts _ tb_567) (hts _ tb_13) ⟨⟨by decide, by decide, by decide⟩, by decide, by decide⟩ (Nat.le_of_ble_eq_true rfl) (Nat.le_of_ble_eq_true rfl) dX8_copyFrom_141 (fun H locs I30 eI30 hM hS => ?_)
  have hI : INV I30 := by rw [eI30]; exact hI.cpy (by intro i hi; left; rfl)
  have hK : Kp [(101, 109)] [(100, 0), (100, 1), (100, 2), (100, 3), (100, 4), (100, 5), (100, 6), (100, 7), (100, 8), (100, 9)] I I30 := by rw [eI30]; exact hK.cpy rfl
  have hkI30 : Kp [(104, 105)] [] I29 I30 := by rw [eI30]; exact Kp.rf.cpy rfl
  have hcpI30 : ∀ j, j < 576 → I30 104 j = I29 134 j := fun j hj => by rw [eI30]; exact cpy_at rfl hj
  refine lv_aload_n hx hb dX8_copyFrom_144 rfl (lv_at hl 1 rfl) ?_
  refine m_getr (130) 14 (135) hx hb hts hown hE oc8 hM (hT.2.1 0 (by decide)) rfl (by decide) rfl (hT.2.2 4 (by decide)) (by decide) tb_78 dX8_copyFrom_145 ?_
  refine lv_iconst (v := (0)) hx hb dX8_copyFrom_148 (by decide) ?_
  refine lv_aload_n hx hb dX8_copyFrom_149 rfl (lv_at hl 0 rfl) ?_
  refine m_getr (100) 14 (105) hx hb hts hown hE oc8 hM (hG.1 100 (by decide)) rfl (by decide) rfl (hG.2 (100, 14, 105) (by decide)) (by decide) tb_78 dX8_copyFrom_150 ?_
  refine lv_iconst (v := (0)) hx hb dX8_copyFrom_153 (by decide) ?_
  refine lv_sipush (v := (288)) hx hb dX8_copyFrom_154 (by decide) ?_
  refine m_copyi (135) (105) hx hb (hml.trans hl.1.symm) hown hE hM hS (hT.2.1 5 (by decide)) rfl (hG.1 105 (by decide)) rfl (hts _ tb_1151) (hts _ tb_568) (hts _ tb_567) (hts _ tb_13) ⟨⟨by decide, by decide, by decide⟩, by decide, by decide⟩ (Nat.le_of_ble_eq_true rfl) (Nat.le_of_ble_eq_true rfl) dX8_copyFrom_157 (fun H locs I31 eI31 hM hS => ?_)
  have hI : INV I31 := by rw [eI31]; exact hI.cpy (by intro i hi; left; rfl)
  have hK : Kp [(101, 109)] [(100, 0), (100, 1), (100, 2), (100, 3), (100, 4), (100, 5), (100, 6), (100, 7), (100, 8), (100, 9)] I I31 := by rw [eI31]; exact hK.cpy rfl
  have hkI31 : Kp [(105, 106)] [] I30 I31 := by rw [eI31]; exact Kp.rf.cpy rfl
  have hcpI31 : ∀ j, j < 288 → I31 105 j = I30 135 j := fun j hj => by rw [eI31]; exact cpy_at rfl hj
  refine lv_aload_n hx hb dX8_copyFrom_160 rfl (lv_at hl 1 rfl) ?_
  refine m_getr (130) 15 (136) hx hb hts hown hE oc8 hM (hT.2.1 0 (by decide)) rfl (by decide) rfl (hT.2.2 5 (by decide)) (by decide) tb_80 dX8_copyFrom_161 ?_
  refine lv_iconst (v := (0)) hx hb dX8_copyFrom_164 (by decide) ?_
  refine lv_aload_n hx hb dX8_copyFrom_165 rfl (lv_at hl 0 rfl) ?_
  refine m_getr (100) 15 (106) hx hb hts hown hE oc8 hM (hG.1 100 (by decide)) rfl (by decide) rfl (hG.2 (100, 15, 106) (by decide)) (by decide) tb_80 dX8_copyFrom_166 ?_
  refine lv_iconst (v := (0)) hx hb dX8_copyFrom_169 (by decide) ?_
  refine lv_sipush (v := (288)) hx hb dX8_copyFrom_170 (by decide) ?_
  refine m_copyi (136) (106) hx hb (hml.trans hl.1.symm) hown hE hM hS (hT.2.1 6 (by decide)) rfl (hG.1 106 (by decide)) rfl (hts _ tb_1151) (hts _ tb_568) (hts _ tb_567) (hts _ tb_13) ⟨⟨by decide, by decide, by decide⟩, by decide, by decide⟩ (Nat.le_of_ble_eq_true rfl) (Nat.le_of_ble_eq_true rfl) dX8_copyFrom_173 (fun H locs I32 eI32 hM hS => ?_)
  have hI : INV I32 := by rw [eI32]; exact hI.cpy (by intro i hi; left; rfl)
  have hK : Kp [(101, 109)] [(100, 0), (100, 1), (100, 2), (100, 3), (100, 4), (100, 5), (100, 6), (100, 7), (100, 8), (100, 9)] I I32 := by rw [eI32]; exact hK.cpy rfl
  have hkI32 : Kp [(106, 107)] [] I31 I32 := by rw [eI32]; exact Kp.rf.cpy rfl
  have hcpI32 : ∀ j, j < 288 → I32 106 j = I31 136 j := fun j hj => by rw [eI32]; exact cpy_at rfl hj
  refine lv_aload_n hx hb dX8_copyFrom_176 rfl (lv_at hl 1 rfl) ?_
  refine m_getr (130) 16 (137) hx hb hts hown hE oc8 hM (hT.2.1 0 (by decide)) rfl (by decide) rfl (hT.2.2 6 (by decide)) (by decide) tb_82 dX8_copyFrom_177 ?_
  refine lv_iconst (v := (0)) hx hb dX8_copyFrom_180 (by decide) ?_
  refine lv_aload_n hx hb dX8_copyFrom_181 rfl (lv_at hl 0 rfl) ?_
  refine m_getr (100) 16 (107) hx hb hts hown hE oc8 hM (hG.1 100 (by decide)) rfl (by decide) rfl (hG.2 (100, 16, 107) (by decide)) (by decide) tb_82 dX8_copyFrom_182 ?_
  refine lv_iconst (v := (0)) hx hb dX8_copyFrom_185 (by decide) ?_
  refine lv_sipush (v := (240)) hx hb dX8_copyFrom_186 (by decide) ?_
  refine m_copyi (137) (107) hx hb (hml.trans hl.1.symm) hown hE hM hS (hT.2.1 7 (by decide)) rfl (hG.1 107 (by decide)) rfl (hts _ tb_1151) (hts _ tb_568) (hts _ tb_567) (hts _ tb_13) ⟨⟨by decide, by decide, by decide⟩, by decide, by decide⟩ (Nat.le_of_ble_eq_true rfl) (Nat.le_of_ble_eq_true rfl) dX8_copyFrom_189 (fun H locs I33 eI33 hM hS => ?_)
  have hI : INV I33 := by rw [eI33]; exact hI.cpy (by intro i hi; left; rfl)
  have hK : Kp [(101, 109)] [(100, 0), (100, 1), (100, 2), (100, 3), (100, 4), (100, 5), (100, 6), (100, 7), (100, 8), (100, 9)] I I33 := by rw [eI33]; exact hK.cpy rfl
  have hkI33 : Kp [(107, 108)] [] I32 I33 := by rw [eI33]; exact Kp.rf.cpy rfl
  have hcpI33 : ∀ j, j < 240 → I33 107 j = I32 137 j := fun j hj => by rw [eI33]; exact cpy_at rfl hj
  refine lv_aload_n hx hb dX8_copyFrom_192 rfl (lv_at hl 1 rfl) ?_
  refine m_getr (130) 17 (138) hx hb hts hown hE oc8 hM (hT.2.1 0 (by decide)) rfl (by decide) rfl (hT.2.2 7 (by decide)) (by decide) tb_83 dX8_copyFrom_193 ?_
  refine lv_iconst (v := (0)) hx hb dX8_copyFrom_196 (by decide) ?_
  refine lv_aload_n hx hb dX8_copyFrom_197 rfl (lv_at hl 0 rfl) ?_
  refine m_getr (100) 17 (108) hx hb hts hown hE oc8 hM (hG.1 100 (by decide)) rfl (by decide) rfl (hG.2 (100, 17, 108) (by decide)) (by decide) tb_83 dX8_copyFrom_198 ?_
  refine lv_iconst (v := (0)) hx hb dX8_copyFrom_201 (by decide) ?_
  refine lv_bipush (v := (56)) hx hb dX8_copyFrom_202 (by decide) ?_
  refine m_copyi (138) (108) hx hb (hml.trans hl.1.symm) hown hE hM hS (hT.2.1 8 (by decide)) rfl (hG.1 108 (by decide)) rfl (hts _ tb_1151) (hts _ tb_568) (hts _ tb_567) (hts _ tb_13) ⟨⟨by decide, by decide, by decide⟩, by decide, by decide⟩ (Nat.le_of_ble_eq_true rfl) (Nat.le_of_ble_eq_true rfl) dX8_copyFrom_204 (fun H locs I34 eI34 hM hS => ?_)
  have hI : INV I34 := by rw [eI34]; exact hI.cpy (by intro i hi; left; rfl)
  have hK : Kp [(101, 109)] [(100, 0), (100, 1), (100, 2), (100, 3), (100, 4), (100, 5), (100, 6), (100, 7), (100, 8), (100, 9)] I I34 := by rw [eI34]; exact hK.cpy rfl
  have hkI34 : Kp [(108, 109)] [] I33 I34 := by rw [eI34]; exact Kp.rf.cpy rfl
  have hcpI34 : ∀ j, j < 56 → I34 108 j = I33 138 j := fun j hj => by rw [eI34]; exact cpy_at rfl hj
  have hsc : ∀ j, j < 10 → I34 100 j = I 130 j := by
    intro j hj
    rcases (show j = 0 ∨ j = 1 ∨ j = 2 ∨ j = 3 ∨ j = 4 ∨ j = 5 ∨ j = 6 ∨ j = 7 ∨ j = 8 ∨ j = 9 by omega) with rfl | rfl | rfl | rfl | rfl | rfl | rfl | rfl | rfl | rfl
    · exact (((((((((hkI34.get (100) 0 rfl)).trans (hkI33.get (100) 0 rfl)).trans (hkI32.get (100) 0 rfl)).trans (hkI31.get (100) 0 rfl)).trans (hkI30.get (100) 0 rfl)).trans (hkI29.get (100) 0 rfl)).trans (hkI28.get (100) 0 rfl)).trans (hkI27.get (100) 0 rfl)).trans (show (u2 (u2 (u2 (u2 (u2 (u2 (u2 (u2 (u2 (u2 I (100) 0 (I (130) 0)) (100) 1 (I (130) 1)) (100) 2 (I (130) 2)) (100) 3 (I (130) 3)) (100) 4 (I (130) 4)) (100) 5 (I (130) 5)) (100) 6 (I (130) 6)) (100) 7 (I (130) 7)) (100) 8 (I (130) 8)) (100) 9 (I (130) 9)) (100) 0 = I (130) 0 from by simp [u2_v])
    · exact (((((((((hkI34.get (100) 1 rfl)).trans (hkI33.get (100) 1 rfl)).trans (hkI32.get (100) 1 rfl)).trans (hkI31.get (100) 1 rfl)).trans (hkI30.get (100) 1 rfl)).trans (hkI29.get (100) 1 rfl)).trans (hkI28.get (100) 1 rfl)).trans (hkI27.get (100) 1 rfl)).trans (show (u2 (u2 (u2 (u2 (u2 (u2 (u2 (u2 (u2 (u2 I (100) 0 (I (130) 0)) (100) 1 (I (130) 1)) (100) 2 (I (130) 2)) (100) 3 (I (130) 3)) (100) 4 (I (130) 4)) (100) 5 (I (130) 5)) (100) 6 (I (130) 6)) (100) 7 (I (130) 7)) (100) 8 (I (130) 8)) (100) 9 (I (130) 9)) (100) 1 = I (130) 1 from by simp [u2_v])
    · exact (((((((((hkI34.get (100) 2 rfl)).trans (hkI33.get (100) 2 rfl)).trans (hkI32.get (100) 2 rfl)).trans (hkI31.get (100) 2 rfl)).trans (hkI30.get (100) 2 rfl)).trans (hkI29.get (100) 2 rfl)).trans (hkI28.get (100) 2 rfl)).trans (hkI27.get (100) 2 rfl)).trans (show (u2 (u2 (u2 (u2 (u2 (u2 (u2 (u2 (u2 (u2 I (100) 0 (I (130) 0)) (100) 1 (I (130) 1)) (100) 2 (I (130) 2)) (100) 3 (I (130) 3)) (100) 4 (I (130) 4)) (100) 5 (I (130) 5)) (100) 6 (I (130) 6)) (100) 7 (I (130) 7)) (100) 8 (I (130) 8)) (100) 9 (I (130) 9)) (100) 2 = I (130) 2 from by simp [u2_v])
    · exact (((((((((hkI34.get (100) 3 rfl)).trans (hkI33.get (100) 3 rfl)).trans (hkI32.get (100) 3 rfl)).trans (hkI31.get (100) 3 rfl)).trans (hkI30.get (100) 3 rfl)).trans (hkI29.get (100) 3 rfl)).trans (hkI28.get (100) 3 rfl)).trans (hkI27.get (100) 3 rfl)).trans (show (u2 (u2 (u2 (u2 (u2 (u2 (u2 (u2 (u2 (u2 I (100) 0 (I (130) 0)) (100) 1 (I (130) 1)) (100) 2 (I (130) 2)) (100) 3 (I (130) 3)) (100) 4 (I (130) 4)) (100) 5 (I (130) 5)) (100) 6 (I (130) 6)) (100) 7 (I (130) 7)) (100) 8 (I (130) 8)) (100) 9 (I (130) 9)) (100) 3 = I (130) 3 from by simp [u2_v])
    · exact (((((((((hkI34.get (100) 4 rfl)).trans (hkI33.get (100) 4 rfl)).trans (hkI32.get (100) 4 rfl)).trans (hkI31.get (100) 4 rfl)).trans (hkI30.get (100) 4 rfl)).trans (hkI29.get (100) 4 rfl)).trans (hkI28.get (100) 4 rfl)).trans (hkI27.get (100) 4 rfl)).trans (show (u2 (u2 (u2 (u2 (u2 (u2 (u2 (u2 (u2 (u2 I (100) 0 (I (130) 0)) (100) 1 (I (130) 1)) (100) 2 (I (130) 2)) (100) 3 (I (130) 3)) (100) 4 (I (130) 4)) (100) 5 (I (130) 5)) (100) 6 (I (130) 6)) (100) 7 (I (130) 7)) (100) 8 (I (130) 8)) (100) 9 (I (130) 9)) (100) 4 = I (130) 4 from by simp [u2_v])
    · exact (((((((((hkI34.get (100) 5 rfl)).trans (hkI33.get (100) 5 rfl)).trans (hkI32.get (100) 5 rfl)).trans (hkI31.get (100) 5 rfl)).trans (hkI30.get (100) 5 rfl)).trans (hkI29.get (100) 5 rfl)).trans (hkI28.get (100) 5 rfl)).trans (hkI27.get (100) 5 rfl)).trans (show (u2 (u2 (u2 (u2 (u2 (u2 (u2 (u2 (u2 (u2 I (100) 0 (I (130) 0)) (100) 1 (I (130) 1)) (100) 2 (I (130) 2)) (100) 3 (I (130) 3)) (100) 4 (I (130) 4)) (100) 5 (I (130) 5)) (100) 6 (I (130) 6)) (100) 7 (I (130) 7)) (100) 8 (I (130) 8)) (100) 9 (I (130) 9)) (100) 5 = I (130) 5 from by simp [u2_v])
    · exact (((((((((hkI34.get (100) 6 rfl)).trans (hkI33.get (100) 6 rfl)).trans (hkI32.get (100) 6 rfl)).trans (hkI31.get (100) 6 rfl)).trans (hkI30.get (100) 6 rfl)).trans (hkI29.get (100) 6 rfl)).trans (hkI28.get (100) 6 rfl)).trans (hkI27.get (100) 6 rfl)).trans (show (u2 (u2 (u2 (u2 (u2 (u2 (u2 (u2 (u2 (u2 I (100) 0 (I (130) 0)) (100) 1 (I (130) 1)) (100) 2 (I (130) 2)) (100) 3 (I (130) 3)) (100) 4 (I (130) 4)) (100) 5 (I (130) 5)) (100) 6 (I (130) 6)) (100) 7 (I (130) 7)) (100) 8 (I (130) 8)) (100) 9 (I (130) 9)) (100) 6 = I (130) 6 from by simp [u2_v])
    · exact (((((((((hkI34.get (100) 7 rfl)).trans (hkI33.get (100) 7 rfl)).trans (hkI32.get (100) 7 rfl)).trans (hkI31.get (100) 7 rfl)).trans (hkI30.get (100) 7 rfl)).trans (hkI29.get (100) 7 rfl)).trans (hkI28.get (100) 7 rfl)).trans (hkI27.get (100) 7 rfl)).trans (show (u2 (u2 (u2 (u2 (u2 (u2 (u2 (u2 (u2 (u2 I (100) 0 (I (130) 0)) (100) 1 (I (130) 1)) (100) 2 (I (130) 2)) (100) 3 (I (130) 3)) (100) 4 (I (130) 4)) (100) 5 (I (130) 5)) (100) 6 (I (130) 6)) (100) 7 (I (130) 7)) (100) 8 (I (130) 8)) (100) 9 (I (130) 9)) (100) 7 = I (130) 7 from by simp [u2_v])
    · exact (((((((((hkI34.get (100) 8 rfl)).trans (hkI33.get (100) 8 rfl)).trans (hkI32.get (100) 8 rfl)).trans (hkI31.get (100) 8 rfl)).trans (hkI30.get (100) 8 rfl)).trans (hkI29.get (100) 8 rfl)).trans (hkI28.get (100) 8 rfl)).trans (hkI27.get (100) 8 rfl)).trans (show (u2 (u2 (u2 (u2 (u2 (u2 (u2 (u2 (u2 (u2 I (100) 0 (I (130) 0)) (100) 1 (I (130) 1)) (100) 2 (I (130) 2)) (100) 3 (I (130) 3)) (100) 4 (I (130) 4)) (100) 5 (I (130) 5)) (100) 6 (I (130) 6)) (100) 7 (I (130) 7)) (100) 8 (I (130) 8)) (100) 9 (I (130) 9)) (100) 8 = I (130) 8 from by simp [u2_v])
    · exact (((((((((hkI34.get (100) 9 rfl)).trans (hkI33.get (100) 9 rfl)).trans (hkI32.get (100) 9 rfl)).trans (hkI31.get (100) 9 rfl)).trans (hkI30.get (100) 9 rfl)).trans (hkI29.get (100) 9 rfl)).trans (hkI28.get (100) 9 rfl)).trans (hkI27.get (100) 9 rfl)).trans (show (u2 (u2 (u2 (u2 (u2 (u2 (u2 (u2 (u2 (u2 I (100) 0 (I (130) 0)) (100) 1 (I (130) 1)) (100) 2 (I (130) 2)) (100) 3 (I (130) 3)) (100) 4 (I (130) 4)) (100) 5 (I (130) 5)) (100) 6 (I (130) 6)) (100) 7 (I (130) 7)) (100) 8 (I (130) 8)) (100) 9 (I (130) 9)) (100) 9 = I (130) 9 from by simp [u2_v])
  exact m_vret hx hb hr hlocks hM hS (Nat.le_of_ble_eq_true rfl) (Nat.le_of_ble_eq_true rfl) ⟨_, _, rfl, hI, hK, ⟨hsc, (fun j hj => (congrFun ((((((((hkI34.getA 101 rfl)).trans (hkI33.getA 101 rfl)).trans (hkI32.getA 101 rfl)).trans (hkI31.getA 101 rfl)).trans (hkI30.getA 101 rfl)).trans (hkI29.getA 101 rfl)).trans (hkI28.getA 101 rfl)) j).trans ((hcpI27 j hj).trans (congrFun ((show (u2 (u2 (u2 (u2 (u2 (u2 (u2 (u2 (u2 (u2 I (100) 0 (I (130) 0)) (100) 1 (I (130) 1)) (100) 2 (I (130) 2)) (100) 3 (I (130) 3)) (100) 4 (I (130) 4)) (100) 5 (I (130) 5)) (100) 6 (I (130) 6)) (100) 7 (I (130) 7)) (100) 8 (I (130) 8)) (100) 9 (I (130) 9)) 131 = I 131 from by funext zz; simp [u2_v])) j))), (fun j hj => (congrFun (((((((hkI34.getA 102 rfl)).trans (hkI33.getA 102 rfl)).trans (hkI32.getA 102 rfl)).trans (hkI31.getA 102 rfl)).trans (hkI30.getA 102 rfl)).trans (hkI29.getA 102 rfl)) j).trans ((hcpI28 j hj).trans (congrFun (((hkI27.getA 132 rfl)).trans (show (u2 (u2 (u2 (u2 (u2 (u2 (u2 (u2 (u2 (u2 I (100) 0 (I (130) 0)) (100) 1 (I (130) 1)) (100) 2 (I (130) 2)) (100) 3 (I (130) 3)) (100) 4 (I (130) 4)) (100) 5 (I (130) 5)) (100) 6 (I (130) 6)) (100) 7 (I (130) 7)) (100) 8 (I (130) 8)) (100) 9 (I (130) 9)) 132 = I 132 from by funext zz; simp [u2_v])) j))), (fun j hj => (congrFun ((((((hkI34.getA 103 rfl)).trans (hkI33.getA 103 rfl)).trans (hkI32.getA 103 rfl)).trans (hkI31.getA 103 rfl)).trans (hkI30.getA 103 rfl)) j).trans ((hcpI29 j hj).trans (congrFun ((((hkI28.getA 133 rfl)).trans (hkI27.getA 133 rfl)).trans (show (u2 (u2 (u2 (u2 (u2 (u2 (u2 (u2 (u2 (u2 I (100) 0 (I (130) 0)) (100) 1 (I (130) 1)) (100) 2 (I (130) 2)) (100) 3 (I (130) 3)) (100) 4 (I (130) 4)) (100) 5 (I (130) 5)) (100) 6 (I (130) 6)) (100) 7 (I (130) 7)) (100) 8 (I (130) 8)) (100) 9 (I (130) 9)) 133 = I 133 from by funext zz; simp [u2_v])) j))), (fun j hj => (congrFun (((((hkI34.getA 104 rfl)).trans (hkI33.getA 104 rfl)).trans (hkI32.getA 104 rfl)).trans (hkI31.getA 104 rfl)) j).trans ((hcpI30 j hj).trans (congrFun (((((hkI29.getA 134 rfl)).trans (hkI28.getA 134 rfl)).trans (hkI27.getA 134 rfl)).trans (show (u2 (u2 (u2 (u2 (u2 (u2 (u2 (u2 (u2 (u2 I (100) 0 (I (130) 0)) (100) 1 (I (130) 1)) (100) 2 (I (130) 2)) (100) 3 (I (130) 3)) (100) 4 (I (130) 4)) (100) 5 (I (130) 5)) (100) 6 (I (130) 6)) (100) 7 (I (130) 7)) (100) 8 (I (130) 8)) (100) 9 (I (130) 9)) 134 = I 134 from by funext zz; simp [u2_v])) j))), (fun j hj => (congrFun ((((hkI34.getA 105 rfl)).trans (hkI33.getA 105 rfl)).trans (hkI32.getA 105 rfl)) j).trans ((hcpI31 j hj).trans (congrFun ((((((hkI30.getA 135 rfl)).trans (hkI29.getA 135 rfl)).trans (hkI28.getA 135 rfl)).trans (hkI27.getA 135 rfl)).trans (show (u2 (u2 (u2 (u2 (u2 (u2 (u2 (u2 (u2 (u2 I (100) 0 (I (130) 0)) (100) 1 (I (130) 1)) (100) 2 (I (130) 2)) (100) 3 (I (130) 3)) (100) 4 (I (130) 4)) (100) 5 (I (130) 5)) (100) 6 (I (130) 6)) (100) 7 (I (130) 7)) (100) 8 (I (130) 8)) (100) 9 (I (130) 9)) 135 = I 135 from by funext zz; simp [u2_v])) j))), (fun j hj => (congrFun (((hkI34.getA 106 rfl)).trans (hkI33.getA 106 rfl)) j).trans ((hcpI32 j hj).trans (congrFun (((((((hkI31.getA 136 rfl)).trans (hkI30.getA 136 rfl)).trans (hkI29.getA 136 rfl)).trans (hkI28.getA 136 rfl)).trans (hkI27.getA 136 rfl)).trans (show (u2 (u2 (u2 (u2 (u2 (u2 (u2 (u2 (u2 (u2 I (100) 0 (I (130) 0)) (100) 1 (I (130) 1)) (100) 2 (I (130) 2)) (100) 3 (I (130) 3)) (100) 4 (I (130) 4)) (100) 5 (I (130) 5)) (100) 6 (I (130) 6)) (100) 7 (I (130) 7)) (100) 8 (I (130) 8)) (100) 9 (I (130) 9)) 136 = I 136 from by funext zz; simp [u2_v])) j))), (fun j hj => (congrFun ((hkI34.getA 107 rfl)) j).trans ((hcpI33 j hj).trans (congrFun ((((((((hkI32.getA 137 rfl)).trans (hkI31.getA 137 rfl)).trans (hkI30.getA 137 rfl)).trans (hkI29.getA 137 rfl)).trans (hkI28.getA 137 rfl)).trans (hkI27.getA 137 rfl)).trans (show (u2 (u2 (u2 (u2 (u2 (u2 (u2 (u2 (u2 (u2 I (100) 0 (I (130) 0)) (100) 1 (I (130) 1)) (100) 2 (I (130) 2)) (100) 3 (I (130) 3)) (100) 4 (I (130) 4)) (100) 5 (I (130) 5)) (100) 6 (I (130) 6)) (100) 7 (I (130) 7)) (100) 8 (I (130) 8)) (100) 9 (I (130) 9)) 137 = I 137 from by funext zz; simp [u2_v])) j))), (fun j hj => (congrFun (rfl) j).trans ((hcpI34 j hj).trans (congrFun (((((((((hkI33.getA 138 rfl)).trans (hkI32.getA 138 rfl)).trans (hkI31.getA 138 rfl)).trans (hkI30.getA 138 rfl)).trans (hkI29.getA 138 rfl)).trans (hkI28.getA 138 rfl)).trans (hkI27.getA 138 rfl)).trans (show (u2 (u2 (u2 (u2 (u2 (u2 (u2 (u2 (u2 (u2 I (100) 0 (I (130) 0)) (100) 1 (I (130) 1)) (100) 2 (I (130) 2)) (100) 3 (I (130) 3)) (100) 4 (I (130) 4)) (100) 5 (I (130) 5)) (100) 6 (I (130) 6)) (100) 7 (I (130) 7)) (100) 8 (I (130) 8)) (100) 9 (I (130) 9)) 138 = I 138 from by funext zz; simp [u2_v])) j)))⟩⟩ dX8_copyFrom_207
set_option maxHeartbeats 4000000 in
set_option maxRecDepth 20000 in
theorem V_X8_copyFrom_140_100_f (l : Launch) (D : va_G) (A : Nat → Prop) (ad : Nat → Nat) (ns : List Nat) (I : MI) (L : ML) (G : MG) (hG : SGC ns G) (hI : INV I) (hT : TOK ns G 140) : Met l yX8_copyFrom (wd yX8_copyFrom cX8_copyFrom 2 none) ({ frames := 1, cells := 0, slots := 0, locals := 40 }) (va_Pc [.ref (ad (140)), .ref (ad (100))] (PM D A ad ns I L G)) (va_Qv (fun u => ∃ I2 L2, u = (ad, ns, I2, L2, G) ∧ INV I2 ∧ Kp [(141, 149)] [(140, 0), (140, 1), (140, 2), (140, 3), (140, 4), (140, 5), (140, 6), (140, 7), (140, 8), (140, 9)] I I2 ∧ (CPF 140 100 I I2)) (BM D A) A) 0 0 A := by
  refine m_ofW (by decide) (Nat.le_of_ble_eq_true rfl) ?_
  intro p e s m below meth c ls args hC hE hM hA hS hl
  obtain ⟨hx, hb, hml, hown, hts, hr, hlocks, hin⟩ := hC
  have k0 : (0 : Int32).toInt = 0 := by decide
  have k56 : (56 : Int32).toInt = 56 := by decide
  have k240 : (240 : Int32).toInt = 240 := by decide
  have k288 : (288 : Int32).toInt = 288 := by decide
  have k576 : (576 : Int32).toInt = 576 := by decide
  have hK : Kp [(141, 149)] [(140, 0), (140, 1), (140, 2), (140, 3), (140, 4), (140, 5), (140, 6), (140, 7), (140, 8), (140, 9)] I I := Kp.rf
  have hl : lv_has ls 2 [(0, .ref (ad (140))), (1, .ref (ad (100)))] := hl
  refine lv_aload_n hx hb dX8_copyFrom_0 rfl (lv_at hl 0 rfl) ?_
  refine lv_aload_n hx hb dX8_copyFrom_1 rfl (lv_at hl 1 rfl) ?_
  refine m_geti (100) 0 hx hb hts hown hE oc8 hM (hG.1 100 (by decide)) rfl (by decide) rfl tb_34 dX8_copyFrom_2 ?_
  have g1 := hI.get (100) 0 (lo := 0) (hi := 24) rfl
  refine m_puti (140) 0 hx hb hts hown hE oc8 hM hS (hT.2.1 0 (by decide)) rfl (by decide) rfl rfl rfl rfl tb_34 dX8_copyFrom_5 (fun H locs I2 eI2 hM hS => ?_)
  subst eI2
  have hI := hI.put (n := 140) (k := 0) (v := I (100) 0) (lo := 0) (hi := 24) rfl (by first | omega | decide)
  have hK := hK.put (n := 140) (k := 0) (v := I (100) 0) (by first | rfl | simp [inR])
  refine lv_aload_n hx hb dX8_copyFrom_8 rfl (lv_at hl 0 rfl) ?_
  refine lv_aload_n hx hb dX8_copyFrom_9 rfl (lv_at hl 1 rfl) ?_
  refine m_geti (100) 1 hx hb hts hown hE oc8 hM (hG.1 100 (by decide)) rfl (by decide) rfl tb_37 dX8_copyFrom_10 ?_
  have g3 := hI.get (100) 1 (lo := 0) (hi := 24) rfl
  have z4 : (u2 I (140) 0 (I (100) 0)) (100) 1 = I (100) 1 := (show (u2 I (140) 0 (I (100) 0)) (100) 1 = I (100) 1 from by simp [u2_v])
  rw [z4] at g3 ⊢
  refine m_puti (140) 1 hx hb hts hown hE oc8 hM hS (hT.2.1 0 (by decide)) rfl (by decide) rfl rfl rfl rfl tb_37 dX8_copyFrom_13 (fun H locs I5 eI5 hM hS => ?_)
  subst eI5
  have hI := hI.put (n := 140) (k := 1) (v := I (100) 1) (lo := 0) (hi := 24) rfl (by first | omega | decide)
  have hK := hK.put (n := 140) (k := 1) (v := I (100) 1) (by first | rfl | simp [inR])
  refine lv_aload_n hx hb dX8_copyFrom_16 rfl (lv_at hl 0 rfl) ?_
  refine lv_aload_n hx hb dX8_copyFrom_17 rfl (lv_at hl 1 rfl) ?_
  refine m_geti (100) 2 hx hb hts hown hE oc8 hM (hG.1 100 (by decide)) rfl (by decide) rfl tb_41 dX8_copyFrom_18 ?_
  have g6 := hI.get (100) 2 (lo := 0) (hi := 23) rfl
  have z7 : (u2 (u2 I (140) 0 (I (100) 0)) (140) 1 (I (100) 1)) (100) 2 = I (100) 2 := (show (u2 (u2 I (140) 0 (I (100) 0)) (140) 1 (I (100) 1)) (100) 2 = I (100) 2 from by simp [u2_v])
  rw [z7] at g6 ⊢
  refine m_puti (140) 2 hx hb hts hown hE oc8 hM hS (hT.2.1 0 (by decide)) rfl (by decide) rfl rfl rfl rfl tb_41 dX8_copyFrom_21 (fun H locs I8 eI8 hM hS => ?_)
  subst eI8
  have hI := hI.put (n := 140) (k := 2) (v := I (100) 2) (lo := 0) (hi := 23) rfl (by first | omega | decide)
  have hK := hK.put (n := 140) (k := 2) (v := I (100) 2) (by first | rfl | simp [inR])
  refine lv_aload_n hx hb dX8_copyFrom_24 rfl (lv_at hl 0 rfl) ?_
  refine lv_aload_n hx hb dX8_copyFrom_25 rfl (lv_at hl 1 rfl) ?_
  refine m_geti (100) 3 hx hb hts hown hE oc8 hM (hG.1 100 (by decide)) rfl (by decide) rfl tb_45 dX8_copyFrom_26 ?_
  have g9 := hI.get (100) 3 (lo := 0) (hi := 23) rfl
  have z10 : (u2 (u2 (u2 I (140) 0 (I (100) 0)) (140) 1 (I (100) 1)) (140) 2 (I (100) 2)) (100) 3 = I (100) 3 := (show (u2 (u2 (u2 I (140) 0 (I (100) 0)) (140) 1 (I (100) 1)) (140) 2 (I (100) 2)) (100) 3 = I (100) 3 from by simp [u2_v])
  rw [z10] at g9 ⊢
  refine m_puti (140) 3 hx hb hts hown hE oc8 hM hS (hT.2.1 0 (by decide)) rfl (by decide) rfl rfl rfl rfl tb_45 dX8_copyFrom_29 (fun H locs I11 eI11 hM hS => ?_)
  subst eI11
  have hI := hI.put (n := 140) (k := 3) (v := I (100) 3) (lo := 0) (hi := 23) rfl (by first | omega | decide)
  have hK := hK.put (n := 140) (k := 3) (v := I (100) 3) (by first | rfl | simp [inR])
  refine lv_aload_n hx hb dX8_copyFrom_32 rfl (lv_at hl 0 rfl) ?_
  refine lv_aload_n hx hb dX8_copyFrom_33 rfl (lv_at hl 1 rfl) ?_
  refine m_geti (100) 4 hx hb hts hown hE oc8 hM (hG.1 100 (by decide)) rfl (by decide) rfl tb_48 dX8_copyFrom_34 ?_
  have z12 : (u2 (u2 (u2 (u2 I (140) 0 (I (100) 0)) (140) 1 (I (100) 1)) (140) 2 (I (100) 2)) (140) 3 (I (100) 3)) (100) 4 = I (100) 4 := (show (u2 (u2 (u2 (u2 I (140) 0 (I (100) 0)) (140) 1 (I (100) 1)) (140) 2 (I (100) 2)) (140) 3 (I (100) 3)) (100) 4 = I (100) 4 from by simp [u2_v])
  rw [z12]
  refine m_puti (140) 4 hx hb hts hown hE oc8 hM hS (hT.2.1 0 (by decide)) rfl (by decide) rfl rfl rfl rfl tb_48 dX8_copyFrom_37 (fun H locs I13 eI13 hM hS => ?_)
  subst eI13
  have hI := hI.putF (n := 140) (k := 4) (v := I (100) 4) rfl
  have hK := hK.put (n := 140) (k := 4) (v := I (100) 4) (by first | rfl | simp [inR])
  refine lv_aload_n hx hb dX8_copyFrom_40 rfl (lv_at hl 0 rfl) ?_
  refine lv_aload_n hx hb dX8_copyFrom_41 rfl (lv_at hl 1 rfl) ?_
  refine m_geti (100) 5 hx hb hts hown hE oc8 hM (hG.1 100 (by decide)) rfl (by decide) rfl tb_51 dX8_copyFrom_42 ?_
  have g14 := hI.get (100) 5 (lo := 0) (hi := 11) rfl
  have z15 : (u2 (u2 (u2 (u2 (u2 I (140) 0 (I (100) 0)) (140) 1 (I (100) 1)) (140) 2 (I (100) 2)) (140) 3 (I (100) 3)) (140) 4 (I (100) 4)) (100) 5 = I (100) 5 := (show (u2 (u2 (u2 (u2 (u2 I (140) 0 (I (100) 0)) (140) 1 (I (100) 1)) (140) 2 (I (100) 2)) (140) 3 (I (100) 3)) (140) 4 (I (100) 4)) (100) 5 = I (100) 5 from by simp [u2_v])
  rw [z15] at g14 ⊢
  refine m_puti (140) 5 hx hb hts hown hE oc8 hM hS (hT.2.1 0 (by decide)) rfl (by decide) rfl rfl rfl rfl tb_51 dX8_copyFrom_45 (fun H locs I16 eI16 hM hS => ?_)
  subst eI16
  have hI := hI.put (n := 140) (k := 5) (v := I (100) 5) (lo := 0) (hi := 11) rfl (by first | omega | decide)
  have hK := hK.put (n := 140) (k := 5) (v := I (100) 5) (by first | rfl | simp [inR])
  refine lv_aload_n hx hb dX8_copyFrom_48 rfl (lv_at hl 0 rfl) ?_
  refine lv_aload_n hx hb dX8_copyFrom_49 rfl (lv_at hl 1 rfl) ?_
  refine m_geti (100) 6 hx hb hts hown hE oc8 hM (hG.1 100 (by decide)) rfl (by decide) rfl tb_54 dX8_copyFrom_50 ?_
  have z17 : (u2 (u2 (u2 (u2 (u2 (u2 I (140) 0 (I (100) 0)) (140) 1 (I (100) 1)) (140) 2 (I (100) 2)) (140) 3 (I (100) 3)) (140) 4 (I (100) 4)) (140) 5 (I (100) 5)) (100) 6 = I (100) 6 := (show (u2 (u2 (u2 (u2 (u2 (u2 I (140) 0 (I (100) 0)) (140) 1 (I (100) 1)) (140) 2 (I (100) 2)) (140) 3 (I (100) 3)) (140) 4 (I (100) 4)) (140) 5 (I (100) 5)) (100) 6 = I (100) 6 from by simp [u2_v])
  rw [z17]
  refine m_puti (140) 6 hx hb hts hown hE oc8 hM hS (hT.2.1 0 (by decide)) rfl (by decide) rfl rfl rfl rfl tb_54 dX8_copyFrom_53 (fun H locs I18 eI18 hM hS => ?_)
  subst eI18
  have hI := hI.putF (n := 140) (k := 6) (v := I (100) 6) rfl
  have hK := hK.put (n := 140) (k := 6) (v := I (100) 6) (by first | rfl | simp [inR])
  refine lv_aload_n hx hb dX8_copyFrom_56 rfl (lv_at hl 0 rfl) ?_
  refine lv_aload_n hx hb dX8_copyFrom_57 rfl (lv_at hl 1 rfl) ?_
  refine m_geti (100) 7 hx hb hts hown hE oc8 hM (hG.1 100 (by decide)) rfl (by decide) rfl tb_57 dX8_copyFrom_58 ?_
  have z19 : (u2 (u2 (u2 (u2 (u2 (u2 (u2 I (140) 0 (I (100) 0)) (140) 1 (I (100) 1)) (140) 2 (I (100) 2)) (140) 3 (I (100) 3)) (140) 4 (I (100) 4)) (140) 5 (I (100) 5)) (140) 6 (I (100) 6)) (100) 7 = I (100) 7 := (show (u2 (u2 (u2 (u2 (u2 (u2 (u2 I (140) 0 (I (100) 0)) (140) 1 (I (100) 1)) (140) 2 (I (100) 2)) (140) 3 (I (100) 3)) (140) 4 (I (100) 4)) (140) 5 (I (100) 5)) (140) 6 (I (100) 6)) (100) 7 = I (100) 7 from by simp [u2_v])
  rw [z19]
  refine m_puti (140) 7 hx hb hts hown hE oc8 hM hS (hT.2.1 0 (by decide)) rfl (by decide) rfl rfl rfl rfl tb_57 dX8_copyFrom_61 (fun H locs I20 eI20 hM hS => ?_)
  subst eI20
  have hI := hI.putF (n := 140) (k := 7) (v := I (100) 7) rfl
  have hK := hK.put (n := 140) (k := 7) (v := I (100) 7) (by first | rfl | simp [inR])
  refine lv_aload_n hx hb dX8_copyFrom_64 rfl (lv_at hl 0 rfl) ?_
  refine lv_aload_n hx hb dX8_copyFrom_65 rfl (lv_at hl 1 rfl) ?_
  refine m_geti (100) 8 hx hb hts hown hE oc8 hM (hG.1 100 (by decide)) rfl (by decide) rfl tb_59 dX8_copyFrom_66 ?_
  have g21 := hI.get (100) 8 (lo := 0) (hi := 24) rfl
  have z22 : (u2 (u2 (u2 (u2 (u2 (u2 (u2 (u2 I (140) 0 (I (100) 0)) (140) 1 (I (100) 1)) (140) 2 (I (100) 2)) (140) 3 (I (100) 3)) (140) 4 (I (100) 4)) (140) 5 (I (100) 5)) (140) 6 (I (100) 6)) (140) 7 (I (100) 7)) (100) 8 = I (100) 8 := (show (u2 (u2 (u2 (u2 (u2 (u2 (u2 (u2 I (140) 0 (I (100) 0)) (140) 1 (I (100) 1)) (140) 2 (I (100) 2)) (140) 3 (I (100) 3)) (140) 4 (I (100) 4)) (140) 5 (I (100) 5)) (140) 6 (I (100) 6)) (140) 7 (I (100) 7)) (100) 8 = I (100) 8 from by simp [u2_v])
  rw [z22] at g21 ⊢
  refine m_puti (140) 8 hx hb hts hown hE oc8 hM hS (hT.2.1 0 (by decide)) rfl (by decide) rfl rfl rfl rfl tb_59 dX8_copyFrom_69 (fun H locs I23 eI23 hM hS => ?_)
  subst eI23
  have hI := hI.put (n := 140) (k := 8) (v := I (100) 8) (lo := 0) (hi := 24) rfl (by first | omega | decide)
  have hK := hK.put (n := 140) (k := 8) (v := I (100) 8) (by first | rfl | simp [inR])
  refine lv_aload_n hx hb dX8_copyFrom_72 rfl (lv_at hl 0 rfl) ?_
  refine lv_aload_n hx hb dX8_copyFrom_73 rfl (lv_at hl 1 rfl) ?_
  refine m_geti (100) 9 hx hb hts hown hE oc8 hM (hG.1 100 (by decide)) rfl (by decide) rfl tb_63 dX8_copyFrom_74 ?_
  have g24 := hI.get (100) 9 (lo := 0) (hi := 8) rfl
  have z25 : (u2 (u2 (u2 (u2 (u2 (u2 (u2 (u2 (u2 I (140) 0 (I (100) 0)) (140) 1 (I (100) 1)) (140) 2 (I (100) 2)) (140) 3 (I (100) 3)) (140) 4 (I (100) 4)) (140) 5 (I (100) 5)) (140) 6 (I (100) 6)) (140) 7 (I (100) 7)) (140) 8 (I (100) 8)) (100) 9 = I (100) 9 := (show (u2 (u2 (u2 (u2 (u2 (u2 (u2 (u2 (u2 I (140) 0 (I (100) 0)) (140) 1 (I (100) 1)) (140) 2 (I (100) 2)) (140) 3 (I (100) 3)) (140) 4 (I (100) 4)) (140) 5 (I (100) 5)) (140) 6 (I (100) 6)) (140) 7 (I (100) 7)) (140) 8 (I (100) 8)) (100) 9 = I (100) 9 from by simp [u2_v])
  rw [z25] at g24 ⊢
  refine m_puti (140) 9 hx hb hts hown hE oc8 hM hS (hT.2.1 0 (by decide)) rfl (by decide) rfl rfl rfl rfl tb_63 dX8_copyFrom_77 (fun H locs I26 eI26 hM hS => ?_)
  subst eI26
  have hI := hI.put (n := 140) (k := 9) (v := I (100) 9) (lo := 0) (hi := 8) rfl (by first | omega | decide)
  have hK := hK.put (n := 140) (k := 9) (v := I (100) 9) (by first | rfl | simp [inR])
  refine lv_aload_n hx hb dX8_copyFrom_80 rfl (lv_at hl 1 rfl) ?_
  refine m_getr (100) 10 (101) hx hb hts hown hE oc8 hM (hG.1 100 (by decide)) rfl (by decide) rfl (hG.2 (100, 10, 101) (by decide)) (by decide) tb_66 dX8_copyFrom_81 ?_
  refine lv_iconst (v := (0)) hx hb dX8_copyFrom_84 (by decide) ?_
  refine lv_aload_n hx hb dX8_copyFrom_85 rfl (lv_at hl 0 rfl) ?_
  refine m_getr (140) 10 (141) hx hb hts hown hE oc8 hM (hT.2.1 0 (by decide)) rfl (by decide) rfl (hT.2.2 0 (by decide)) (by decide) tb_66 dX8_copyFrom_86 ?_
  refine lv_iconst (v := (0)) hx hb dX8_copyFrom_89 (by decide) ?_
  refine lv_sipush (v := (576)) hx hb dX8_copyFrom_90 (by decide) ?_
  refine m_copyi (101) (141) hx hb (hml.trans hl.1.symm) hown hE hM hS (hG.1 101 (by decide)) rfl (hT.2.1 1 (by decide)) rfl (hts _ tb_1151) (hts _ tb_568) (hts _ tb_567) (hts _ tb_13) ⟨⟨by decide, by decide, by decide⟩, by decide, by decide⟩ (Nat.le_of_ble_eq_true rfl) (Nat.le_of_ble_eq_true rfl) dX8_copyFrom_93 (fun H locs I27 eI27 hM hS => ?_)
  have hI : INV I27 := by rw [eI27]; exact hI.cpy (by intro i hi; left; rfl)
  have hK : Kp [(141, 149)] [(140, 0), (140, 1), (140, 2), (140, 3), (140, 4), (140, 5), (140, 6), (140, 7), (140, 8), (140, 9)] I I27 := by rw [eI27]; exact hK.cpy rfl
  have hkI27 : Kp [(141, 142)] [] (u2 (u2 (u2 (u2 (u2 (u2 (u2 (u2 (u2 (u2 I (140) 0 (I (100) 0)) (140) 1 (I (100) 1)) (140) 2 (I (100) 2)) (140) 3 (I (100) 3)) (140) 4 (I (100) 4)) (140) 5 (I (100) 5)) (140) 6 (I (100) 6)) (140) 7 (I (100) 7)) (140) 8 (I (100) 8)) (140) 9 (I (100) 9)) I27 := by rw [eI27]; exact Kp.rf.cpy rfl
  have hcpI27 : ∀ j, j < 576 → I27 141 j = (u2 (u2 (u2 (u2 (u2 (u2 (u2 (u2 (u2 (u2 I (140) 0 (I (100) 0)) (140) 1 (I (100) 1)) (140) 2 (I (100) 2)) (140) 3 (I (100) 3)) (140) 4 (I (100) 4)) (140) 5 (I (100) 5)) (140) 6 (I (100) 6)) (140) 7 (I (100) 7)) (140) 8 (I (100) 8)) (140) 9 (I (100) 9)) 101 j := fun j hj => by rw [eI27]; exact cpy_at rfl hj
  refine lv_aload_n hx hb dX8_copyFrom_96 rfl (lv_at hl 1 rfl) ?_
  refine m_getr (100) 11 (102) hx hb hts hown hE oc8 hM (hG.1 100 (by decide)) rfl (by decide) rfl (hG.2 (100, 11, 102) (by decide)) (by decide) tb_68 dX8_copyFrom_97 ?_
  refine lv_iconst (v := (0)) hx hb dX8_copyFrom_100 (by decide) ?_
  refine lv_aload_n hx hb dX8_copyFrom_101 rfl (lv_at hl 0 rfl) ?_
  refine m_getr (140) 11 (142) hx hb hts hown hE oc8 hM (hT.2.1 0 (by decide)) rfl (by decide) rfl (hT.2.2 1 (by decide)) (by decide) tb_68 dX8_copyFrom_102 ?_
  refine lv_iconst (v := (0)) hx hb dX8_copyFrom_105 (by decide) ?_
  refine lv_sipush (v := (576)) hx hb dX8_copyFrom_106 (by decide) ?_
  refine m_copyi (102) (142) hx hb (hml.trans hl.1.symm) hown hE hM hS (hG.1 102 (by decide)) rfl (hT.2.1 2 (by decide)) rfl (hts _ tb_1151) (hts _ tb_568) (hts _ tb_567) (hts _ tb_13) ⟨⟨by decide, by decide, by decide⟩, by decide, by decide⟩ (Nat.le_of_ble_eq_true rfl) (Nat.le_of_ble_eq_true rfl) dX8_copyFrom_109 (fun H locs I28 eI28 hM hS => ?_)
  have hI : INV I28 := by rw [eI28]; exact hI.cpy (by intro i hi; left; rfl)
  have hK : Kp [(141, 149)] [(140, 0), (140, 1), (140, 2), (140, 3), (140, 4), (140, 5), (140, 6), (140, 7), (140, 8), (140, 9)] I I28 := by rw [eI28]; exact hK.cpy rfl
  have hkI28 : Kp [(142, 143)] [] I27 I28 := by rw [eI28]; exact Kp.rf.cpy rfl
  have hcpI28 : ∀ j, j < 576 → I28 142 j = I27 102 j := fun j hj => by rw [eI28]; exact cpy_at rfl hj
  refine lv_aload_n hx hb dX8_copyFrom_112 rfl (lv_at hl 1 rfl) ?_
  refine m_getr (100) 12 (103) hx hb hts hown hE oc8 hM (hG.1 100 (by decide)) rfl (by decide) rfl (hG.2 (100, 12, 103) (by decide)) (by decide) tb_71 dX8_copyFrom_113 ?_
  refine lv_iconst (v := (0)) hx hb dX8_copyFrom_116 (by decide) ?_
  refine lv_aload_n hx hb dX8_copyFrom_117 rfl (lv_at hl 0 rfl) ?_
  refine m_getr (140) 12 (143) hx hb hts hown hE oc8 hM (hT.2.1 0 (by decide)) rfl (by decide) rfl (hT.2.2 2 (by decide)) (by decide) tb_71 dX8_copyFrom_118 ?_
  refine lv_iconst (v := (0)) hx hb dX8_copyFrom_121 (by decide) ?_
  refine lv_sipush (v := (576)) hx hb dX8_copyFrom_122 (by decide) ?_
  refine m_copyi (103) (143) hx hb (hml.trans hl.1.symm) hown hE hM hS (hG.1 103 (by decide)) rfl (hT.2.1 3 (by decide)) rfl (hts _ tb_1151) (hts _ tb_568) (hts _ tb_567) (hts _ tb_13) ⟨⟨by decide, by decide, by decide⟩, by decide, by decide⟩ (Nat.le_of_ble_eq_true rfl) (Nat.le_of_ble_eq_true rfl) dX8_copyFrom_125 (fun H locs I29 eI29 hM hS => ?_)
  have hI : INV I29 := by rw [eI29]; exact hI.cpy (by intro i hi; left; rfl)
  have hK : Kp [(141, 149)] [(140, 0), (140, 1), (140, 2), (140, 3), (140, 4), (140, 5), (140, 6), (140, 7), (140, 8), (140, 9)] I I29 := by rw [eI29]; exact hK.cpy rfl
  have hkI29 : Kp [(143, 144)] [] I28 I29 := by rw [eI29]; exact Kp.rf.cpy rfl
  have hcpI29 : ∀ j, j < 576 → I29 143 j = I28 103 j := fun j hj => by rw [eI29]; exact cpy_at rfl hj
  refine lv_aload_n hx hb dX8_copyFrom_128 rfl (lv_at hl 1 rfl) ?_
  refine m_getr (100) 13 (104) hx hb hts hown hE oc8 hM (hG.1 100 (by decide)) rfl (by decide) rfl (hG.2 (100, 13, 104) (by decide)) (by decide) tb_75 dX8_copyFrom_129 ?_
  refine lv_iconst (v := (0)) hx hb dX8_copyFrom_132 (by decide) ?_
  refine lv_aload_n hx hb dX8_copyFrom_133 rfl (lv_at hl 0 rfl) ?_
  refine m_getr (140) 13 (144) hx hb hts hown hE oc8 hM (hT.2.1 0 (by decide)) rfl (by decide) rfl (hT.2.2 3 (by decide)) (by decide) tb_75 dX8_copyFrom_134 ?_
  refine lv_iconst (v := (0)) hx hb dX8_copyFrom_137 (by decide) ?_
  refine lv_sipush (v := (576)) hx hb dX8_copyFrom_138 (by decide) ?_
  refine m_copyi (104) (144) hx hb (hml.trans hl.1.symm) hown hE hM hS (hG.1 104 (by decide)) rfl (hT.2.1 4 (by decide)) rfl (hts _ tb_1151) (hts _ tb_568) (hts _ tb_567) (hts _ tb_13) ⟨⟨by decide, by decide, by decide⟩, by decide, by decide⟩ (Nat.le_of_ble_eq_true rfl) (Nat.le_of_ble_eq_true rfl) dX8_copyFrom_141 (fun H locs I30 eI30 hM hS => ?_)
  have hI : INV I30 := by rw [eI30]; exact hI.cpy (by intro i hi; left; rfl)
  have hK : Kp [(141, 149)] [(140, 0), (140, 1), (140, 2), (140, 3), (140, 4), (140, 5), (140, 6), (140, 7), (140, 8), (140, 9)] I I30 := by rw [eI30]; exact hK.cpy rfl
  have hkI30 : Kp [(144, 145)] [] I29 I30 := by rw [eI30]; exact Kp.rf.cpy rfl
  have hcpI30 : ∀ j, j < 576 → I30 144 j = I29 104 j := fun j hj => by rw [eI30]; exact cpy_at rfl hj
  refine lv_aload_n hx hb dX8_copyFrom_144 rfl (lv_at hl 1 rfl) ?_
  refine m_getr (100) 14 (105) hx hb hts hown hE oc8 hM (hG.1 100 (by decide)) rfl (by decide) rfl (hG.2 (100, 14, 105) (by decide)) (by decide) tb_78 dX8_copyFrom_145 ?_
  refine lv_iconst (v := (0)) hx hb dX8_copyFrom_148 (by decide) ?_
  refine lv_aload_n hx hb dX8_copyFrom_149 rfl (lv_at hl 0 rfl) ?_
  refine m_getr (140) 14 (145) hx hb hts hown hE oc8 hM (hT.2.1 0 (by decide)) rfl (by decide) rfl (hT.2.2 4 (by decide)) (by decide) tb_78 dX8_copyFrom_150 ?_
  refine lv_iconst (v := (0)) hx hb dX8_copyFrom_153 (by decide) ?_
  refine lv_sipush (v := (288)) hx hb dX8_copyFrom_154 (by decide) ?_
  refine m_copyi (105) (145) hx hb (hml.trans hl.1.symm) hown hE hM hS (hG.1 105 (by decide)) rfl (hT.2.1 5 (by decide)) rfl (hts _ tb_1151) (hts _ tb_568) (hts _ tb_567) (hts _ tb_13) ⟨⟨by decide, by decide, by decide⟩, by decide, by decide⟩ (Nat.le_of_ble_eq_true rfl) (Nat.le_of_ble_eq_true rfl) dX8_copyFrom_157 (fun H locs I31 eI31 hM hS => ?_)
  have hI : INV I31 := by rw [eI31]; exact hI.cpy (by intro i hi; left; rfl)
  have hK : Kp [(141, 149)] [(140, 0), (140, 1), (140, 2), (140, 3), (140, 4), (140, 5), (140, 6), (140, 7), (140, 8), (140, 9)] I I31 := by rw [eI31]; exact hK.cpy rfl
  have hkI31 : Kp [(145, 146)] [] I30 I31 := by rw [eI31]; exact Kp.rf.cpy rfl
  have hcpI31 : ∀ j, j < 288 → I31 145 j = I30 105 j := fun j hj => by rw [eI31]; exact cpy_at rfl hj
  refine lv_aload_n hx hb dX8_copyFrom_160 rfl (lv_at hl 1 rfl) ?_
  refine m_getr (100) 15 (106) hx hb hts hown hE oc8 hM (hG.1 100 (by decide)) rfl (by decide) rfl (hG.2 (100, 15, 106) (by decide)) (by decide) tb_80 dX8_copyFrom_161 ?_
  refine lv_iconst (v := (0)) hx hb dX8_copyFrom_164 (by decide) ?_
  refine lv_aload_n hx hb dX8_copyFrom_165 rfl (lv_at hl 0 rfl) ?_
  refine m_getr (140) 15 (146) hx hb hts hown hE oc8 hM (hT.2.1 0 (by decide)) rfl (by decide) rfl (hT.2.2 5 (by decide)) (by decide) tb_80 dX8_copyFrom_166 ?_
  refine lv_iconst (v := (0)) hx hb dX8_copyFrom_169 (by decide) ?_
  refine lv_sipush (v := (288)) hx hb dX8_copyFrom_170 (by decide) ?_
  refine m_copyi (106) (146) hx hb (hml.trans hl.1.symm) hown hE hM hS (hG.1 106 (by decide)) rfl (hT.2.1 6 (by decide)) rfl (hts _ tb_1151) (hts _ tb_568) (hts _ tb_567) (hts _ tb_13) ⟨⟨by decide, by decide, by decide⟩, by decide, by decide⟩ (Nat.le_of_ble_eq_true rfl) (Nat.le_of_ble_eq_true rfl) dX8_copyFrom_173 (fun H locs I32 eI32 hM hS => ?_)
  have hI : INV I32 := by rw [eI32]; exact hI.cpy (by intro i hi; left; rfl)
  have hK : Kp [(141, 149)] [(140, 0), (140, 1), (140, 2), (140, 3), (140, 4), (140, 5), (140, 6), (140, 7), (140, 8), (140, 9)] I I32 := by rw [eI32]; exact hK.cpy rfl
  have hkI32 : Kp [(146, 147)] [] I31 I32 := by rw [eI32]; exact Kp.rf.cpy rfl
  have hcpI32 : ∀ j, j < 288 → I32 146 j = I31 106 j := fun j hj => by rw [eI32]; exact cpy_at rfl hj
  refine lv_aload_n hx hb dX8_copyFrom_176 rfl (lv_at hl 1 rfl) ?_
  refine m_getr (100) 16 (107) hx hb hts hown hE oc8 hM (hG.1 100 (by decide)) rfl (by decide) rfl (hG.2 (100, 16, 107) (by decide)) (by decide) tb_82 dX8_copyFrom_177 ?_
  refine lv_iconst (v := (0)) hx hb dX8_copyFrom_180 (by decide) ?_
  refine lv_aload_n hx hb dX8_copyFrom_181 rfl (lv_at hl 0 rfl) ?_
  refine m_getr (140) 16 (147) hx hb hts hown hE oc8 hM (hT.2.1 0 (by decide)) rfl (by decide) rfl (hT.2.2 6 (by decide)) (by decide) tb_82 dX8_copyFrom_182 ?_
  refine lv_iconst (v := (0)) hx hb dX8_copyFrom_185 (by decide) ?_
  refine lv_sipush (v := (240)) hx hb dX8_copyFrom_186 (by decide) ?_
  refine m_copyi (107) (147) hx hb (hml.trans hl.1.symm) hown hE hM hS (hG.1 107 (by decide)) rfl (hT.2.1 7 (by decide)) rfl (hts _ tb_1151) (hts _ tb_568) (hts _ tb_567) (hts _ tb_13) ⟨⟨by decide, by decide, by decide⟩, by decide, by decide⟩ (Nat.le_of_ble_eq_true rfl) (Nat.le_of_ble_eq_true rfl) dX8_copyFrom_189 (fun H locs I33 eI33 hM hS => ?_)
  have hI : INV I33 := by rw [eI33]; exact hI.cpy (by intro i hi; left; rfl)
  have hK : Kp [(141, 149)] [(140, 0), (140, 1), (140, 2), (140, 3), (140, 4), (140, 5), (140, 6), (140, 7), (140, 8), (140, 9)] I I33 := by rw [eI33]; exact hK.cpy rfl
  have hkI33 : Kp [(147, 148)] [] I32 I33 := by rw [eI33]; exact Kp.rf.cpy rfl
  have hcpI33 : ∀ j, j < 240 → I33 147 j = I32 107 j := fun j hj => by rw [eI33]; exact cpy_at rfl hj
  refine lv_aload_n hx hb dX8_copyFrom_192 rfl (lv_at hl 1 rfl) ?_
  refine m_getr (100) 17 (108) hx hb hts hown hE oc8 hM (hG.1 100 (by decide)) rfl (by decide) rfl (hG.2 (100, 17, 108) (by decide)) (by decide) tb_83 dX8_copyFrom_193 ?_
  refine lv_iconst (v := (0)) hx hb dX8_copyFrom_196 (by decide) ?_
  refine lv_aload_n hx hb dX8_copyFrom_197 rfl (lv_at hl 0 rfl) ?_
  refine m_getr (140) 17 (148) hx hb hts hown hE oc8 hM (hT.2.1 0 (by decide)) rfl (by decide) rfl (hT.2.2 7 (by decide)) (by decide) tb_83 dX8_copyFrom_198 ?_
  refine lv_iconst (v := (0)) hx hb dX8_copyFrom_201 (by decide) ?_
  refine lv_bipush (v := (56)) hx hb dX8_copyFrom_202 (by decide) ?_
  refine m_copyi (108) (148) hx hb (hml.trans hl.1.symm) hown hE hM hS (hG.1 108 (by decide)) rfl (hT.2.1 8 (by decide)) rfl (hts _ tb_1151) (hts _ tb_568) (hts _ tb_567) (hts _ tb_13) ⟨⟨by decide, by decide, by decide⟩, by decide, by decide⟩ (Nat.le_of_ble_eq_true rfl) (Nat.le_of_ble_eq_true rfl) dX8_copyFrom_204 (fun H locs I34 eI34 hM hS => ?_)
  have hI : INV I34 := by rw [eI34]; exact hI.cpy (by intro i hi; left; rfl)
  have hK : Kp [(141, 149)] [(140, 0), (140, 1), (140, 2), (140, 3), (140, 4), (140, 5), (140, 6), (140, 7), (140, 8), (140, 9)] I I34 := by rw [eI34]; exact hK.cpy rfl
  have hkI34 : Kp [(148, 149)] [] I33 I34 := by rw [eI34]; exact Kp.rf.cpy rfl
  have hcpI34 : ∀ j, j < 56 → I34 148 j = I33 108 j := fun j hj => by rw [eI34]; exact cpy_at rfl hj
  have hsc : ∀ j, j < 10 → I34 140 j = I 100 j := by
    intro j hj
    rcases (show j = 0 ∨ j = 1 ∨ j = 2 ∨ j = 3 ∨ j = 4 ∨ j = 5 ∨ j = 6 ∨ j = 7 ∨ j = 8 ∨ j = 9 by omega) with rfl | rfl | rfl | rfl | rfl | rfl | rfl | rfl | rfl | rfl
    · exact (((((((((hkI34.get (140) 0 rfl)).trans (hkI33.get (140) 0 rfl)).trans (hkI32.get (140) 0 rfl)).trans (hkI31.get (140) 0 rfl)).trans (hkI30.get (140) 0 rfl)).trans (hkI29.get (140) 0 rfl)).trans (hkI28.get (140) 0 rfl)).trans (hkI27.get (140) 0 rfl)).trans (show (u2 (u2 (u2 (u2 (u2 (u2 (u2 (u2 (u2 (u2 I (140) 0 (I (100) 0)) (140) 1 (I (100) 1)) (140) 2 (I (100) 2)) (140) 3 (I (100) 3)) (140) 4 (I (100) 4)) (140) 5 (I (100) 5)) (140) 6 (I (100) 6)) (140) 7 (I (100) 7)) (140) 8 (I (100) 8)) (140) 9 (I (100) 9)) (140) 0 = I (100) 0 from by simp [u2_v])
    · exact (((((((((hkI34.get (140) 1 rfl)).trans (hkI33.get (140) 1 rfl)).trans (hkI32.get (140) 1 rfl)).trans (hkI31.get (140) 1 rfl)).trans (hkI30.get (140) 1 rfl)).trans (hkI29.get (140) 1 rfl)).trans (hkI28.get (140) 1 rfl)).trans (hkI27.get (140) 1 rfl)).trans (show (u2 (u2 (u2 (u2 (u2 (u2 (u2 (u2 (u2 (u2 I (140) 0 (I (100) 0)) (140) 1 (I (100) 1)) (140) 2 (I (100) 2)) (140) 3 (I (100) 3)) (140) 4 (I (100) 4)) (140) 5 (I (100) 5)) (140) 6 (I (100) 6)) (140) 7 (I (100) 7)) (140) 8 (I (100) 8)) (140) 9 (I (100) 9)) (140) 1 = I (100) 1 from by simp [u2_v])
    · exact (((((((((hkI34.get (140) 2 rfl)).trans (hkI33.get (140) 2 rfl)).trans (hkI32.get (140) 2 rfl)).trans (hkI31.get (140) 2 rfl)).trans (hkI30.get (140) 2 rfl)).trans (hkI29.get (140) 2 rfl)).trans (hkI28.get (140) 2 rfl)).trans (hkI27.get (140) 2 rfl)).trans (show (u2 (u2 (u2 (u2 (u2 (u2 (u2 (u2 (u2 (u2 I (140) 0 (I (100) 0)) (140) 1 (I (100) 1)) (140) 2 (I (100) 2)) (140) 3 (I (100) 3)) (140) 4 (I (100) 4)) (140) 5 (I (100) 5)) (140) 6 (I (100) 6)) (140) 7 (I (100) 7)) (140) 8 (I (100) 8)) (140) 9 (I (100) 9)) (140) 2 = I (100) 2 from by simp [u2_v])
    · exact (((((((((hkI34.get (140) 3 rfl)).trans (hkI33.get (140) 3 rfl)).trans (hkI32.get (140) 3 rfl)).trans (hkI31.get (140) 3 rfl)).trans (hkI30.get (140) 3 rfl)).trans (hkI29.get (140) 3 rfl)).trans (hkI28.get (140) 3 rfl)).trans (hkI27.get (140) 3 rfl)).trans (show (u2 (u2 (u2 (u2 (u2 (u2 (u2 (u2 (u2 (u2 I (140) 0 (I (100) 0)) (140) 1 (I (100) 1)) (140) 2 (I (100) 2)) (140) 3 (I (100) 3)) (140) 4 (I (100) 4)) (140) 5 (I (100) 5)) (140) 6 (I (100) 6)) (140) 7 (I (100) 7)) (140) 8 (I (100) 8)) (140) 9 (I (100) 9)) (140) 3 = I (100) 3 from by simp [u2_v])
    · exact (((((((((hkI34.get (140) 4 rfl)).trans (hkI33.get (140) 4 rfl)).trans (hkI32.get (140) 4 rfl)).trans (hkI31.get (140) 4 rfl)).trans (hkI30.get (140) 4 rfl)).trans (hkI29.get (140) 4 rfl)).trans (hkI28.get (140) 4 rfl)).trans (hkI27.get (140) 4 rfl)).trans (show (u2 (u2 (u2 (u2 (u2 (u2 (u2 (u2 (u2 (u2 I (140) 0 (I (100) 0)) (140) 1 (I (100) 1)) (140) 2 (I (100) 2)) (140) 3 (I (100) 3)) (140) 4 (I (100) 4)) (140) 5 (I (100) 5)) (140) 6 (I (100) 6)) (140) 7 (I (100) 7)) (140) 8 (I (100) 8)) (140) 9 (I (100) 9)) (140) 4 = I (100) 4 from by simp [u2_v])
    · exact (((((((((hkI34.get (140) 5 rfl)).trans (hkI33.get (140) 5 rfl)).trans (hkI32.get (140) 5 rfl)).trans (hkI31.get (140) 5 rfl)).trans (hkI30.get (140) 5 rfl)).trans (hkI29.get (140) 5 rfl)).trans (hkI28.get (140) 5 rfl)).trans (hkI27.get (140) 5 rfl)).trans (show (u2 (u2 (u2 (u2 (u2 (u2 (u2 (u2 (u2 (u2 I (140) 0 (I (100) 0)) (140) 1 (I (100) 1)) (140) 2 (I (100) 2)) (140) 3 (I (100) 3)) (140) 4 (I (100) 4)) (140) 5 (I (100) 5)) (140) 6 (I (100) 6)) (140) 7 (I (100) 7)) (140) 8 (I (100) 8)) (140) 9 (I (100) 9)) (140) 5 = I (100) 5 from by simp [u2_v])
    · exact (((((((((hkI34.get (140) 6 rfl)).trans (hkI33.get (140) 6 rfl)).trans (hkI32.get (140) 6 rfl)).trans (hkI31.get (140) 6 rfl)).trans (hkI30.get (140) 6 rfl)).trans (hkI29.get (140) 6 rfl)).trans (hkI28.get (140) 6 rfl)).trans (hkI27.get (140) 6 rfl)).trans (show (u2 (u2 (u2 (u2 (u2 (u2 (u2 (u2 (u2 (u2 I (140) 0 (I (100) 0)) (140) 1 (I (100) 1)) (140) 2 (I (100) 2)) (140) 3 (I (100) 3)) (140) 4 (I (100) 4)) (140) 5 (I (100) 5)) (140) 6 (I (100) 6)) (140) 7 (I (100) 7)) (140) 8 (I (100) 8)) (140) 9 (I (100) 9)) (140) 6 = I (100) 6 from by simp [u2_v])
    · exact (((((((((hkI34.get (140) 7 rfl)).trans (hkI33.get (140) 7 rfl)).trans (hkI32.get (140) 7 rfl)).trans (hkI31.get (140) 7 rfl)).trans (hkI30.get (140) 7 rfl)).trans (hkI29.get (140) 7 rfl)).trans (hkI28.get (140) 7 rfl)).trans (hkI27.get (140) 7 rfl)).trans (show (u2 (u2 (u2 (u2 (u2 (u2 (u2 (u2 (u2 (u2 I (140) 0 (I (100) 0)) (140) 1 (I (100) 1)) (140) 2 (I (100) 2)) (140) 3 (I (100) 3)) (140) 4 (I (100) 4)) (140) 5 (I (100) 5)) (140) 6 (I (100) 6)) (140) 7 (I (100) 7)) (140) 8 (I (100) 8)) (140) 9 (I (100) 9)) (140) 7 = I (100) 7 from by simp [u2_v])
    · exact (((((((((hkI34.get (140) 8 rfl)).trans (hkI33.get (140) 8 rfl)).trans (hkI32.get (140) 8 rfl)).trans (hkI31.get (140) 8 rfl)).trans (hkI30.get (140) 8 rfl)).trans (hkI29.get (140) 8 rfl)).trans (hkI28.get (140) 8 rfl)).trans (hkI27.get (140) 8 rfl)).trans (show (u2 (u2 (u2 (u2 (u2 (u2 (u2 (u2 (u2 (u2 I (140) 0 (I (100) 0)) (140) 1 (I (100) 1)) (140) 2 (I (100) 2)) (140) 3 (I (100) 3)) (140) 4 (I (100) 4)) (140) 5 (I (100) 5)) (140) 6 (I (100) 6)) (140) 7 (I (100) 7)) (140) 8 (I (100) 8)) (140) 9 (I (100) 9)) (140) 8 = I (100) 8 from by simp [u2_v])
    · exact (((((((((hkI34.get (140) 9 rfl)).trans (hkI33.get (140) 9 rfl)).trans (hkI32.get (140) 9 rfl)).trans (hkI31.get (140) 9 rfl)).trans (hkI30.get (140) 9 rfl)).trans (hkI29.get (140) 9 rfl)).trans (hkI28.get (140) 9 rfl)).trans (hkI27.get (140) 9 rfl)).trans (show (u2 (u2 (u2 (u2 (u2 (u2 (u2 (u2 (u2 (u2 I (140) 0 (I (100) 0)) (140) 1 (I (100) 1)) (140) 2 (I (100) 2)) (140) 3 (I (100) 3)) (140) 4 (I (100) 4)) (140) 5 (I (100) 5)) (140) 6 (I (100) 6)) (140) 7 (I (100) 7)) (140) 8 (I (100) 8)) (140) 9 (I (100) 9)) (140) 9 = I (100) 9 from by simp [u2_v])
  exact m_vret hx hb hr hlocks hM hS (Nat.le_of_ble_eq_true rfl) (Nat.le_of_ble_eq_true rfl) ⟨_, _, rfl, hI, hK, ⟨hsc, (fun j hj => (congrFun ((((((((hkI34.getA 141 rfl)).trans (hkI33.getA 141 rfl)).trans (hkI32.getA 141 rfl)).trans (hkI31.getA 141 rfl)).trans (hkI30.getA 141 rfl)).trans (hkI29.getA 141 rfl)).trans (hkI28.getA 141 rfl)) j).trans ((hcpI27 j hj).trans (congrFun ((show (u2 (u2 (u2 (u2 (u2 (u2 (u2 (u2 (u2 (u2 I (140) 0 (I (100) 0)) (140) 1 (I (100) 1)) (140) 2 (I (100) 2)) (140) 3 (I (100) 3)) (140) 4 (I (100) 4)) (140) 5 (I (100) 5)) (140) 6 (I (100) 6)) (140) 7 (I (100) 7)) (140) 8 (I (100) 8)) (140) 9 (I (100) 9)) 101 = I 101 from by funext zz; simp [u2_v])) j))), (fun j hj => (congrFun (((((((hkI34.getA 142 rfl)).trans (hkI33.getA 142 rfl)).trans (hkI32.getA 142 rfl)).trans (hkI31.getA 142 rfl)).trans (hkI30.getA 142 rfl)).trans (hkI29.getA 142 rfl)) j).trans ((hcpI28 j hj).trans (congrFun (((hkI27.getA 102 rfl)).trans (show (u2 (u2 (u2 (u2 (u2 (u2 (u2 (u2 (u2 (u2 I (140) 0 (I (100) 0)) (140) 1 (I (100) 1)) (140) 2 (I (100) 2)) (140) 3 (I (100) 3)) (140) 4 (I (100) 4)) (140) 5 (I (100) 5)) (140) 6 (I (100) 6)) (140) 7 (I (100) 7)) (140) 8 (I (100) 8)) (140) 9 (I (100) 9)) 102 = I 102 from by funext zz; simp [u2_v])) j))), (fun j hj => (congrFun ((((((hkI34.getA 143 rfl)).trans (hkI33.getA 143 rfl)).trans (hkI32.getA 143 rfl)).trans (hkI31.getA 143 rfl)).trans (hkI30.getA 143 rfl)) j).trans ((hcpI29 j hj).trans (congrFun ((((hkI28.getA 103 rfl)).trans (hkI27.getA 103 rfl)).trans (show (u2 (u2 (u2 (u2 (u2 (u2 (u2 (u2 (u2 (u2 I (140) 0 (I (100) 0)) (140) 1 (I (100) 1)) (140) 2 (I (100) 2)) (140) 3 (I (100) 3)) (140) 4 (I (100) 4)) (140) 5 (I (100) 5)) (140) 6 (I (100) 6)) (140) 7 (I (100) 7)) (140) 8 (I (100) 8)) (140) 9 (I (100) 9)) 103 = I 103 from by funext zz; simp [u2_v])) j))), (fun j hj => (congrFun (((((hkI34.getA 144 rfl)).trans (hkI33.getA 144 rfl)).trans (hkI32.getA 144 rfl)).trans (hkI31.getA 144 rfl)) j).trans ((hcpI30 j hj).trans (congrFun (((((hkI29.getA 104 rfl)).trans (hkI28.getA 104 rfl)).trans (hkI27.getA 104 rfl)).trans (show (u2 (u2 (u2 (u2 (u2 (u2 (u2 (u2 (u2 (u2 I (140) 0 (I (100) 0)) (140) 1 (I (100) 1)) (140) 2 (I (100) 2)) (140) 3 (I (100) 3)) (140) 4 (I (100) 4)) (140) 5 (I (100) 5)) (140) 6 (I (100) 6)) (140) 7 (I (100) 7)) (140) 8 (I (100) 8)) (140) 9 (I (100) 9)) 104 = I 104 from by funext zz; simp [u2_v])) j))), (fun j hj => (congrFun ((((hkI34.getA 145 rfl)).trans (hkI33.getA 145 rfl)).trans (hkI32.getA 145 rfl)) j).trans ((hcpI31 j hj).trans (congrFun ((((((hkI30.getA 105 rfl)).trans (hkI29.getA 105 rfl)).trans (hkI28.getA 105 rfl)).trans (hkI27.getA 105 rfl)).trans (show (u2 (u2 (u2 (u2 (u2 (u2 (u2 (u2 (u2 (u2 I (140) 0 (I (100) 0)) (140) 1 (I (100) 1)) (140) 2 (I (100) 2)) (140) 3 (I (100) 3)) (140) 4 (I (100) 4)) (140) 5 (I (100) 5)) (140) 6 (I (100) 6)) (140) 7 (I (100) 7)) (140) 8 (I (100) 8)) (140) 9 (I (100) 9)) 105 = I 105 from by funext zz; simp [u2_v])) j))), (fun j hj => (congrFun (((hkI34.getA 146 rfl)).trans (hkI33.getA 146 rfl)) j).trans ((hcpI32 j hj).trans (congrFun (((((((hkI31.getA 106 rfl)).trans (hkI30.getA 106 rfl)).trans (hkI29.getA 106 rfl)).trans (hkI28.getA 106 rfl)).trans (hkI27.getA 106 rfl)).trans (show (u2 (u2 (u2 (u2 (u2 (u2 (u2 (u2 (u2 (u2 I (140) 0 (I (100) 0)) (140) 1 (I (100) 1)) (140) 2 (I (100) 2)) (140) 3 (I (100) 3)) (140) 4 (I (100) 4)) (140) 5 (I (100) 5)) (140) 6 (I (100) 6)) (140) 7 (I (100) 7)) (140) 8 (I (100) 8)) (140) 9 (I (100) 9)) 106 = I 106 from by funext zz; simp [u2_v])) j))), (fun j hj => (congrFun ((hkI34.getA 147 rfl)) j).trans ((hcpI33 j hj).trans (congrFun ((((((((hkI32.getA 107 rfl)).trans (hkI31.getA 107 rfl)).trans (hkI30.getA 107 rfl)).trans (hkI29.getA 107 rfl)).trans (hkI28.getA 107 rfl)).trans (hkI27.getA 107 rfl)).trans (show (u2 (u2 (u2 (u2 (u2 (u2 (u2 (u2 (u2 (u2 I (140) 0 (I (100) 0)) (140) 1 (I (100) 1)) (140) 2 (I (100) 2)) (140) 3 (I (100) 3)) (140) 4 (I (100) 4)) (140) 5 (I (100) 5)) (140) 6 (I (100) 6)) (140) 7 (I (100) 7)) (140) 8 (I (100) 8)) (140) 9 (I (100) 9)) 107 = I 107 from by funext zz; simp [u2_v])) j))), (fun j hj => (congrFun (rfl) j).trans ((hcpI34 j hj).trans (congrFun (((((((((hkI33.getA 108 rfl)).trans (hkI32.getA 108 rfl)).trans (hkI31.getA 108 rfl)).trans (hkI30.getA 108 rfl)).trans (hkI29.getA 108 rfl)).trans (hkI28.getA 108 rfl)).trans (hkI27.getA 108 rfl)).trans (show (u2 (u2 (u2 (u2 (u2 (u2 (u2 (u2 (u2 (u2 I (140) 0 (I (100) 0)) (140) 1 (I (100) 1)) (140) 2 (I (100) 2)) (140) 3 (I (100) 3)) (140) 4 (I (100) 4)) (140) 5 (I (100) 5)) (140) 6 (I (100) 6)) (140) 7 (I (100) 7)) (140) 8 (I (100) 8)) (140) 9 (I (100) 9)) 108 = I 108 from by funext zz; simp [u2_v])) j)))⟩⟩ dX8_copyFrom_207
set_option maxHeartbeats 4000000 in
set_option maxRecDepth 20000 in
theorem V_X8_copyFrom_100_140_f (l : Launch) (D : va_G) (A : Nat → Prop) (ad : Nat → Nat) (ns : List Nat) (I : MI) (L : ML) (G : MG) (hG : SGC ns G) (hI : INV I) (hT : TOK ns G 140) : Met l yX8_copyFrom (wd yX8_copyFrom cX8_copyFrom 2 none) ({ frames := 1, cells := 0, slots := 0, locals := 40 }) (va_Pc [.ref (ad (100)), .ref (ad (140))] (PM D A ad ns I L G)) (va_Qv (fun u => ∃ I2 L2, u = (ad, ns, I2, L2, G) ∧ INV I2 ∧ Kp [(101, 109)] [(100, 0), (100, 1), (100, 2), (100, 3), (100, 4), (100, 5), (100, 6), (100, 7), (100, 8), (100, 9)] I I2 ∧ (CPF 100 140 I I2)) (BM D A) A) 0 0 A := by
  refine m_ofW (by decide) (Nat.le_of_ble_eq_true rfl) ?_
  intro p e s m below meth c ls args hC hE hM hA hS hl
  obtain ⟨hx, hb, hml, hown, hts, hr, hlocks, hin⟩ := hC
  have k0 : (0 : Int32).toInt = 0 := by decide
  have k56 : (56 : Int32).toInt = 56 := by decide
  have k240 : (240 : Int32).toInt = 240 := by decide
  have k288 : (288 : Int32).toInt = 288 := by decide
  have k576 : (576 : Int32).toInt = 576 := by decide
  have hK : Kp [(101, 109)] [(100, 0), (100, 1), (100, 2), (100, 3), (100, 4), (100, 5), (100, 6), (100, 7), (100, 8), (100, 9)] I I := Kp.rf
  have hl : lv_has ls 2 [(0, .ref (ad (100))), (1, .ref (ad (140)))] := hl
  refine lv_aload_n hx hb dX8_copyFrom_0 rfl (lv_at hl 0 rfl) ?_
  refine lv_aload_n hx hb dX8_copyFrom_1 rfl (lv_at hl 1 rfl) ?_
  refine m_geti (140) 0 hx hb hts hown hE oc8 hM (hT.2.1 0 (by decide)) rfl (by decide) rfl tb_34 dX8_copyFrom_2 ?_
  have g1 := hI.get (140) 0 (lo := 0) (hi := 24) rfl
  refine m_puti (100) 0 hx hb hts hown hE oc8 hM hS (hG.1 100 (by decide)) rfl (by decide) rfl rfl rfl rfl tb_34 dX8_copyFrom_5 (fun H locs I2 eI2 hM hS => ?_)
  subst eI2
  have hI := hI.put (n := 100) (k := 0) (v := I (140) 0) (lo := 0) (hi := 24) rfl (by first | omega | decide)
  have hK := hK.put (n := 100) (k := 0) (v := I (140) 0) (by first | rfl | simp [inR])
  refine lv_aload_n hx hb dX8_copyFrom_8 rfl (lv_at hl 0 rfl) ?_
  refine lv_aload_n hx hb dX8_copyFrom_9 rfl (lv_at hl 1 rfl) ?_
  refine m_geti (140) 1 hx hb hts hown hE oc8 hM (hT.2.1 0 (by decide)) rfl (by decide) rfl tb_37 dX8_copyFrom_10 ?_
  have g3 := hI.get (140) 1 (lo := 0) (hi := 24) rfl
  have z4 : (u2 I (100) 0 (I (140) 0)) (140) 1 = I (140) 1 := (show (u2 I (100) 0 (I (140) 0)) (140) 1 = I (140) 1 from by simp [u2_v])
  rw [z4] at g3 ⊢
  refine m_puti (100) 1 hx hb hts hown hE oc8 hM hS (hG.1 100 (by decide)) rfl (by decide) rfl rfl rfl rfl tb_37 dX8_copyFrom_13 (fun H locs I5 eI5 hM hS => ?_)
  subst eI5
  have hI := hI.put (n := 100) (k := 1) (v := I (140) 1) (lo := 0) (hi := 24) rfl (by first | omega | decide)
  have hK := hK.put (n := 100) (k := 1) (v := I (140) 1) (by first | rfl | simp [inR])
  refine lv_aload_n hx hb dX8_copyFrom_16 rfl (lv_at hl 0 rfl) ?_
  refine lv_aload_n hx hb dX8_copyFrom_17 rfl (lv_at hl 1 rfl) ?_
  refine m_geti (140) 2 hx hb hts hown hE oc8 hM (hT.2.1 0 (by decide)) rfl (by decide) rfl tb_41 dX8_copyFrom_18 ?_
  have g6 := hI.get (140) 2 (lo := 0) (hi := 23) rfl
  have z7 : (u2 (u2 I (100) 0 (I (140) 0)) (100) 1 (I (140) 1)) (140) 2 = I (140) 2 := (show (u2 (u2 I (100) 0 (I (140) 0)) (100) 1 (I (140) 1)) (140) 2 = I (140) 2 from by simp [u2_v])
  rw [z7] at g6 ⊢
  refine m_puti (100) 2 hx hb hts hown hE oc8 hM hS (hG.1 100 (by decide)) rfl (by decide) rfl rfl rfl rfl tb_41 dX8_copyFrom_21 (fun H locs I8 eI8 hM hS => ?_)
  subst eI8
  have hI := hI.put (n := 100) (k := 2) (v := I (140) 2) (lo := 0) (hi := 23) rfl (by first | omega | decide)
  have hK := hK.put (n := 100) (k := 2) (v := I (140) 2) (by first | rfl | simp [inR])
  refine lv_aload_n hx hb dX8_copyFrom_24 rfl (lv_at hl 0 rfl) ?_
  refine lv_aload_n hx hb dX8_copyFrom_25 rfl (lv_at hl 1 rfl) ?_
  refine m_geti (140) 3 hx hb hts hown hE oc8 hM (hT.2.1 0 (by decide)) rfl (by decide) rfl tb_45 dX8_copyFrom_26 ?_
  have g9 := hI.get (140) 3 (lo := 0) (hi := 23) rfl
  have z10 : (u2 (u2 (u2 I (100) 0 (I (140) 0)) (100) 1 (I (140) 1)) (100) 2 (I (140) 2)) (140) 3 = I (140) 3 := (show (u2 (u2 (u2 I (100) 0 (I (140) 0)) (100) 1 (I (140) 1)) (100) 2 (I (140) 2)) (140) 3 = I (140) 3 from by simp [u2_v])
  rw [z10] at g9 ⊢
  refine m_puti (100) 3 hx hb hts hown hE oc8 hM hS (hG.1 100 (by decide)) rfl (by decide) rfl rfl rfl rfl tb_45 dX8_copyFrom_29 (fun H locs I11 eI11 hM hS => ?_)
  subst eI11
  have hI := hI.put (n := 100) (k := 3) (v := I (140) 3) (lo := 0) (hi := 23) rfl (by first | omega | decide)
  have hK := hK.put (n := 100) (k := 3) (v := I (140) 3) (by first | rfl | simp [inR])
  refine lv_aload_n hx hb dX8_copyFrom_32 rfl (lv_at hl 0 rfl) ?_
  refine lv_aload_n hx hb dX8_copyFrom_33 rfl (lv_at hl 1 rfl) ?_
  refine m_geti (140) 4 hx hb hts hown hE oc8 hM (hT.2.1 0 (by decide)) rfl (by decide) rfl tb_48 dX8_copyFrom_34 ?_
  have z12 : (u2 (u2 (u2 (u2 I (100) 0 (I (140) 0)) (100) 1 (I (140) 1)) (100) 2 (I (140) 2)) (100) 3 (I (140) 3)) (140) 4 = I (140) 4 := (show (u2 (u2 (u2 (u2 I (100) 0 (I (140) 0)) (100) 1 (I (140) 1)) (100) 2 (I (140) 2)) (100) 3 (I (140) 3)) (140) 4 = I (140) 4 from by simp [u2_v])
  rw [z12]
  refine m_puti (100) 4 hx hb hts hown hE oc8 hM hS (hG.1 100 (by decide)) rfl (by decide) rfl rfl rfl rfl tb_48 dX8_copyFrom_37 (fun H locs I13 eI13 hM hS => ?_)
  subst eI13
  have hI := hI.putF (n := 100) (k := 4) (v := I (140) 4) rfl
  have hK := hK.put (n := 100) (k := 4) (v := I (140) 4) (by first | rfl | simp [inR])
  refine lv_aload_n hx hb dX8_copyFrom_40 rfl (lv_at hl 0 rfl) ?_
  refine lv_aload_n hx hb dX8_copyFrom_41 rfl (lv_at hl 1 rfl) ?_
  refine m_geti (140) 5 hx hb hts hown hE oc8 hM (hT.2.1 0 (by decide)) rfl (by decide) rfl tb_51 dX8_copyFrom_42 ?_
  have g14 := hI.get (140) 5 (lo := 0) (hi := 11) rfl
  have z15 : (u2 (u2 (u2 (u2 (u2 I (100) 0 (I (140) 0)) (100) 1 (I (140) 1)) (100) 2 (I (140) 2)) (100) 3 (I (140) 3)) (100) 4 (I (140) 4)) (140) 5 = I (140) 5 := (show (u2 (u2 (u2 (u2 (u2 I (100) 0 (I (140) 0)) (100) 1 (I (140) 1)) (100) 2 (I (140) 2)) (100) 3 (I (140) 3)) (100) 4 (I (140) 4)) (140) 5 = I (140) 5 from by simp [u2_v])
  rw [z15] at g14 ⊢
  refine m_puti (100) 5 hx hb hts hown hE oc8 hM hS (hG.1 100 (by decide)) rfl (by decide) rfl rfl rfl rfl tb_51 dX8_copyFrom_45 (fun H locs I16 eI16 hM hS => ?_)
  subst eI16
  have hI := hI.put (n := 100) (k := 5) (v := I (140) 5) (lo := 0) (hi := 11) rfl (by first | omega | decide)
  have hK := hK.put (n := 100) (k := 5) (v := I (140) 5) (by first | rfl | simp [inR])
  refine lv_aload_n hx hb dX8_copyFrom_48 rfl (lv_at hl 0 rfl) ?_
  refine lv_aload_n hx hb dX8_copyFrom_49 rfl (lv_at hl 1 rfl) ?_
  refine m_geti (140) 6 hx hb hts hown hE oc8 hM (hT.2.1 0 (by decide)) rfl (by decide) rfl tb_54 dX8_copyFrom_50 ?_
  have z17 : (u2 (u2 (u2 (u2 (u2 (u2 I (100) 0 (I (140) 0)) (100) 1 (I (140) 1)) (100) 2 (I (140) 2)) (100) 3 (I (140) 3)) (100) 4 (I (140) 4)) (100) 5 (I (140) 5)) (140) 6 = I (140) 6 := (show (u2 (u2 (u2 (u2 (u2 (u2 I (100) 0 (I (140) 0)) (100) 1 (I (140) 1)) (100) 2 (I (140) 2)) (100) 3 (I (140) 3)) (100) 4 (I (140) 4)) (100) 5 (I (140) 5)) (140) 6 = I (140) 6 from by simp [u2_v])
  rw [z17]
  refine m_puti (100) 6 hx hb hts hown hE oc8 hM hS (hG.1 100 (by decide)) rfl (by decide) rfl rfl rfl rfl tb_54 dX8_copyFrom_53 (fun H locs I18 eI18 hM hS => ?_)
  subst eI18
  have hI := hI.putF (n := 100) (k := 6) (v := I (140) 6) rfl
  have hK := hK.put (n := 100) (k := 6) (v := I (140) 6) (by first | rfl | simp [inR])
  refine lv_aload_n hx hb dX8_copyFrom_56 rfl (lv_at hl 0 rfl) ?_
  refine lv_aload_n hx hb dX8_copyFrom_57 rfl (lv_at hl 1 rfl) ?_
  refine m_geti (140) 7 hx hb hts hown hE oc8 hM (hT.2.1 0 (by decide)) rfl (by decide) rfl tb_57 dX8_copyFrom_58 ?_
  have z19 : (u2 (u2 (u2 (u2 (u2 (u2 (u2 I (100) 0 (I (140) 0)) (100) 1 (I (140) 1)) (100) 2 (I (140) 2)) (100) 3 (I (140) 3)) (100) 4 (I (140) 4)) (100) 5 (I (140) 5)) (100) 6 (I (140) 6)) (140) 7 = I (140) 7 := (show (u2 (u2 (u2 (u2 (u2 (u2 (u2 I (100) 0 (I (140) 0)) (100) 1 (I (140) 1)) (100) 2 (I (140) 2)) (100) 3 (I (140) 3)) (100) 4 (I (140) 4)) (100) 5 (I (140) 5)) (100) 6 (I (140) 6)) (140) 7 = I (140) 7 from by simp [u2_v])
  rw [z19]
  refine m_puti (100) 7 hx hb hts hown hE oc8 hM hS (hG.1 100 (by decide)) rfl (by decide) rfl rfl rfl rfl tb_57 dX8_copyFrom_61 (fun H locs I20 eI20 hM hS => ?_)
  subst eI20
  have hI := hI.putF (n := 100) (k := 7) (v := I (140) 7) rfl
  have hK := hK.put (n := 100) (k := 7) (v := I (140) 7) (by first | rfl | simp [inR])
  refine lv_aload_n hx hb dX8_copyFrom_64 rfl (lv_at hl 0 rfl) ?_
  refine lv_aload_n hx hb dX8_copyFrom_65 rfl (lv_at hl 1 rfl) ?_
  refine m_geti (140) 8 hx hb hts hown hE oc8 hM (hT.2.1 0 (by decide)) rfl (by decide) rfl tb_59 dX8_copyFrom_66 ?_
  have g21 := hI.get (140) 8 (lo := 0) (hi := 24) rfl
  have z22 : (u2 (u2 (u2 (u2 (u2 (u2 (u2 (u2 I (100) 0 (I (140) 0)) (100) 1 (I (140) 1)) (100) 2 (I (140) 2)) (100) 3 (I (140) 3)) (100) 4 (I (140) 4)) (100) 5 (I (140) 5)) (100) 6 (I (140) 6)) (100) 7 (I (140) 7)) (140) 8 = I (140) 8 := (show (u2 (u2 (u2 (u2 (u2 (u2 (u2 (u2 I (100) 0 (I (140) 0)) (100) 1 (I (140) 1)) (100) 2 (I (140) 2)) (100) 3 (I (140) 3)) (100) 4 (I (140) 4)) (100) 5 (I (140) 5)) (100) 6 (I (140) 6)) (100) 7 (I (140) 7)) (140) 8 = I (140) 8 from by simp [u2_v])
  rw [z22] at g21 ⊢
  refine m_puti (100) 8 hx hb hts hown hE oc8 hM hS (hG.1 100 (by decide)) rfl (by decide) rfl rfl rfl rfl tb_59 dX8_copyFrom_69 (fun H locs I23 eI23 hM hS => ?_)
  subst eI23
  have hI := hI.put (n := 100) (k := 8) (v := I (140) 8) (lo := 0) (hi := 24) rfl (by first | omega | decide)
  have hK := hK.put (n := 100) (k := 8) (v := I (140) 8) (by first | rfl | simp [inR])
  refine lv_aload_n hx hb dX8_copyFrom_72 rfl (lv_at hl 0 rfl) ?_
  refine lv_aload_n hx hb dX8_copyFrom_73 rfl (lv_at hl 1 rfl) ?_
  refine m_geti (140) 9 hx hb hts hown hE oc8 hM (hT.2.1 0 (by decide)) rfl (by decide) rfl tb_63 dX8_copyFrom_74 ?_
  have g24 := hI.get (140) 9 (lo := 0) (hi := 8) rfl
  have z25 : (u2 (u2 (u2 (u2 (u2 (u2 (u2 (u2 (u2 I (100) 0 (I (140) 0)) (100) 1 (I (140) 1)) (100) 2 (I (140) 2)) (100) 3 (I (140) 3)) (100) 4 (I (140) 4)) (100) 5 (I (140) 5)) (100) 6 (I (140) 6)) (100) 7 (I (140) 7)) (100) 8 (I (140) 8)) (140) 9 = I (140) 9 := (show (u2 (u2 (u2 (u2 (u2 (u2 (u2 (u2 (u2 I (100) 0 (I (140) 0)) (100) 1 (I (140) 1)) (100) 2 (I (140) 2)) (100) 3 (I (140) 3)) (100) 4 (I (140) 4)) (100) 5 (I (140) 5)) (100) 6 (I (140) 6)) (100) 7 (I (140) 7)) (100) 8 (I (140) 8)) (140) 9 = I (140) 9 from by simp [u2_v])
  rw [z25] at g24 ⊢
  refine m_puti (100) 9 hx hb hts hown hE oc8 hM hS (hG.1 100 (by decide)) rfl (by decide) rfl rfl rfl rfl tb_63 dX8_copyFrom_77 (fun H locs I26 eI26 hM hS => ?_)
  subst eI26
  have hI := hI.put (n := 100) (k := 9) (v := I (140) 9) (lo := 0) (hi := 8) rfl (by first | omega | decide)
  have hK := hK.put (n := 100) (k := 9) (v := I (140) 9) (by first | rfl | simp [inR])
  refine lv_aload_n hx hb dX8_copyFrom_80 rfl (lv_at hl 1 rfl) ?_
  refine m_getr (140) 10 (141) hx hb hts hown hE oc8 hM (hT.2.1 0 (by decide)) rfl (by decide) rfl (hT.2.2 0 (by decide)) (by decide) tb_66 dX8_copyFrom_81 ?_
  refine lv_iconst (v := (0)) hx hb dX8_copyFrom_84 (by decide) ?_
  refine lv_aload_n hx hb dX8_copyFrom_85 rfl (lv_at hl 0 rfl) ?_
  refine m_getr (100) 10 (101) hx hb hts hown hE oc8 hM (hG.1 100 (by decide)) rfl (by decide) rfl (hG.2 (100, 10, 101) (by decide)) (by decide) tb_66 dX8_copyFrom_86 ?_
  refine lv_iconst (v := (0)) hx hb dX8_copyFrom_89 (by decide) ?_
  refine lv_sipush (v := (576)) hx hb dX8_copyFrom_90 (by decide) ?_
  refine m_copyi (141) (101) hx hb (hml.trans hl.1.symm) hown hE hM hS (hT.2.1 1 (by decide)) rfl (hG.1 101 (by decide)) rfl (hts _ tb_1151) (hts _ tb_568) (hts _ tb_567) (hts _ tb_13) ⟨⟨by decide, by decide, by decide⟩, by decide, by decide⟩ (Nat.le_of_ble_eq_true rfl) (Nat.le_of_ble_eq_true rfl) dX8_copyFrom_93 (fun H locs I27 eI27 hM hS => ?_)
  have hI : INV I27 := by rw [eI27]; exact hI.cpy (by intro i hi; left; rfl)
  have hK : Kp [(101, 109)] [(100, 0), (100, 1), (100, 2), (100, 3), (100, 4), (100, 5), (100, 6), (100, 7), (100, 8), (100, 9)] I I27 := by rw [eI27]; exact hK.cpy rfl
  have hkI27 : Kp [(101, 102)] [] (u2 (u2 (u2 (u2 (u2 (u2 (u2 (u2 (u2 (u2 I (100) 0 (I (140) 0)) (100) 1 (I (140) 1)) (100) 2 (I (140) 2)) (100) 3 (I (140) 3)) (100) 4 (I (140) 4)) (100) 5 (I (140) 5)) (100) 6 (I (140) 6)) (100) 7 (I (140) 7)) (100) 8 (I (140) 8)) (100) 9 (I (140) 9)) I27 := by rw [eI27]; exact Kp.rf.cpy rfl
  have hcpI27 : ∀ j, j < 576 → I27 101 j = (u2 (u2 (u2 (u2 (u2 (u2 (u2 (u2 (u2 (u2 I (100) 0 (I (140) 0)) (100) 1 (I (140) 1)) (100) 2 (I (140) 2)) (100) 3 (I (140) 3)) (100) 4 (I (140) 4)) (100) 5 (I (140) 5)) (100) 6 (I (140) 6)) (100) 7 (I (140) 7)) (100) 8 (I (140) 8)) (100) 9 (I (140) 9)) 141 j := fun j hj => by rw [eI27]; exact cpy_at rfl hj
  refine lv_aload_n hx hb dX8_copyFrom_96 rfl (lv_at hl 1 rfl) ?_
  refine m_getr (140) 11 (142) hx hb hts hown hE oc8 hM (hT.2.1 0 (by decide)) rfl (by decide) rfl (hT.2.2 1 (by decide)) (by decide) tb_68 dX8_copyFrom_97 ?_
  refine lv_iconst (v := (0)) hx hb dX8_copyFrom_100 (by decide) ?_
  refine lv_aload_n hx hb dX8_copyFrom_101 rfl (lv_at hl 0 rfl) ?_
  refine m_getr (100) 11 (102) hx hb hts hown hE oc8 hM (hG.1 100 (by decide)) rfl (by decide) rfl (hG.2 (100, 11, 102) (by decide)) (by decide) tb_68 dX8_copyFrom_102 ?_
  refine lv_iconst (v := (0)) hx hb dX8_copyFrom_105 (by decide) ?_
  refine lv_sipush (v := (576)) hx hb dX8_copyFrom_106 (by decide) ?_
  refine m_copyi (142) (102) hx hb (hml.trans hl.1.symm) hown hE hM hS (hT.2.1 2 (by decide)) rfl (hG.1 102 (by decide)) rfl (hts _ tb_1151) (hts _ tb_568) (hts _ tb_567) (hts _ tb_13) ⟨⟨by decide, by decide, by decide⟩, by decide, by decide⟩ (Nat.le_of_ble_eq_true rfl) (Nat.le_of_ble_eq_true rfl) dX8_copyFrom_109 (fun H locs I28 eI28 hM hS => ?_)
  have hI : INV I28 := by rw [eI28]; exact hI.cpy (by intro i hi; left; rfl)
  have hK : Kp [(101, 109)] [(100, 0), (100, 1), (100, 2), (100, 3), (100, 4), (100, 5), (100, 6), (100, 7), (100, 8), (100, 9)] I I28 := by rw [eI28]; exact hK.cpy rfl
  have hkI28 : Kp [(102, 103)] [] I27 I28 := by rw [eI28]; exact Kp.rf.cpy rfl
  have hcpI28 : ∀ j, j < 576 → I28 102 j = I27 142 j := fun j hj => by rw [eI28]; exact cpy_at rfl hj
  refine lv_aload_n hx hb dX8_copyFrom_112 rfl (lv_at hl 1 rfl) ?_
  refine m_getr (140) 12 (143) hx hb hts hown hE oc8 hM (hT.2.1 0 (by decide)) rfl (by decide) rfl (hT.2.2 2 (by decide)) (by decide) tb_71 dX8_copyFrom_113 ?_
  refine lv_iconst (v := (0)) hx hb dX8_copyFrom_116 (by decide) ?_
  refine lv_aload_n hx hb dX8_copyFrom_117 rfl (lv_at hl 0 rfl) ?_
  refine m_getr (100) 12 (103) hx hb hts hown hE oc8 hM (hG.1 100 (by decide)) rfl (by decide) rfl (hG.2 (100, 12, 103) (by decide)) (by decide) tb_71 dX8_copyFrom_118 ?_
  refine lv_iconst (v := (0)) hx hb dX8_copyFrom_121 (by decide) ?_
  refine lv_sipush (v := (576)) hx hb dX8_copyFrom_122 (by decide) ?_
  refine m_copyi (143) (103) hx hb (hml.trans hl.1.symm) hown hE hM hS (hT.2.1 3 (by decide)) rfl (hG.1 103 (by decide)) rfl (hts _ tb_1151) (hts _ tb_568) (hts _ tb_567) (hts _ tb_13) ⟨⟨by decide, by decide, by decide⟩, by decide, by decide⟩ (Nat.le_of_ble_eq_true rfl) (Nat.le_of_ble_eq_true rfl) dX8_copyFrom_125 (fun H locs I29 eI29 hM hS => ?_)
  have hI : INV I29 := by rw [eI29]; exact hI.cpy (by intro i hi; left; rfl)
  have hK : Kp [(101, 109)] [(100, 0), (100, 1), (100, 2), (100, 3), (100, 4), (100, 5), (100, 6), (100, 7), (100, 8), (100, 9)] I I29 := by rw [eI29]; exact hK.cpy rfl
  have hkI29 : Kp [(103, 104)] [] I28 I29 := by rw [eI29]; exact Kp.rf.cpy rfl
  have hcpI29 : ∀ j, j < 576 → I29 103 j = I28 143 j := fun j hj => by rw [eI29]; exact cpy_at rfl hj
  refine lv_aload_n hx hb dX8_copyFrom_128 rfl (lv_at hl 1 rfl) ?_
  refine m_getr (140) 13 (144) hx hb hts hown hE oc8 hM (hT.2.1 0 (by decide)) rfl (by decide) rfl (hT.2.2 3 (by decide)) (by decide) tb_75 dX8_copyFrom_129 ?_
  refine lv_iconst (v := (0)) hx hb dX8_copyFrom_132 (by decide) ?_
  refine lv_aload_n hx hb dX8_copyFrom_133 rfl (lv_at hl 0 rfl) ?_
  refine m_getr (100) 13 (104) hx hb hts hown hE oc8 hM (hG.1 100 (by decide)) rfl (by decide) rfl (hG.2 (100, 13, 104) (by decide)) (by decide) tb_75 dX8_copyFrom_134 ?_
  refine lv_iconst (v := (0)) hx hb dX8_copyFrom_137 (by decide) ?_
  refine lv_sipush (v := (576)) hx hb dX8_copyFrom_138 (by decide) ?_
  refine m_copyi (144) (104) hx hb (hml.trans hl.1.symm) hown hE hM hS (hT.2.1 4 (by decide)) rfl (hG.1 104 (by decide)) rfl (hts _ tb_1151) (hts _ tb_568) (hts _ tb_567) (hts _ tb_13) ⟨⟨by decide, by decide, by decide⟩, by decide, by decide⟩ (Nat.le_of_ble_eq_true rfl) (Nat.le_of_ble_eq_true rfl) dX8_copyFrom_141 (fun H locs I30 eI30 hM hS => ?_)
  have hI : INV I30 := by rw [eI30]; exact hI.cpy (by intro i hi; left; rfl)
  have hK : Kp [(101, 109)] [(100, 0), (100, 1), (100, 2), (100, 3), (100, 4), (100, 5), (100, 6), (100, 7), (100, 8), (100, 9)] I I30 := by rw [eI30]; exact hK.cpy rfl
  have hkI30 : Kp [(104, 105)] [] I29 I30 := by rw [eI30]; exact Kp.rf.cpy rfl
  have hcpI30 : ∀ j, j < 576 → I30 104 j = I29 144 j := fun j hj => by rw [eI30]; exact cpy_at rfl hj
  refine lv_aload_n hx hb dX8_copyFrom_144 rfl (lv_at hl 1 rfl) ?_
  refine m_getr (140) 14 (145) hx hb hts hown hE oc8 hM (hT.2.1 0 (by decide)) rfl (by decide) rfl (hT.2.2 4 (by decide)) (by decide) tb_78 dX8_copyFrom_145 ?_
  refine lv_iconst (v := (0)) hx hb dX8_copyFrom_148 (by decide) ?_
  refine lv_aload_n hx hb dX8_copyFrom_149 rfl (lv_at hl 0 rfl) ?_
  refine m_getr (100) 14 (105) hx hb hts hown hE oc8 hM (hG.1 100 (by decide)) rfl (by decide) rfl (hG.2 (100, 14, 105) (by decide)) (by decide) tb_78 dX8_copyFrom_150 ?_
  refine lv_iconst (v := (0)) hx hb dX8_copyFrom_153 (by decide) ?_
  refine lv_sipush (v := (288)) hx hb dX8_copyFrom_154 (by decide) ?_
  refine m_copyi (145) (105) hx hb (hml.trans hl.1.symm) hown hE hM hS (hT.2.1 5 (by decide)) rfl (hG.1 105 (by decide)) rfl (hts _ tb_1151) (hts _ tb_568) (hts _ tb_567) (hts _ tb_13) ⟨⟨by decide, by decide, by decide⟩, by decide, by decide⟩ (Nat.le_of_ble_eq_true rfl) (Nat.le_of_ble_eq_true rfl) dX8_copyFrom_157 (fun H locs I31 eI31 hM hS => ?_)
  have hI : INV I31 := by rw [eI31]; exact hI.cpy (by intro i hi; left; rfl)
  have hK : Kp [(101, 109)] [(100, 0), (100, 1), (100, 2), (100, 3), (100, 4), (100, 5), (100, 6), (100, 7), (100, 8), (100, 9)] I I31 := by rw [eI31]; exact hK.cpy rfl
  have hkI31 : Kp [(105, 106)] [] I30 I31 := by rw [eI31]; exact Kp.rf.cpy rfl
  have hcpI31 : ∀ j, j < 288 → I31 105 j = I30 145 j := fun j hj => by rw [eI31]; exact cpy_at rfl hj
  refine lv_aload_n hx hb dX8_copyFrom_160 rfl (lv_at hl 1 rfl) ?_
  refine m_getr (140) 15 (146) hx hb hts hown hE oc8 hM (hT.2.1 0 (by decide)) rfl (by decide) rfl (hT.2.2 5 (by decide)) (by decide) tb_80 dX8_copyFrom_161 ?_
  refine lv_iconst (v := (0)) hx hb dX8_copyFrom_164 (by decide) ?_
  refine lv_aload_n hx hb dX8_copyFrom_165 rfl (lv_at hl 0 rfl) ?_
  refine m_getr (100) 15 (106) hx hb hts hown hE oc8 hM (hG.1 100 (by decide)) rfl (by decide) rfl (hG.2 (100, 15, 106) (by decide)) (by decide) tb_80 dX8_copyFrom_166 ?_
  refine lv_iconst (v := (0)) hx hb dX8_copyFrom_169 (by decide) ?_
  refine lv_sipush (v := (288)) hx hb dX8_copyFrom_170 (by decide) ?_
  refine m_copyi (146) (106) hx hb (hml.trans hl.1.symm) hown hE hM hS (hT.2.1 6 (by decide)) rfl (hG.1 106 (by decide)) rfl (hts _ tb_1151) (hts _ tb_568) (hts _ tb_567) (hts _ tb_13) ⟨⟨by decide, by decide, by decide⟩, by decide, by decide⟩ (Nat.le_of_ble_eq_true rfl) (Nat.le_of_ble_eq_true rfl) dX8_copyFrom_173 (fun H locs I32 eI32 hM hS => ?_)
  have hI : INV I32 := by rw [eI32]; exact hI.cpy (by intro i hi; left; rfl)
  have hK : Kp [(101, 109)] [(100, 0), (100, 1), (100, 2), (100, 3), (100, 4), (100, 5), (100, 6), (100, 7), (100, 8), (100, 9)] I I32 := by rw [eI32]; exact hK.cpy rfl
  have hkI32 : Kp [(106, 107)] [] I31 I32 := by rw [eI32]; exact Kp.rf.cpy rfl
  have hcpI32 : ∀ j, j < 288 → I32 106 j = I31 146 j := fun j hj => by rw [eI32]; exact cpy_at rfl hj
  refine lv_aload_n hx hb dX8_copyFrom_176 rfl (lv_at hl 1 rfl) ?_
  refine m_getr (140) 16 (147) hx hb hts hown hE oc8 hM (hT.2.1 0 (by decide)) rfl (by decide) rfl (hT.2.2 6 (by decide)) (by decide) tb_82 dX8_copyFrom_177 ?_
  refine lv_iconst (v := (0)) hx hb dX8_copyFrom_180 (by decide) ?_
  refine lv_aload_n hx hb dX8_copyFrom_181 rfl (lv_at hl 0 rfl) ?_
  refine m_getr (100) 16 (107) hx hb hts hown hE oc8 hM (hG.1 100 (by decide)) rfl (by decide) rfl (hG.2 (100, 16, 107) (by decide)) (by decide) tb_82 dX8_copyFrom_182 ?_
  refine lv_iconst (v := (0)) hx hb dX8_copyFrom_185 (by decide) ?_
  refine lv_sipush (v := (240)) hx hb dX8_copyFrom_186 (by decide) ?_
  refine m_copyi (147) (107) hx hb (hml.trans hl.1.symm) hown hE hM hS (hT.2.1 7 (by decide)) rfl (hG.1 107 (by decide)) rfl (hts _ tb_1151) (hts _ tb_568) (hts _ tb_567) (hts _ tb_13) ⟨⟨by decide, by decide, by decide⟩, by decide, by decide⟩ (Nat.le_of_ble_eq_true rfl) (Nat.le_of_ble_eq_true rfl) dX8_copyFrom_189 (fun H locs I33 eI33 hM hS => ?_)
  have hI : INV I33 := by rw [eI33]; exact hI.cpy (by intro i hi; left; rfl)
  have hK : Kp [(101, 109)] [(100, 0), (100, 1), (100, 2), (100, 3), (100, 4), (100, 5), (100, 6), (100, 7), (100, 8), (100, 9)] I I33 := by rw [eI33]; exact hK.cpy rfl
  have hkI33 : Kp [(107, 108)] [] I32 I33 := by rw [eI33]; exact Kp.rf.cpy rfl
  have hcpI33 : ∀ j, j < 240 → I33 107 j = I32 147 j := fun j hj => by rw [eI33]; exact cpy_at rfl hj
  refine lv_aload_n hx hb dX8_copyFrom_192 rfl (lv_at hl 1 rfl) ?_
  refine m_getr (140) 17 (148) hx hb hts hown hE oc8 hM (hT.2.1 0 (by decide)) rfl (by decide) rfl (hT.2.2 7 (by decide)) (by decide) tb_83 dX8_copyFrom_193 ?_
  refine lv_iconst (v := (0)) hx hb dX8_copyFrom_196 (by decide) ?_
  refine lv_aload_n hx hb dX8_copyFrom_197 rfl (lv_at hl 0 rfl) ?_
  refine m_getr (100) 17 (108) hx hb hts hown hE oc8 hM (hG.1 100 (by decide)) rfl (by decide) rfl (hG.2 (100, 17, 108) (by decide)) (by decide) tb_83 dX8_copyFrom_198 ?_
  refine lv_iconst (v := (0)) hx hb dX8_copyFrom_201 (by decide) ?_
  refine lv_bipush (v := (56)) hx hb dX8_copyFrom_202 (by decide) ?_
  refine m_copyi (148) (108) hx hb (hml.trans hl.1.symm) hown hE hM hS (hT.2.1 8 (by decide)) rfl (hG.1 108 (by decide)) rfl (hts _ tb_1151) (hts _ tb_568) (hts _ tb_567) (hts _ tb_13) ⟨⟨by decide, by decide, by decide⟩, by decide, by decide⟩ (Nat.le_of_ble_eq_true rfl) (Nat.le_of_ble_eq_true rfl) dX8_copyFrom_204 (fun H locs I34 eI34 hM hS => ?_)
  have hI : INV I34 := by rw [eI34]; exact hI.cpy (by intro i hi; left; rfl)
  have hK : Kp [(101, 109)] [(100, 0), (100, 1), (100, 2), (100, 3), (100, 4), (100, 5), (100, 6), (100, 7), (100, 8), (100, 9)] I I34 := by rw [eI34]; exact hK.cpy rfl
  have hkI34 : Kp [(108, 109)] [] I33 I34 := by rw [eI34]; exact Kp.rf.cpy rfl
  have hcpI34 : ∀ j, j < 56 → I34 108 j = I33 148 j := fun j hj => by rw [eI34]; exact cpy_at rfl hj
  have hsc : ∀ j, j < 10 → I34 100 j = I 140 j := by
    intro j hj
    rcases (show j = 0 ∨ j = 1 ∨ j = 2 ∨ j = 3 ∨ j = 4 ∨ j = 5 ∨ j = 6 ∨ j = 7 ∨ j = 8 ∨ j = 9 by omega) with rfl | rfl | rfl | rfl | rfl | rfl | rfl | rfl | rfl | rfl
    · exact (((((((((hkI34.get (100) 0 rfl)).trans (hkI33.get (100) 0 rfl)).trans (hkI32.get (100) 0 rfl)).trans (hkI31.get (100) 0 rfl)).trans (hkI30.get (100) 0 rfl)).trans (hkI29.get (100) 0 rfl)).trans (hkI28.get (100) 0 rfl)).trans (hkI27.get (100) 0 rfl)).trans (show (u2 (u2 (u2 (u2 (u2 (u2 (u2 (u2 (u2 (u2 I (100) 0 (I (140) 0)) (100) 1 (I (140) 1)) (100) 2 (I (140) 2)) (100) 3 (I (140) 3)) (100) 4 (I (140) 4)) (100) 5 (I (140) 5)) (100) 6 (I (140) 6)) (100) 7 (I (140) 7)) (100) 8 (I (140) 8)) (100) 9 (I (140) 9)) (100) 0 = I (140) 0 from by simp [u2_v])
    · exact (((((((((hkI34.get (100) 1 rfl)).trans (hkI33.get (100) 1 rfl)).trans (hkI32.get (100) 1 rfl)).trans (hkI31.get (100) 1 rfl)).trans (hkI30.get (100) 1 rfl)).trans (hkI29.get (100) 1 rfl)).trans (hkI28.get (100) 1 rfl)).trans (hkI27.get (100) 1 rfl)).trans (show (u2 (u2 (u2 (u2 (u2 (u2 (u2 (u2 (u2 (u2 I (100) 0 (I (140) 0)) (100) 1 (I (140) 1)) (100) 2 (I (140) 2)) (100) 3 (I (140) 3)) (100) 4 (I (140) 4)) (100) 5 (I (140) 5)) (100) 6 (I (140) 6)) (100) 7 (I (140) 7)) (100) 8 (I (140) 8)) (100) 9 (I (140) 9)) (100) 1 = I (140) 1 from by simp [u2_v])
    · exact (((((((((hkI34.get (100) 2 rfl)).trans (hkI33.get (100) 2 rfl)).trans (hkI32.get (100) 2 rfl)).trans (hkI31.get (100) 2 rfl)).trans (hkI30.get (100) 2 rfl)).trans (hkI29.get (100) 2 rfl)).trans (hkI28.get (100) 2 rfl)).trans (hkI27.get (100) 2 rfl)).trans (show (u2 (u2 (u2 (u2 (u2 (u2 (u2 (u2 (u2 (u2 I (100) 0 (I (140) 0)) (100) 1 (I (140) 1)) (100) 2 (I (140) 2)) (100) 3 (I (140) 3)) (100) 4 (I (140) 4)) (100) 5 (I (140) 5)) (100) 6 (I (140) 6)) (100) 7 (I (140) 7)) (100) 8 (I (140) 8)) (100) 9 (I (140) 9)) (100) 2 = I (140) 2 from by simp [u2_v])
    · exact (((((((((hkI34.get (100) 3 rfl)).trans (hkI33.get (100) 3 rfl)).trans (hkI32.get (100) 3 rfl)).trans (hkI31.get (100) 3 rfl)).trans (hkI30.get (100) 3 rfl)).trans (hkI29.get (100) 3 rfl)).trans (hkI28.get (100) 3 rfl)).trans (hkI27.get (100) 3 rfl)).trans (show (u2 (u2 (u2 (u2 (u2 (u2 (u2 (u2 (u2 (u2 I (100) 0 (I (140) 0)) (100) 1 (I (140) 1)) (100) 2 (I (140) 2)) (100) 3 (I (140) 3)) (100) 4 (I (140) 4)) (100) 5 (I (140) 5)) (100) 6 (I (140) 6)) (100) 7 (I (140) 7)) (100) 8 (I (140) 8)) (100) 9 (I (140) 9)) (100) 3 = I (140) 3 from by simp [u2_v])
    · exact (((((((((hkI34.get (100) 4 rfl)).trans (hkI33.get (100) 4 rfl)).trans (hkI32.get (100) 4 rfl)).trans (hkI31.get (100) 4 rfl)).trans (hkI30.get (100) 4 rfl)).trans (hkI29.get (100) 4 rfl)).trans (hkI28.get (100) 4 rfl)).trans (hkI27.get (100) 4 rfl)).trans (show (u2 (u2 (u2 (u2 (u2 (u2 (u2 (u2 (u2 (u2 I (100) 0 (I (140) 0)) (100) 1 (I (140) 1)) (100) 2 (I (140) 2)) (100) 3 (I (140) 3)) (100) 4 (I (140) 4)) (100) 5 (I (140) 5)) (100) 6 (I (140) 6)) (100) 7 (I (140) 7)) (100) 8 (I (140) 8)) (100) 9 (I (140) 9)) (100) 4 = I (140) 4 from by simp [u2_v])
    · exact (((((((((hkI34.get (100) 5 rfl)).trans (hkI33.get (100) 5 rfl)).trans (hkI32.get (100) 5 rfl)).trans (hkI31.get (100) 5 rfl)).trans (hkI30.get (100) 5 rfl)).trans (hkI29.get (100) 5 rfl)).trans (hkI28.get (100) 5 rfl)).trans (hkI27.get (100) 5 rfl)).trans (show (u2 (u2 (u2 (u2 (u2 (u2 (u2 (u2 (u2 (u2 I (100) 0 (I (140) 0)) (100) 1 (I (140) 1)) (100) 2 (I (140) 2)) (100) 3 (I (140) 3)) (100) 4 (I (140) 4)) (100) 5 (I (140) 5)) (100) 6 (I (140) 6)) (100) 7 (I (140) 7)) (100) 8 (I (140) 8)) (100) 9 (I (140) 9)) (100) 5 = I (140) 5 from by simp [u2_v])
    · exact (((((((((hkI34.get (100) 6 rfl)).trans (hkI33.get (100) 6 rfl)).trans (hkI32.get (100) 6 rfl)).trans (hkI31.get (100) 6 rfl)).trans (hkI30.get (100) 6 rfl)).trans (hkI29.get (100) 6 rfl)).trans (hkI28.get (100) 6 rfl)).trans (hkI27.get (100) 6 rfl)).trans (show (u2 (u2 (u2 (u2 (u2 (u2 (u2 (u2 (u2 (u2 I (100) 0 (I (140) 0)) (100) 1 (I (140) 1)) (100) 2 (I (140) 2)) (100) 3 (I (140) 3)) (100) 4 (I (140) 4)) (100) 5 (I (140) 5)) (100) 6 (I (140) 6)) (100) 7 (I (140) 7)) (100) 8 (I (140) 8)) (100) 9 (I (140) 9)) (100) 6 = I (140) 6 from by simp [u2_v])
    · exact (((((((((hkI34.get (100) 7 rfl)).trans (hkI33.get (100) 7 rfl)).trans (hkI32.get (100) 7 rfl)).trans (hkI31.get (100) 7 rfl)).trans (hkI30.get (100) 7 rfl)).trans (hkI29.get (100) 7 rfl)).trans (hkI28.get (100) 7 rfl)).trans (hkI27.get (100) 7 rfl)).trans (show (u2 (u2 (u2 (u2 (u2 (u2 (u2 (u2 (u2 (u2 I (100) 0 (I (140) 0)) (100) 1 (I (140) 1)) (100) 2 (I (140) 2)) (100) 3 (I (140) 3)) (100) 4 (I (140) 4)) (100) 5 (I (140) 5)) (100) 6 (I (140) 6)) (100) 7 (I (140) 7)) (100) 8 (I (140) 8)) (100) 9 (I (140) 9)) (100) 7 = I (140) 7 from by simp [u2_v])
    · exact (((((((((hkI34.get (100) 8 rfl)).trans (hkI33.get (100) 8 rfl)).trans (hkI32.get (100) 8 rfl)).trans (hkI31.get (100) 8 rfl)).trans (hkI30.get (100) 8 rfl)).trans (hkI29.get (100) 8 rfl)).trans (hkI28.get (100) 8 rfl)).trans (hkI27.get (100) 8 rfl)).trans (show (u2 (u2 (u2 (u2 (u2 (u2 (u2 (u2 (u2 (u2 I (100) 0 (I (140) 0)) (100) 1 (I (140) 1)) (100) 2 (I (140) 2)) (100) 3 (I (140) 3)) (100) 4 (I (140) 4)) (100) 5 (I (140) 5)) (100) 6 (I (140) 6)) (100) 7 (I (140) 7)) (100) 8 (I (140) 8)) (100) 9 (I (140) 9)) (100) 8 = I (140) 8 from by simp [u2_v])
    · exact (((((((((hkI34.get (100) 9 rfl)).trans (hkI33.get (100) 9 rfl)).trans (hkI32.get (100) 9 rfl)).trans (hkI31.get (100) 9 rfl)).trans (hkI30.get (100) 9 rfl)).trans (hkI29.get (100) 9 rfl)).trans (hkI28.get (100) 9 rfl)).trans (hkI27.get (100) 9 rfl)).trans (show (u2 (u2 (u2 (u2 (u2 (u2 (u2 (u2 (u2 (u2 I (100) 0 (I (140) 0)) (100) 1 (I (140) 1)) (100) 2 (I (140) 2)) (100) 3 (I (140) 3)) (100) 4 (I (140) 4)) (100) 5 (I (140) 5)) (100) 6 (I (140) 6)) (100) 7 (I (140) 7)) (100) 8 (I (140) 8)) (100) 9 (I (140) 9)) (100) 9 = I (140) 9 from by simp [u2_v])
  exact m_vret hx hb hr hlocks hM hS (Nat.le_of_ble_eq_true rfl) (Nat.le_of_ble_eq_true rfl) ⟨_, _, rfl, hI, hK, ⟨hsc, (fun j hj => (congrFun ((((((((hkI34.getA 101 rfl)).trans (hkI33.getA 101 rfl)).trans (hkI32.getA 101 rfl)).trans (hkI31.getA 101 rfl)).trans (hkI30.getA 101 rfl)).trans (hkI29.getA 101 rfl)).trans (hkI28.getA 101 rfl)) j).trans ((hcpI27 j hj).trans (congrFun ((show (u2 (u2 (u2 (u2 (u2 (u2 (u2 (u2 (u2 (u2 I (100) 0 (I (140) 0)) (100) 1 (I (140) 1)) (100) 2 (I (140) 2)) (100) 3 (I (140) 3)) (100) 4 (I (140) 4)) (100) 5 (I (140) 5)) (100) 6 (I (140) 6)) (100) 7 (I (140) 7)) (100) 8 (I (140) 8)) (100) 9 (I (140) 9)) 141 = I 141 from by funext zz; simp [u2_v])) j))), (fun j hj => (congrFun (((((((hkI34.getA 102 rfl)).trans (hkI33.getA 102 rfl)).trans (hkI32.getA 102 rfl)).trans (hkI31.getA 102 rfl)).trans (hkI30.getA 102 rfl)).trans (hkI29.getA 102 rfl)) j).trans ((hcpI28 j hj).trans (congrFun (((hkI27.getA 142 rfl)).trans (show (u2 (u2 (u2 (u2 (u2 (u2 (u2 (u2 (u2 (u2 I (100) 0 (I (140) 0)) (100) 1 (I (140) 1)) (100) 2 (I (140) 2)) (100) 3 (I (140) 3)) (100) 4 (I (140) 4)) (100) 5 (I (140) 5)) (100) 6 (I (140) 6)) (100) 7 (I (140) 7)) (100) 8 (I (140) 8)) (100) 9 (I (140) 9)) 142 = I 142 from by funext zz; simp [u2_v])) j))), (fun j hj => (congrFun ((((((hkI34.getA 103 rfl)).trans (hkI33.getA 103 rfl)).trans (hkI32.getA 103 rfl)).trans (hkI31.getA 103 rfl)).trans (hkI30.getA 103 rfl)) j).trans ((hcpI29 j hj).trans (congrFun ((((hkI28.getA 143 rfl)).trans (hkI27.getA 143 rfl)).trans (show (u2 (u2 (u2 (u2 (u2 (u2 (u2 (u2 (u2 (u2 I (100) 0 (I (140) 0)) (100) 1 (I (140) 1)) (100) 2 (I (140) 2)) (100) 3 (I (140) 3)) (100) 4 (I (140) 4)) (100) 5 (I (140) 5)) (100) 6 (I (140) 6)) (100) 7 (I (140) 7)) (100) 8 (I (140) 8)) (100) 9 (I (140) 9)) 143 = I 143 from by funext zz; simp [u2_v])) j))), (fun j hj => (congrFun (((((hkI34.getA 104 rfl)).trans (hkI33.getA 104 rfl)).trans (hkI32.getA 104 rfl)).trans (hkI31.getA 104 rfl)) j).trans ((hcpI30 j hj).trans (congrFun (((((hkI29.getA 144 rfl)).trans (hkI28.getA 144 rfl)).trans (hkI27.getA 144 rfl)).trans (show (u2 (u2 (u2 (u2 (u2 (u2 (u2 (u2 (u2 (u2 I (100) 0 (I (140) 0)) (100) 1 (I (140) 1)) (100) 2 (I (140) 2)) (100) 3 (I (140) 3)) (100) 4 (I (140) 4)) (100) 5 (I (140) 5)) (100) 6 (I (140) 6)) (100) 7 (I (140) 7)) (100) 8 (I (140) 8)) (100) 9 (I (140) 9)) 144 = I 144 from by funext zz; simp [u2_v])) j))), (fun j hj => (congrFun ((((hkI34.getA 105 rfl)).trans (hkI33.getA 105 rfl)).trans (hkI32.getA 105 rfl)) j).trans ((hcpI31 j hj).trans (congrFun ((((((hkI30.getA 145 rfl)).trans (hkI29.getA 145 rfl)).trans (hkI28.getA 145 rfl)).trans (hkI27.getA 145 rfl)).trans (show (u2 (u2 (u2 (u2 (u2 (u2 (u2 (u2 (u2 (u2 I (100) 0 (I (140) 0)) (100) 1 (I (140) 1)) (100) 2 (I (140) 2)) (100) 3 (I (140) 3)) (100) 4 (I (140) 4)) (100) 5 (I (140) 5)) (100) 6 (I (140) 6)) (100) 7 (I (140) 7)) (100) 8 (I (140) 8)) (100) 9 (I (140) 9)) 145 = I 145 from by funext zz; simp [u2_v])) j))), (fun j hj => (congrFun (((hkI34.getA 106 rfl)).trans (hkI33.getA 106 rfl)) j).trans ((hcpI32 j hj).trans (congrFun (((((((hkI31.getA 146 rfl)).trans (hkI30.getA 146 rfl)).trans (hkI29.getA 146 rfl)).trans (hkI28.getA 146 rfl)).trans (hkI27.getA 146 rfl)).trans (show (u2 (u2 (u2 (u2 (u2 (u2 (u2 (u2 (u2 (u2 I (100) 0 (I (140) 0)) (100) 1 (I (140) 1)) (100) 2 (I (140) 2)) (100) 3 (I (140) 3)) (100) 4 (I (140) 4)) (100) 5 (I (140) 5)) (100) 6 (I (140) 6)) (100) 7 (I (140) 7)) (100) 8 (I (140) 8)) (100) 9 (I (140) 9)) 146 = I 146 from by funext zz; simp [u2_v])) j))), (fun j hj => (congrFun ((hkI34.getA 107 rfl)) j).trans ((hcpI33 j hj).trans (congrFun ((((((((hkI32.getA 147 rfl)).trans (hkI31.getA 147 rfl)).trans (hkI30.getA 147 rfl)).trans (hkI29.getA 147 rfl)).trans (hkI28.getA 147 rfl)).trans (hkI27.getA 147 rfl)).trans (show (u2 (u2 (u2 (u2 (u2 (u2 (u2 (u2 (u2 (u2 I (100) 0 (I (140) 0)) (100) 1 (I (140) 1)) (100) 2 (I (140) 2)) (100) 3 (I (140) 3)) (100) 4 (I (140) 4)) (100) 5 (I (140) 5)) (100) 6 (I (140) 6)) (100) 7 (I (140) 7)) (100) 8 (I (140) 8)) (100) 9 (I (140) 9)) 147 = I 147 from by funext zz; simp [u2_v])) j))), (fun j hj => (congrFun (rfl) j).trans ((hcpI34 j hj).trans (congrFun (((((((((hkI33.getA 148 rfl)).trans (hkI32.getA 148 rfl)).trans (hkI31.getA 148 rfl)).trans (hkI30.getA 148 rfl)).trans (hkI29.getA 148 rfl)).trans (hkI28.getA 148 rfl)).trans (hkI27.getA 148 rfl)).trans (show (u2 (u2 (u2 (u2 (u2 (u2 (u2 (u2 (u2 (u2 I (100) 0 (I (140) 0)) (100) 1 (I (140) 1)) (100) 2 (I (140) 2)) (100) 3 (I (140) 3)) (100) 4 (I (140) 4)) (100) 5 (I (140) 5)) (100) 6 (I (140) 6)) (100) 7 (I (140) 7)) (100) 8 (I (140) 8)) (100) 9 (I (140) 9)) 148 = I 148 from by funext zz; simp [u2_v])) j)))⟩⟩ dX8_copyFrom_207
set_option maxHeartbeats 4000000 in
set_option maxRecDepth 20000 in
theorem V_X8_copyFrom_150_100_f (l : Launch) (D : va_G) (A : Nat → Prop) (ad : Nat → Nat) (ns : List Nat) (I : MI) (L : ML) (G : MG) (hG : SGC ns G) (hI : INV I) (hT : TOK ns G 150) : Met l yX8_copyFrom (wd yX8_copyFrom cX8_copyFrom 2 none) ({ frames := 1, cells := 0, slots := 0, locals := 40 }) (va_Pc [.ref (ad (150)), .ref (ad (100))] (PM D A ad ns I L G)) (va_Qv (fun u => ∃ I2 L2, u = (ad, ns, I2, L2, G) ∧ INV I2 ∧ Kp [(151, 159)] [(150, 0), (150, 1), (150, 2), (150, 3), (150, 4), (150, 5), (150, 6), (150, 7), (150, 8), (150, 9)] I I2 ∧ (CPF 150 100 I I2)) (BM D A) A) 0 0 A := by
  refine m_ofW (by decide) (Nat.le_of_ble_eq_true rfl) ?_
  intro p e s m below meth c ls args hC hE hM hA hS hl
  obtain ⟨hx, hb, hml, hown, hts, hr, hlocks, hin⟩ := hC
  have k0 : (0 : Int32).toInt = 0 := by decide
  have k56 : (56 : Int32).toInt = 56 := by decide
  have k240 : (240 : Int32).toInt = 240 := by decide
  have k288 : (288 : Int32).toInt = 288 := by decide
  have k576 : (576 : Int32).toInt = 576 := by decide
  have hK : Kp [(151, 159)] [(150, 0), (150, 1), (150, 2), (150, 3), (150, 4), (150, 5), (150, 6), (150, 7), (150, 8), (150, 9)] I I := Kp.rf
  have hl : lv_has ls 2 [(0, .ref (ad (150))), (1, .ref (ad (100)))] := hl
  refine lv_aload_n hx hb dX8_copyFrom_0 rfl (lv_at hl 0 rfl) ?_
  refine lv_aload_n hx hb dX8_copyFrom_1 rfl (lv_at hl 1 rfl) ?_
  refine m_geti (100) 0 hx hb hts hown hE oc8 hM (hG.1 100 (by decide)) rfl (by decide) rfl tb_34 dX8_copyFrom_2 ?_
  have g1 := hI.get (100) 0 (lo := 0) (hi := 24) rfl
  refine m_puti (150) 0 hx hb hts hown hE oc8 hM hS (hT.2.1 0 (by decide)) rfl (by decide) rfl rfl rfl rfl tb_34 dX8_copyFrom_5 (fun H locs I2 eI2 hM hS => ?_)
  subst eI2
  have hI := hI.put (n := 150) (k := 0) (v := I (100) 0) (lo := 0) (hi := 24) rfl (by first | omega | decide)
  have hK := hK.put (n := 150) (k := 0) (v := I (100) 0) (by first | rfl | simp [inR])
  refine lv_aload_n hx hb dX8_copyFrom_8 rfl (lv_at hl 0 rfl) ?_
  refine lv_aload_n hx hb dX8_copyFrom_9 rfl (lv_at hl 1 rfl) ?_
  refine m_geti (100) 1 hx hb hts hown hE oc8 hM (hG.1 100 (by decide)) rfl (by decide) rfl tb_37 dX8_copyFrom_10 ?_
  have g3 := hI.get (100) 1 (lo := 0) (hi := 24) rfl
  have z4 : (u2 I (150) 0 (I (100) 0)) (100) 1 = I (100) 1 := (show (u2 I (150) 0 (I (100) 0)) (100) 1 = I (100) 1 from by simp [u2_v])
  rw [z4] at g3 ⊢
  refine m_puti (150) 1 hx hb hts hown hE oc8 hM hS (hT.2.1 0 (by decide)) rfl (by decide) rfl rfl rfl rfl tb_37 dX8_copyFrom_13 (fun H locs I5 eI5 hM hS => ?_)
  subst eI5
  have hI := hI.put (n := 150) (k := 1) (v := I (100) 1) (lo := 0) (hi := 24) rfl (by first | omega | decide)
  have hK := hK.put (n := 150) (k := 1) (v := I (100) 1) (by first | rfl | simp [inR])
  refine lv_aload_n hx hb dX8_copyFrom_16 rfl (lv_at hl 0 rfl) ?_
  refine lv_aload_n hx hb dX8_copyFrom_17 rfl (lv_at hl 1 rfl) ?_
  refine m_geti (100) 2 hx hb hts hown hE oc8 hM (hG.1 100 (by decide)) rfl (by decide) rfl tb_41 dX8_copyFrom_18 ?_
  have g6 := hI.get (100) 2 (lo := 0) (hi := 23) rfl
  have z7 : (u2 (u2 I (150) 0 (I (100) 0)) (150) 1 (I (100) 1)) (100) 2 = I (100) 2 := (show (u2 (u2 I (150) 0 (I (100) 0)) (150) 1 (I (100) 1)) (100) 2 = I (100) 2 from by simp [u2_v])
  rw [z7] at g6 ⊢
  refine m_puti (150) 2 hx hb hts hown hE oc8 hM hS (hT.2.1 0 (by decide)) rfl (by decide) rfl rfl rfl rfl tb_41 dX8_copyFrom_21 (fun H locs I8 eI8 hM hS => ?_)
  subst eI8
  have hI := hI.put (n := 150) (k := 2) (v := I (100) 2) (lo := 0) (hi := 23) rfl (by first | omega | decide)
  have hK := hK.put (n := 150) (k := 2) (v := I (100) 2) (by first | rfl | simp [inR])
  refine lv_aload_n hx hb dX8_copyFrom_24 rfl (lv_at hl 0 rfl) ?_
  refine lv_aload_n hx hb dX8_copyFrom_25 rfl (lv_at hl 1 rfl) ?_
  refine m_geti (100) 3 hx hb hts hown hE oc8 hM (hG.1 100 (by decide)) rfl (by decide) rfl tb_45 dX8_copyFrom_26 ?_
  have g9 := hI.get (100) 3 (lo := 0) (hi := 23) rfl
  have z10 : (u2 (u2 (u2 I (150) 0 (I (100) 0)) (150) 1 (I (100) 1)) (150) 2 (I (100) 2)) (100) 3 = I (100) 3 := (show (u2 (u2 (u2 I (150) 0 (I (100) 0)) (150) 1 (I (100) 1)) (150) 2 (I (100) 2)) (100) 3 = I (100) 3 from by simp [u2_v])
  rw [z10] at g9 ⊢
  refine m_puti (150) 3 hx hb hts hown hE oc8 hM hS (hT.2.1 0 (by decide)) rfl (by decide) rfl rfl rfl rfl tb_45 dX8_copyFrom_29 (fun H locs I11 eI11 hM hS => ?_)
  subst eI11
  have hI := hI.put (n := 150) (k := 3) (v := I (100) 3) (lo := 0) (hi := 23) rfl (by first | omega | decide)
  have hK := hK.put (n := 150) (k := 3) (v := I (100) 3) (by first | rfl | simp [inR])
  refine lv_aload_n hx hb dX8_copyFrom_32 rfl (lv_at hl 0 rfl) ?_
  refine lv_aload_n hx hb dX8_copyFrom_33 rfl (lv_at hl 1 rfl) ?_
  refine m_geti (100) 4 hx hb hts hown hE oc8 hM (hG.1 100 (by decide)) rfl (by decide) rfl tb_48 dX8_copyFrom_34 ?_
  have z12 : (u2 (u2 (u2 (u2 I (150) 0 (I (100) 0)) (150) 1 (I (100) 1)) (150) 2 (I (100) 2)) (150) 3 (I (100) 3)) (100) 4 = I (100) 4 := (show (u2 (u2 (u2 (u2 I (150) 0 (I (100) 0)) (150) 1 (I (100) 1)) (150) 2 (I (100) 2)) (150) 3 (I (100) 3)) (100) 4 = I (100) 4 from by simp [u2_v])
  rw [z12]
  refine m_puti (150) 4 hx hb hts hown hE oc8 hM hS (hT.2.1 0 (by decide)) rfl (by decide) rfl rfl rfl rfl tb_48 dX8_copyFrom_37 (fun H locs I13 eI13 hM hS => ?_)
  subst eI13
  have hI := hI.putF (n := 150) (k := 4) (v := I (100) 4) rfl
  have hK := hK.put (n := 150) (k := 4) (v := I (100) 4) (by first | rfl | simp [inR])
  refine lv_aload_n hx hb dX8_copyFrom_40 rfl (lv_at hl 0 rfl) ?_
  refine lv_aload_n hx hb dX8_copyFrom_41 rfl (lv_at hl 1 rfl) ?_
  refine m_geti (100) 5 hx hb hts hown hE oc8 hM (hG.1 100 (by decide)) rfl (by decide) rfl tb_51 dX8_copyFrom_42 ?_
  have g14 := hI.get (100) 5 (lo := 0) (hi := 11) rfl
  have z15 : (u2 (u2 (u2 (u2 (u2 I (150) 0 (I (100) 0)) (150) 1 (I (100) 1)) (150) 2 (I (100) 2)) (150) 3 (I (100) 3)) (150) 4 (I (100) 4)) (100) 5 = I (100) 5 := (show (u2 (u2 (u2 (u2 (u2 I (150) 0 (I (100) 0)) (150) 1 (I (100) 1)) (150) 2 (I (100) 2)) (150) 3 (I (100) 3)) (150) 4 (I (100) 4)) (100) 5 = I (100) 5 from by simp [u2_v])
  rw [z15] at g14 ⊢
  refine m_puti (150) 5 hx hb hts hown hE oc8 hM hS (hT.2.1 0 (by decide)) rfl (by decide) rfl rfl rfl rfl tb_51 dX8_copyFrom_45 (fun H locs I16 eI16 hM hS => ?_)
  subst eI16
  have hI := hI.put (n := 150) (k := 5) (v := I (100) 5) (lo := 0) (hi := 11) rfl (by first | omega | decide)
  have hK := hK.put (n := 150) (k := 5) (v := I (100) 5) (by first | rfl | simp [inR])
  refine lv_aload_n hx hb dX8_copyFrom_48 rfl (lv_at hl 0 rfl) ?_
  refine lv_aload_n hx hb dX8_copyFrom_49 rfl (lv_at hl 1 rfl) ?_
  refine m_geti (100) 6 hx hb hts hown hE oc8 hM (hG.1 100 (by decide)) rfl (by decide) rfl tb_54 dX8_copyFrom_50 ?_
  have z17 : (u2 (u2 (u2 (u2 (u2 (u2 I (150) 0 (I (100) 0)) (150) 1 (I (100) 1)) (150) 2 (I (100) 2)) (150) 3 (I (100) 3)) (150) 4 (I (100) 4)) (150) 5 (I (100) 5)) (100) 6 = I (100) 6 := (show (u2 (u2 (u2 (u2 (u2 (u2 I (150) 0 (I (100) 0)) (150) 1 (I (100) 1)) (150) 2 (I (100) 2)) (150) 3 (I (100) 3)) (150) 4 (I (100) 4)) (150) 5 (I (100) 5)) (100) 6 = I (100) 6 from by simp [u2_v])
  rw [z17]
  refine m_puti (150) 6 hx hb hts hown hE oc8 hM hS (hT.2.1 0 (by decide)) rfl (by decide) rfl rfl rfl rfl tb_54 dX8_copyFrom_53 (fun H locs I18 eI18 hM hS => ?_)
  subst eI18
  have hI := hI.putF (n := 150) (k := 6) (v := I (100) 6) rfl
  have hK := hK.put (n := 150) (k := 6) (v := I (100) 6) (by first | rfl | simp [inR])
  refine lv_aload_n hx hb dX8_copyFrom_56 rfl (lv_at hl 0 rfl) ?_
  refine lv_aload_n hx hb dX8_copyFrom_57 rfl (lv_at hl 1 rfl) ?_
  refine m_geti (100) 7 hx hb hts hown hE oc8 hM (hG.1 100 (by decide)) rfl (by decide) rfl tb_57 dX8_copyFrom_58 ?_
  have z19 : (u2 (u2 (u2 (u2 (u2 (u2 (u2 I (150) 0 (I (100) 0)) (150) 1 (I (100) 1)) (150) 2 (I (100) 2)) (150) 3 (I (100) 3)) (150) 4 (I (100) 4)) (150) 5 (I (100) 5)) (150) 6 (I (100) 6)) (100) 7 = I (100) 7 := (show (u2 (u2 (u2 (u2 (u2 (u2 (u2 I (150) 0 (I (100) 0)) (150) 1 (I (100) 1)) (150) 2 (I (100) 2)) (150) 3 (I (100) 3)) (150) 4 (I (100) 4)) (150) 5 (I (100) 5)) (150) 6 (I (100) 6)) (100) 7 = I (100) 7 from by simp [u2_v])
  rw [z19]
  refine m_puti (150) 7 hx hb hts hown hE oc8 hM hS (hT.2.1 0 (by decide)) rfl (by decide) rfl rfl rfl rfl tb_57 dX8_copyFrom_61 (fun H locs I20 eI20 hM hS => ?_)
  subst eI20
  have hI := hI.putF (n := 150) (k := 7) (v := I (100) 7) rfl
  have hK := hK.put (n := 150) (k := 7) (v := I (100) 7) (by first | rfl | simp [inR])
  refine lv_aload_n hx hb dX8_copyFrom_64 rfl (lv_at hl 0 rfl) ?_
  refine lv_aload_n hx hb dX8_copyFrom_65 rfl (lv_at hl 1 rfl) ?_
  refine m_geti (100) 8 hx hb hts hown hE oc8 hM (hG.1 100 (by decide)) rfl (by decide) rfl tb_59 dX8_copyFrom_66 ?_
  have g21 := hI.get (100) 8 (lo := 0) (hi := 24) rfl
  have z22 : (u2 (u2 (u2 (u2 (u2 (u2 (u2 (u2 I (150) 0 (I (100) 0)) (150) 1 (I (100) 1)) (150) 2 (I (100) 2)) (150) 3 (I (100) 3)) (150) 4 (I (100) 4)) (150) 5 (I (100) 5)) (150) 6 (I (100) 6)) (150) 7 (I (100) 7)) (100) 8 = I (100) 8 := (show (u2 (u2 (u2 (u2 (u2 (u2 (u2 (u2 I (150) 0 (I (100) 0)) (150) 1 (I (100) 1)) (150) 2 (I (100) 2)) (150) 3 (I (100) 3)) (150) 4 (I (100) 4)) (150) 5 (I (100) 5)) (150) 6 (I (100) 6)) (150) 7 (I (100) 7)) (100) 8 = I (100) 8 from by simp [u2_v])
  rw [z22] at g21 ⊢
  refine m_puti (150) 8 hx hb hts hown hE oc8 hM hS (hT.2.1 0 (by decide)) rfl (by decide) rfl rfl rfl rfl tb_59 dX8_copyFrom_69 (fun H locs I23 eI23 hM hS => ?_)
  subst eI23
  have hI := hI.put (n := 150) (k := 8) (v := I (100) 8) (lo := 0) (hi := 24) rfl (by first | omega | decide)
  have hK := hK.put (n := 150) (k := 8) (v := I (100) 8) (by first | rfl | simp [inR])
  refine lv_aload_n hx hb dX8_copyFrom_72 rfl (lv_at hl 0 rfl) ?_
  refine lv_aload_n hx hb dX8_copyFrom_73 rfl (lv_at hl 1 rfl) ?_
  refine m_geti (100) 9 hx hb hts hown hE oc8 hM (hG.1 100 (by decide)) rfl (by decide) rfl tb_63 dX8_copyFrom_74 ?_
  have g24 := hI.get (100) 9 (lo := 0) (hi := 8) rfl
  have z25 : (u2 (u2 (u2 (u2 (u2 (u2 (u2 (u2 (u2 I (150) 0 (I (100) 0)) (150) 1 (I (100) 1)) (150) 2 (I (100) 2)) (150) 3 (I (100) 3)) (150) 4 (I (100) 4)) (150) 5 (I (100) 5)) (150) 6 (I (100) 6)) (150) 7 (I (100) 7)) (150) 8 (I (100) 8)) (100) 9 = I (100) 9 := (show (u2 (u2 (u2 (u2 (u2 (u2 (u2 (u2 (u2 I (150) 0 (I (100) 0)) (150) 1 (I (100) 1)) (150) 2 (I (100) 2)) (150) 3 (I (100) 3)) (150) 4 (I (100) 4)) (150) 5 (I (100) 5)) (150) 6 (I (100) 6)) (150) 7 (I (100) 7)) (150) 8 (I (100) 8)) (100) 9 = I (100) 9 from by simp [u2_v])
  rw [z25] at g24 ⊢
  refine m_puti (150) 9 hx hb hts hown hE oc8 hM hS (hT.2.1 0 (by decide)) rfl (by decide) rfl rfl rfl rfl tb_63 dX8_copyFrom_77 (fun H locs I26 eI26 hM hS => ?_)
  subst eI26
  have hI := hI.put (n := 150) (k := 9) (v := I (100) 9) (lo := 0) (hi := 8) rfl (by first | omega | decide)
  have hK := hK.put (n := 150) (k := 9) (v := I (100) 9) (by first | rfl | simp [inR])
  refine lv_aload_n hx hb dX8_copyFrom_80 rfl (lv_at hl 1 rfl) ?_
  refine m_getr (100) 10 (101) hx hb hts hown hE oc8 hM (hG.1 100 (by decide)) rfl (by decide) rfl (hG.2 (100, 10, 101) (by decide)) (by decide) tb_66 dX8_copyFrom_81 ?_
  refine lv_iconst (v := (0)) hx hb dX8_copyFrom_84 (by decide) ?_
  refine lv_aload_n hx hb dX8_copyFrom_85 rfl (lv_at hl 0 rfl) ?_
  refine m_getr (150) 10 (151) hx hb hts hown hE oc8 hM (hT.2.1 0 (by decide)) rfl (by decide) rfl (hT.2.2 0 (by decide)) (by decide) tb_66 dX8_copyFrom_86 ?_
  refine lv_iconst (v := (0)) hx hb dX8_copyFrom_89 (by decide) ?_
  refine lv_sipush (v := (576)) hx hb dX8_copyFrom_90 (by decide) ?_
  refine m_copyi (101) (151) hx hb (hml.trans hl.1.symm) hown hE hM hS (hG.1 101 (by decide)) rfl (hT.2.1 1 (by decide)) rfl (hts _ tb_1151) (hts _ tb_568) (hts _ tb_567) (hts _ tb_13) ⟨⟨by decide, by decide, by decide⟩, by decide, by decide⟩ (Nat.le_of_ble_eq_true rfl) (Nat.le_of_ble_eq_true rfl) dX8_copyFrom_93 (fun H locs I27 eI27 hM hS => ?_)
  have hI : INV I27 := by rw [eI27]; exact hI.cpy (by intro i hi; left; rfl)
  have hK : Kp [(151, 159)] [(150, 0), (150, 1), (150, 2), (150, 3), (150, 4), (150, 5), (150, 6), (150, 7), (150, 8), (150, 9)] I I27 := by rw [eI27]; exact hK.cpy rfl
  have hkI27 : Kp [(151, 152)] [] (u2 (u2 (u2 (u2 (u2 (u2 (u2 (u2 (u2 (u2 I (150) 0 (I (100) 0)) (150) 1 (I (100) 1)) (150) 2 (I (100) 2)) (150) 3 (I (100) 3)) (150) 4 (I (100) 4)) (150) 5 (I (100) 5)) (150) 6 (I (100) 6)) (150) 7 (I (100) 7)) (150) 8 (I (100) 8)) (150) 9 (I (100) 9)) I27 := by rw [eI27]; exact Kp.rf.cpy rfl
  have hcpI27 : ∀ j, j < 576 → I27 151 j = (u2 (u2 (u2 (u2 (u2 (u2 (u2 (u2 (u2 (u2 I (150) 0 (I (100) 0)) (150) 1 (I (100) 1)) (150) 2 (I (100) 2)) (150) 3 (I (100) 3)) (150) 4 (I (100) 4)) (150) 5 (I (100) 5)) (150) 6 (I (100) 6)) (150) 7 (I (100) 7)) (150) 8 (I (100) 8)) (150) 9 (I (100) 9)) 101 j := fun j hj => by rw [eI27]; exact cpy_at rfl hj
  refine lv_aload_n hx hb dX8_copyFrom_96 rfl (lv_at hl 1 rfl) ?_
  refine m_getr (100) 11 (102) hx hb hts hown hE oc8 hM (hG.1 100 (by decide)) rfl (by decide) rfl (hG.2 (100, 11, 102) (by decide)) (by decide) tb_68 dX8_copyFrom_97 ?_
  refine lv_iconst (v := (0)) hx hb dX8_copyFrom_100 (by decide) ?_
  refine lv_aload_n hx hb dX8_copyFrom_101 rfl (lv_at hl 0 rfl) ?_
  refine m_getr (150) 11 (152) hx hb hts hown hE oc8 hM (hT.2.1 0 (by decide)) rfl (by decide) rfl (hT.2.2 1 (by decide)) (by decide) tb_68 dX8_copyFrom_102 ?_
  refine lv_iconst (v := (0)) hx hb dX8_copyFrom_105 (by decide) ?_
  refine lv_sipush (v := (576)) hx hb dX8_copyFrom_106 (by decide) ?_
  refine m_copyi (102) (152) hx hb (hml.trans hl.1.symm) hown hE hM hS (hG.1 102 (by decide)) rfl (hT.2.1 2 (by decide)) rfl (hts _ tb_1151) (hts _ tb_568) (hts _ tb_567) (hts _ tb_13) ⟨⟨by decide, by decide, by decide⟩, by decide, by decide⟩ (Nat.le_of_ble_eq_true rfl) (Nat.le_of_ble_eq_true rfl) dX8_copyFrom_109 (fun H locs I28 eI28 hM hS => ?_)
  have hI : INV I28 := by rw [eI28]; exact hI.cpy (by intro i hi; left; rfl)
  have hK : Kp [(151, 159)] [(150, 0), (150, 1), (150, 2), (150, 3), (150, 4), (150, 5), (150, 6), (150, 7), (150, 8), (150, 9)] I I28 := by rw [eI28]; exact hK.cpy rfl
  have hkI28 : Kp [(152, 153)] [] I27 I28 := by rw [eI28]; exact Kp.rf.cpy rfl
  have hcpI28 : ∀ j, j < 576 → I28 152 j = I27 102 j := fun j hj => by rw [eI28]; exact cpy_at rfl hj
  refine lv_aload_n hx hb dX8_copyFrom_112 rfl (lv_at hl 1 rfl) ?_
  refine m_getr (100) 12 (103) hx hb hts hown hE oc8 hM (hG.1 100 (by decide)) rfl (by decide) rfl (hG.2 (100, 12, 103) (by decide)) (by decide) tb_71 dX8_copyFrom_113 ?_
  refine lv_iconst (v := (0)) hx hb dX8_copyFrom_116 (by decide) ?_
  refine lv_aload_n hx hb dX8_copyFrom_117 rfl (lv_at hl 0 rfl) ?_
  refine m_getr (150) 12 (153) hx hb hts hown hE oc8 hM (hT.2.1 0 (by decide)) rfl (by decide) rfl (hT.2.2 2 (by decide)) (by decide) tb_71 dX8_copyFrom_118 ?_
  refine lv_iconst (v := (0)) hx hb dX8_copyFrom_121 (by decide) ?_
  refine lv_sipush (v := (576)) hx hb dX8_copyFrom_122 (by decide) ?_
  refine m_copyi (103) (153) hx hb (hml.trans hl.1.symm) hown hE hM hS (hG.1 103 (by decide)) rfl (hT.2.1 3 (by decide)) rfl (hts _ tb_1151) (hts _ tb_568) (hts _ tb_567) (hts _ tb_13) ⟨⟨by decide, by decide, by decide⟩, by decide, by decide⟩ (Nat.le_of_ble_eq_true rfl) (Nat.le_of_ble_eq_true rfl) dX8_copyFrom_125 (fun H locs I29 eI29 hM hS => ?_)
  have hI : INV I29 := by rw [eI29]; exact hI.cpy (by intro i hi; left; rfl)
  have hK : Kp [(151, 159)] [(150, 0), (150, 1), (150, 2), (150, 3), (150, 4), (150, 5), (150, 6), (150, 7), (150, 8), (150, 9)] I I29 := by rw [eI29]; exact hK.cpy rfl
  have hkI29 : Kp [(153, 154)] [] I28 I29 := by rw [eI29]; exact Kp.rf.cpy rfl
  have hcpI29 : ∀ j, j < 576 → I29 153 j = I28 103 j := fun j hj => by rw [eI29]; exact cpy_at rfl hj
  refine lv_aload_n hx hb dX8_copyFrom_128 rfl (lv_at hl 1 rfl) ?_
  refine m_getr (100) 13 (104) hx hb hts hown hE oc8 hM (hG.1 100 (by decide)) rfl (by decide) rfl (hG.2 (100, 13, 104) (by decide)) (by decide) tb_75 dX8_copyFrom_129 ?_
  refine lv_iconst (v := (0)) hx hb dX8_copyFrom_132 (by decide) ?_
  refine lv_aload_n hx hb dX8_copyFrom_133 rfl (lv_at hl 0 rfl) ?_
  refine m_getr (150) 13 (154) hx hb hts hown hE oc8 hM (hT.2.1 0 (by decide)) rfl (by decide) rfl (hT.2.2 3 (by decide)) (by decide) tb_75 dX8_copyFrom_134 ?_
  refine lv_iconst (v := (0)) hx hb dX8_copyFrom_137 (by decide) ?_
  refine lv_sipush (v := (576)) hx hb dX8_copyFrom_138 (by decide) ?_
  refine m_copyi (104) (154) hx hb (hml.trans hl.1.symm) hown hE hM hS (hG.1 104 (by decide)) rfl (hT.2.1 4 (by decide)) rfl (hts _ tb_1151) (hts _ tb_568) (hts _ tb_567) (hts _ tb_13) ⟨⟨by decide, by decide, by decide⟩, by decide, by decide⟩ (Nat.le_of_ble_eq_true rfl) (Nat.le_of_ble_eq_true rfl) dX8_copyFrom_141 (fun H locs I30 eI30 hM hS => ?_)
  have hI : INV I30 := by rw [eI30]; exact hI.cpy (by intro i hi; left; rfl)
  have hK : Kp [(151, 159)] [(150, 0), (150, 1), (150, 2), (150, 3), (150, 4), (150, 5), (150, 6), (150, 7), (150, 8), (150, 9)] I I30 := by rw [eI30]; exact hK.cpy rfl
  have hkI30 : Kp [(154, 155)] [] I29 I30 := by rw [eI30]; exact Kp.rf.cpy rfl
  have hcpI30 : ∀ j, j < 576 → I30 154 j = I29 104 j := fun j hj => by rw [eI30]; exact cpy_at rfl hj
  refine lv_aload_n hx hb dX8_copyFrom_144 rfl (lv_at hl 1 rfl) ?_
  refine m_getr (100) 14 (105) hx hb hts hown hE oc8 hM (hG.1 100 (by decide)) rfl (by decide) rfl (hG.2 (100, 14, 105) (by decide)) (by decide) tb_78 dX8_copyFrom_145 ?_
  refine lv_iconst (v := (0)) hx hb dX8_copyFrom_148 (by decide) ?_
  refine lv_aload_n hx hb dX8_copyFrom_149 rfl (lv_at hl 0 rfl) ?_
  refine m_getr (150) 14 (155) hx hb hts hown hE oc8 hM (hT.2.1 0 (by decide)) rfl (by decide) rfl (hT.2.2 4 (by decide)) (by decide) tb_78 dX8_copyFrom_150 ?_
  refine lv_iconst (v := (0)) hx hb dX8_copyFrom_153 (by decide) ?_
  refine lv_sipush (v := (288)) hx hb dX8_copyFrom_154 (by decide) ?_
  refine m_copyi (105) (155) hx hb (hml.trans hl.1.symm) hown hE hM hS (hG.1 105 (by decide)) rfl (hT.2.1 5 (by decide)) rfl (hts _ tb_1151) (hts _ tb_568) (hts _ tb_567) (hts _ tb_13) ⟨⟨by decide, by decide, by decide⟩, by decide, by decide⟩ (Nat.le_of_ble_eq_true rfl) (Nat.le_of_ble_eq_true rfl) dX8_copyFrom_157 (fun H locs I31 eI31 hM hS => ?_)
  have hI : INV I31 := by rw [eI31]; exact hI.cpy (by intro i hi; left; rfl)
  have hK : Kp [(151, 159)] [(150, 0), (150, 1), (150, 2), (150, 3), (150, 4), (150, 5), (150, 6), (150, 7), (150, 8), (150, 9)] I I31 := by rw [eI31]; exact hK.cpy rfl
  have hkI31 : Kp [(155, 156)] [] I30 I31 := by rw [eI31]; exact Kp.rf.cpy rfl
  have hcpI31 : ∀ j, j < 288 → I31 155 j = I30 105 j := fun j hj => by rw [eI31]; exact cpy_at rfl hj
  refine lv_aload_n hx hb dX8_copyFrom_160 rfl (lv_at hl 1 rfl) ?_
  refine m_getr (100) 15 (106) hx hb hts hown hE oc8 hM (hG.1 100 (by decide)) rfl (by decide) rfl (hG.2 (100, 15, 106) (by decide)) (by decide) tb_80 dX8_copyFrom_161 ?_
  refine lv_iconst (v := (0)) hx hb dX8_copyFrom_164 (by decide) ?_
  refine lv_aload_n hx hb dX8_copyFrom_165 rfl (lv_at hl 0 rfl) ?_
  refine m_getr (150) 15 (156) hx hb hts hown hE oc8 hM (hT.2.1 0 (by decide)) rfl (by decide) rfl (hT.2.2 5 (by decide)) (by decide) tb_80 dX8_copyFrom_166 ?_
  refine lv_iconst (v := (0)) hx hb dX8_copyFrom_169 (by decide) ?_
  refine lv_sipush (v := (288)) hx hb dX8_copyFrom_170 (by decide) ?_
  refine m_copyi (106) (156) hx hb (hml.trans hl.1.symm) hown hE hM hS (hG.1 106 (by decide)) rfl (hT.2.1 6 (by decide)) rfl (hts _ tb_1151) (hts _ tb_568) (hts _ tb_567) (hts _ tb_13) ⟨⟨by decide, by decide, by decide⟩, by decide, by decide⟩ (Nat.le_of_ble_eq_true rfl) (Nat.le_of_ble_eq_true rfl) dX8_copyFrom_173 (fun H locs I32 eI32 hM hS => ?_)
  have hI : INV I32 := by rw [eI32]; exact hI.cpy (by intro i hi; left; rfl)
  have hK : Kp [(151, 159)] [(150, 0), (150, 1), (150, 2), (150, 3), (150, 4), (150, 5), (150, 6), (150, 7), (150, 8), (150, 9)] I I32 := by rw [eI32]; exact hK.cpy rfl
  have hkI32 : Kp [(156, 157)] [] I31 I32 := by rw [eI32]; exact Kp.rf.cpy rfl
  have hcpI32 : ∀ j, j < 288 → I32 156 j = I31 106 j := fun j hj => by rw [eI32]; exact cpy_at rfl hj
  refine lv_aload_n hx hb dX8_copyFrom_176 rfl (lv_at hl 1 rfl) ?_
  refine m_getr (100) 16 (107) hx hb hts hown hE oc8 hM (hG.1 100 (by decide)) rfl (by decide) rfl (hG.2 (100, 16, 107) (by decide)) (by decide) tb_82 dX8_copyFrom_177 ?_
  refine lv_iconst (v := (0)) hx hb dX8_copyFrom_180 (by decide) ?_
  refine lv_aload_n hx hb dX8_copyFrom_181 rfl (lv_at hl 0 rfl) ?_
  refine m_getr (150) 16 (157) hx hb hts hown hE oc8 hM (hT.2.1 0 (by decide)) rfl (by decide) rfl (hT.2.2 6 (by decide)) (by decide) tb_82 dX8_copyFrom_182 ?_
  refine lv_iconst (v := (0)) hx hb dX8_copyFrom_185 (by decide) ?_
  refine lv_sipush (v := (240)) hx hb dX8_copyFrom_186 (by decide) ?_
  refine m_copyi (107) (157) hx hb (hml.trans hl.1.symm) hown hE hM hS (hG.1 107 (by decide)) rfl (hT.2.1 7 (by decide)) rfl (hts _ tb_1151) (hts _ tb_568) (hts _ tb_567) (hts _ tb_13) ⟨⟨by decide, by decide, by decide⟩, by decide, by decide⟩ (Nat.le_of_ble_eq_true rfl) (Nat.le_of_ble_eq_true rfl) dX8_copyFrom_189 (fun H locs I33 eI33 hM hS => ?_)
  have hI : INV I33 := by rw [eI33]; exact hI.cpy (by intro i hi; left; rfl)
  have hK : Kp [(151, 159)] [(150, 0), (150, 1), (150, 2), (150, 3), (150, 4), (150, 5), (150, 6), (150, 7), (150, 8), (150, 9)] I I33 := by rw [eI33]; exact hK.cpy rfl
  have hkI33 : Kp [(157, 158)] [] I32 I33 := by rw [eI33]; exact Kp.rf.cpy rfl
  have hcpI33 : ∀ j, j < 240 → I33 157 j = I32 107 j := fun j hj => by rw [eI33]; exact cpy_at rfl hj
  refine lv_aload_n hx hb dX8_copyFrom_192 rfl (lv_at hl 1 rfl) ?_
  refine m_getr (100) 17 (108) hx hb hts hown hE oc8 hM (hG.1 100 (by decide)) rfl (by decide) rfl (hG.2 (100, 17, 108) (by decide)) (by decide) tb_83 dX8_copyFrom_193 ?_
  refine lv_iconst (v := (0)) hx hb dX8_copyFrom_196 (by decide) ?_
  refine lv_aload_n hx hb dX8_copyFrom_197 rfl (lv_at hl 0 rfl) ?_
  refine m_getr (150) 17 (158) hx hb hts hown hE oc8 hM (hT.2.1 0 (by decide)) rfl (by decide) rfl (hT.2.2 7 (by decide)) (by decide) tb_83 dX8_copyFrom_198 ?_
  refine lv_iconst (v := (0)) hx hb dX8_copyFrom_201 (by decide) ?_
  refine lv_bipush (v := (56)) hx hb dX8_copyFrom_202 (by decide) ?_
  refine m_copyi (108) (158) hx hb (hml.trans hl.1.symm) hown hE hM hS (hG.1 108 (by decide)) rfl (hT.2.1 8 (by decide)) rfl (hts _ tb_1151) (hts _ tb_568) (hts _ tb_567) (hts _ tb_13) ⟨⟨by decide, by decide, by decide⟩, by decide, by decide⟩ (Nat.le_of_ble_eq_true rfl) (Nat.le_of_ble_eq_true rfl) dX8_copyFrom_204 (fun H locs I34 eI34 hM hS => ?_)
  have hI : INV I34 := by rw [eI34]; exact hI.cpy (by intro i hi; left; rfl)
  have hK : Kp [(151, 159)] [(150, 0), (150, 1), (150, 2), (150, 3), (150, 4), (150, 5), (150, 6), (150, 7), (150, 8), (150, 9)] I I34 := by rw [eI34]; exact hK.cpy rfl
  have hkI34 : Kp [(158, 159)] [] I33 I34 := by rw [eI34]; exact Kp.rf.cpy rfl
  have hcpI34 : ∀ j, j < 56 → I34 158 j = I33 108 j := fun j hj => by rw [eI34]; exact cpy_at rfl hj
  have hsc : ∀ j, j < 10 → I34 150 j = I 100 j := by
    intro j hj
    rcases (show j = 0 ∨ j = 1 ∨ j = 2 ∨ j = 3 ∨ j = 4 ∨ j = 5 ∨ j = 6 ∨ j = 7 ∨ j = 8 ∨ j = 9 by omega) with rfl | rfl | rfl | rfl | rfl | rfl | rfl | rfl | rfl | rfl
    · exact (((((((((hkI34.get (150) 0 rfl)).trans (hkI33.get (150) 0 rfl)).trans (hkI32.get (150) 0 rfl)).trans (hkI31.get (150) 0 rfl)).trans (hkI30.get (150) 0 rfl)).trans (hkI29.get (150) 0 rfl)).trans (hkI28.get (150) 0 rfl)).trans (hkI27.get (150) 0 rfl)).trans (show (u2 (u2 (u2 (u2 (u2 (u2 (u2 (u2 (u2 (u2 I (150) 0 (I (100) 0)) (150) 1 (I (100) 1)) (150) 2 (I (100) 2)) (150) 3 (I (100) 3)) (150) 4 (I (100) 4)) (150) 5 (I (100) 5)) (150) 6 (I (100) 6)) (150) 7 (I (100) 7)) (150) 8 (I (100) 8)) (150) 9 (I (100) 9)) (150) 0 = I (100) 0 from by simp [u2_v])
    · exact (((((((((hkI34.get (150) 1 rfl)).trans (hkI33.get (150) 1 rfl)).trans (hkI32.get (150) 1 rfl)).trans (hkI31.get (150) 1 rfl)).trans (hkI30.get (150) 1 rfl)).trans (hkI29.get (150) 1 rfl)).trans (hkI28.get (150) 1 rfl)).trans (hkI27.get (150) 1 rfl)).trans (show (u2 (u2 (u2 (u2 (u2 (u2 (u2 (u2 (u2 (u2 I (150) 0 (I (100) 0)) (150) 1 (I (100) 1)) (150) 2 (I (100) 2)) (150) 3 (I (100) 3)) (150) 4 (I (100) 4)) (150) 5 (I (100) 5)) (150) 6 (I (100) 6)) (150) 7 (I (100) 7)) (150) 8 (I (100) 8)) (150) 9 (I (100) 9)) (150) 1 = I (100) 1 from by simp [u2_v])
    · exact (((((((((hkI34.get (150) 2 rfl)).trans (hkI33.get (150) 2 rfl)).trans (hkI32.get (150) 2 rfl)).trans (hkI31.get (150) 2 rfl)).trans (hkI30.get (150) 2 rfl)).trans (hkI29.get (150) 2 rfl)).trans (hkI28.get (150) 2 rfl)).trans (hkI27.get (150) 2 rfl)).trans (show (u2 (u2 (u2 (u2 (u2 (u2 (u2 (u2 (u2 (u2 I (150) 0 (I (100) 0)) (150) 1 (I (100) 1)) (150) 2 (I (100) 2)) (150) 3 (I (100) 3)) (150) 4 (I (100) 4)) (150) 5 (I (100) 5)) (150) 6 (I (100) 6)) (150) 7 (I (100) 7)) (150) 8 (I (100) 8)) (150) 9 (I (100) 9)) (150) 2 = I (100) 2 from by simp [u2_v])
    · exact (((((((((hkI34.get (150) 3 rfl)).trans (hkI33.get (150) 3 rfl)).trans (hkI32.get (150) 3 rfl)).trans (hkI31.get (150) 3 rfl)).trans (hkI30.get (150) 3 rfl)).trans (hkI29.get (150) 3 rfl)).trans (hkI28.get (150) 3 rfl)).trans (hkI27.get (150) 3 rfl)).trans (show (u2 (u2 (u2 (u2 (u2 (u2 (u2 (u2 (u2 (u2 I (150) 0 (I (100) 0)) (150) 1 (I (100) 1)) (150) 2 (I (100) 2)) (150) 3 (I (100) 3)) (150) 4 (I (100) 4)) (150) 5 (I (100) 5)) (150) 6 (I (100) 6)) (150) 7 (I (100) 7)) (150) 8 (I (100) 8)) (150) 9 (I (100) 9)) (150) 3 = I (100) 3 from by simp [u2_v])
    · exact (((((((((hkI34.get (150) 4 rfl)).trans (hkI33.get (150) 4 rfl)).trans (hkI32.get (150) 4 rfl)).trans (hkI31.get (150) 4 rfl)).trans (hkI30.get (150) 4 rfl)).trans (hkI29.get (150) 4 rfl)).trans (hkI28.get (150) 4 rfl)).trans (hkI27.get (150) 4 rfl)).trans (show (u2 (u2 (u2 (u2 (u2 (u2 (u2 (u2 (u2 (u2 I (150) 0 (I (100) 0)) (150) 1 (I (100) 1)) (150) 2 (I (100) 2)) (150) 3 (I (100) 3)) (150) 4 (I (100) 4)) (150) 5 (I (100) 5)) (150) 6 (I (100) 6)) (150) 7 (I (100) 7)) (150) 8 (I (100) 8)) (150) 9 (I (100) 9)) (150) 4 = I (100) 4 from by simp [u2_v])
    · exact (((((((((hkI34.get (150) 5 rfl)).trans (hkI33.get (150) 5 rfl)).trans (hkI32.get (150) 5 rfl)).trans (hkI31.get (150) 5 rfl)).trans (hkI30.get (150) 5 rfl)).trans (hkI29.get (150) 5 rfl)).trans (hkI28.get (150) 5 rfl)).trans (hkI27.get (150) 5 rfl)).trans (show (u2 (u2 (u2 (u2 (u2 (u2 (u2 (u2 (u2 (u2 I (150) 0 (I (100) 0)) (150) 1 (I (100) 1)) (150) 2 (I (100) 2)) (150) 3 (I (100) 3)) (150) 4 (I (100) 4)) (150) 5 (I (100) 5)) (150) 6 (I (100) 6)) (150) 7 (I (100) 7)) (150) 8 (I (100) 8)) (150) 9 (I (100) 9)) (150) 5 = I (100) 5 from by simp [u2_v])
    · exact (((((((((hkI34.get (150) 6 rfl)).trans (hkI33.get (150) 6 rfl)).trans (hkI32.get (150) 6 rfl)).trans (hkI31.get (150) 6 rfl)).trans (hkI30.get (150) 6 rfl)).trans (hkI29.get (150) 6 rfl)).trans (hkI28.get (150) 6 rfl)).trans (hkI27.get (150) 6 rfl)).trans (show (u2 (u2 (u2 (u2 (u2 (u2 (u2 (u2 (u2 (u2 I (150) 0 (I (100) 0)) (150) 1 (I (100) 1)) (150) 2 (I (100) 2)) (150) 3 (I (100) 3)) (150) 4 (I (100) 4)) (150) 5 (I (100) 5)) (150) 6 (I (100) 6)) (150) 7 (I (100) 7)) (150) 8 (I (100) 8)) (150) 9 (I (100) 9)) (150) 6 = I (100) 6 from by simp [u2_v])
    · exact (((((((((hkI34.get (150) 7 rfl)).trans (hkI33.get (150) 7 rfl)).trans (hkI32.get (150) 7 rfl)).trans (hkI31.get (150) 7 rfl)).trans (hkI30.get (150) 7 rfl)).trans (hkI29.get (150) 7 rfl)).trans (hkI28.get (150) 7 rfl)).trans (hkI27.get (150) 7 rfl)).trans (show (u2 (u2 (u2 (u2 (u2 (u2 (u2 (u2 (u2 (u2 I (150) 0 (I (100) 0)) (150) 1 (I (100) 1)) (150) 2 (I (100) 2)) (150) 3 (I (100) 3)) (150) 4 (I (100) 4)) (150) 5 (I (100) 5)) (150) 6 (I (100) 6)) (150) 7 (I (100) 7)) (150) 8 (I (100) 8)) (150) 9 (I (100) 9)) (150) 7 = I (100) 7 from by simp [u2_v])
    · exact (((((((((hkI34.get (150) 8 rfl)).trans (hkI33.get (150) 8 rfl)).trans (hkI32.get (150) 8 rfl)).trans (hkI31.get (150) 8 rfl)).trans (hkI30.get (150) 8 rfl)).trans (hkI29.get (150) 8 rfl)).trans (hkI28.get (150) 8 rfl)).trans (hkI27.get (150) 8 rfl)).trans (show (u2 (u2 (u2 (u2 (u2 (u2 (u2 (u2 (u2 (u2 I (150) 0 (I (100) 0)) (150) 1 (I (100) 1)) (150) 2 (I (100) 2)) (150) 3 (I (100) 3)) (150) 4 (I (100) 4)) (150) 5 (I (100) 5)) (150) 6 (I (100) 6)) (150) 7 (I (100) 7)) (150) 8 (I (100) 8)) (150) 9 (I (100) 9)) (150) 8 = I (100) 8 from by simp [u2_v])
    · exact (((((((((hkI34.get (150) 9 rfl)).trans (hkI33.get (150) 9 rfl)).trans (hkI32.get (150) 9 rfl)).trans (hkI31.get (150) 9 rfl)).trans (hkI30.get (150) 9 rfl)).trans (hkI29.get (150) 9 rfl)).trans (hkI28.get (150) 9 rfl)).trans (hkI27.get (150) 9 rfl)).trans (show (u2 (u2 (u2 (u2 (u2 (u2 (u2 (u2 (u2 (u2 I (150) 0 (I (100) 0)) (150) 1 (I (100) 1)) (150) 2 (I (100) 2)) (150) 3 (I (100) 3)) (150) 4 (I (100) 4)) (150) 5 (I (100) 5)) (150) 6 (I (100) 6)) (150) 7 (I (100) 7)) (150) 8 (I (100) 8)) (150) 9 (I (100) 9)) (150) 9 = I (100) 9 from by simp [u2_v])
  exact m_vret hx hb hr hlocks hM hS (Nat.le_of_ble_eq_true rfl) (Nat.le_of_ble_eq_true rfl) ⟨_, _, rfl, hI, hK, ⟨hsc, (fun j hj => (congrFun ((((((((hkI34.getA 151 rfl)).trans (hkI33.getA 151 rfl)).trans (hkI32.getA 151 rfl)).trans (hkI31.getA 151 rfl)).trans (hkI30.getA 151 rfl)).trans (hkI29.getA 151 rfl)).trans (hkI28.getA 151 rfl)) j).trans ((hcpI27 j hj).trans (congrFun ((show (u2 (u2 (u2 (u2 (u2 (u2 (u2 (u2 (u2 (u2 I (150) 0 (I (100) 0)) (150) 1 (I (100) 1)) (150) 2 (I (100) 2)) (150) 3 (I (100) 3)) (150) 4 (I (100) 4)) (150) 5 (I (100) 5)) (150) 6 (I (100) 6)) (150) 7 (I (100) 7)) (150) 8 (I (100) 8)) (150) 9 (I (100) 9)) 101 = I 101 from by funext zz; simp [u2_v])) j))), (fun j hj => (congrFun (((((((hkI34.getA 152 rfl)).trans (hkI33.getA 152 rfl)).trans (hkI32.getA 152 rfl)).trans (hkI31.getA 152 rfl)).trans (hkI30.getA 152 rfl)).trans (hkI29.getA 152 rfl)) j).trans ((hcpI28 j hj).trans (congrFun (((hkI27.getA 102 rfl)).trans (show (u2 (u2 (u2 (u2 (u2 (u2 (u2 (u2 (u2 (u2 I (150) 0 (I (100) 0)) (150) 1 (I (100) 1)) (150) 2 (I (100) 2)) (150) 3 (I (100) 3)) (150) 4 (I (100) 4)) (150) 5 (I (100) 5)) (150) 6 (I (100) 6)) (150) 7 (I (100) 7)) (150) 8 (I (100) 8)) (150) 9 (I (100) 9)) 102 = I 102 from by funext zz; simp [u2_v])) j))), (fun j hj => (congrFun ((((((hkI34.getA 153 rfl)).trans (hkI33.getA 153 rfl)).trans (hkI32.getA 153 rfl)).trans (hkI31.getA 153 rfl)).trans (hkI30.getA 153 rfl)) j).trans ((hcpI29 j hj).trans (congrFun ((((hkI28.getA 103 rfl)).trans (hkI27.getA 103 rfl)).trans (show (u2 (u2 (u2 (u2 (u2 (u2 (u2 (u2 (u2 (u2 I (150) 0 (I (100) 0)) (150) 1 (I (100) 1)) (150) 2 (I (100) 2)) (150) 3 (I (100) 3)) (150) 4 (I (100) 4)) (150) 5 (I (100) 5)) (150) 6 (I (100) 6)) (150) 7 (I (100) 7)) (150) 8 (I (100) 8)) (150) 9 (I (100) 9)) 103 = I 103 from by funext zz; simp [u2_v])) j))), (fun j hj => (congrFun (((((hkI34.getA 154 rfl)).trans (hkI33.getA 154 rfl)).trans (hkI32.getA 154 rfl)).trans (hkI31.getA 154 rfl)) j).trans ((hcpI30 j hj).trans (congrFun (((((hkI29.getA 104 rfl)).trans (hkI28.getA 104 rfl)).trans (hkI27.getA 104 rfl)).trans (show (u2 (u2 (u2 (u2 (u2 (u2 (u2 (u2 (u2 (u2 I (150) 0 (I (100) 0)) (150) 1 (I (100) 1)) (150) 2 (I (100) 2)) (150) 3 (I (100) 3)) (150) 4 (I (100) 4)) (150) 5 (I (100) 5)) (150) 6 (I (100) 6)) (150) 7 (I (100) 7)) (150) 8 (I (100) 8)) (150) 9 (I (100) 9)) 104 = I 104 from by funext zz; simp [u2_v])) j))), (fun j hj => (congrFun ((((hkI34.getA 155 rfl)).trans (hkI33.getA 155 rfl)).trans (hkI32.getA 155 rfl)) j).trans ((hcpI31 j hj).trans (congrFun ((((((hkI30.getA 105 rfl)).trans (hkI29.getA 105 rfl)).trans (hkI28.getA 105 rfl)).trans (hkI27.getA 105 rfl)).trans (show (u2 (u2 (u2 (u2 (u2 (u2 (u2 (u2 (u2 (u2 I (150) 0 (I (100) 0)) (150) 1 (I (100) 1)) (150) 2 (I (100) 2)) (150) 3 (I (100) 3)) (150) 4 (I (100) 4)) (150) 5 (I (100) 5)) (150) 6 (I (100) 6)) (150) 7 (I (100) 7)) (150) 8 (I (100) 8)) (150) 9 (I (100) 9)) 105 = I 105 from by funext zz; simp [u2_v])) j))), (fun j hj => (congrFun (((hkI34.getA 156 rfl)).trans (hkI33.getA 156 rfl)) j).trans ((hcpI32 j hj).trans (congrFun (((((((hkI31.getA 106 rfl)).trans (hkI30.getA 106 rfl)).trans (hkI29.getA 106 rfl)).trans (hkI28.getA 106 rfl)).trans (hkI27.getA 106 rfl)).trans (show (u2 (u2 (u2 (u2 (u2 (u2 (u2 (u2 (u2 (u2 I (150) 0 (I (100) 0)) (150) 1 (I (100) 1)) (150) 2 (I (100) 2)) (150) 3 (I (100) 3)) (150) 4 (I (100) 4)) (150) 5 (I (100) 5)) (150) 6 (I (100) 6)) (150) 7 (I (100) 7)) (150) 8 (I (100) 8)) (150) 9 (I (100) 9)) 106 = I 106 from by funext zz; simp [u2_v])) j))), (fun j hj => (congrFun ((hkI34.getA 157 rfl)) j).trans ((hcpI33 j hj).trans (congrFun ((((((((hkI32.getA 107 rfl)).trans (hkI31.getA 107 rfl)).trans (hkI30.getA 107 rfl)).trans (hkI29.getA 107 rfl)).trans (hkI28.getA 107 rfl)).trans (hkI27.getA 107 rfl)).trans (show (u2 (u2 (u2 (u2 (u2 (u2 (u2 (u2 (u2 (u2 I (150) 0 (I (100) 0)) (150) 1 (I (100) 1)) (150) 2 (I (100) 2)) (150) 3 (I (100) 3)) (150) 4 (I (100) 4)) (150) 5 (I (100) 5)) (150) 6 (I (100) 6)) (150) 7 (I (100) 7)) (150) 8 (I (100) 8)) (150) 9 (I (100) 9)) 107 = I 107 from by funext zz; simp [u2_v])) j))), (fun j hj => (congrFun (rfl) j).trans ((hcpI34 j hj).trans (congrFun (((((((((hkI33.getA 108 rfl)).trans (hkI32.getA 108 rfl)).trans (hkI31.getA 108 rfl)).trans (hkI30.getA 108 rfl)).trans (hkI29.getA 108 rfl)).trans (hkI28.getA 108 rfl)).trans (hkI27.getA 108 rfl)).trans (show (u2 (u2 (u2 (u2 (u2 (u2 (u2 (u2 (u2 (u2 I (150) 0 (I (100) 0)) (150) 1 (I (100) 1)) (150) 2 (I (100) 2)) (150) 3 (I (100) 3)) (150) 4 (I (100) 4)) (150) 5 (I (100) 5)) (150) 6 (I (100) 6)) (150) 7 (I (100) 7)) (150) 8 (I (100) 8)) (150) 9 (I (100) 9)) 108 = I 108 from by funext zz; simp [u2_v])) j)))⟩⟩ dX8_copyFrom_207
set_option maxHeartbeats 4000000 in
set_option maxRecDepth 20000 in
theorem V_X8_copyFrom_100_150_f (l : Launch) (D : va_G) (A : Nat → Prop) (ad : Nat → Nat) (ns : List Nat) (I : MI) (L : ML) (G : MG) (hG : SGC ns G) (hI : INV I) (hT : TOK ns G 150) : Met l yX8_copyFrom (wd yX8_copyFrom cX8_copyFrom 2 none) ({ frames := 1, cells := 0, slots := 0, locals := 40 }) (va_Pc [.ref (ad (100)), .ref (ad (150))] (PM D A ad ns I L G)) (va_Qv (fun u => ∃ I2 L2, u = (ad, ns, I2, L2, G) ∧ INV I2 ∧ Kp [(101, 109)] [(100, 0), (100, 1), (100, 2), (100, 3), (100, 4), (100, 5), (100, 6), (100, 7), (100, 8), (100, 9)] I I2 ∧ (CPF 100 150 I I2)) (BM D A) A) 0 0 A := by
  refine m_ofW (by decide) (Nat.le_of_ble_eq_true rfl) ?_
  intro p e s m below meth c ls args hC hE hM hA hS hl
  obtain ⟨hx, hb, hml, hown, hts, hr, hlocks, hin⟩ := hC
  have k0 : (0 : Int32).toInt = 0 := by decide
  have k56 : (56 : Int32).toInt = 56 := by decide
  have k240 : (240 : Int32).toInt = 240 := by decide
  have k288 : (288 : Int32).toInt = 288 := by decide
  have k576 : (576 : Int32).toInt = 576 := by decide
  have hK : Kp [(101, 109)] [(100, 0), (100, 1), (100, 2), (100, 3), (100, 4), (100, 5), (100, 6), (100, 7), (100, 8), (100, 9)] I I := Kp.rf
  have hl : lv_has ls 2 [(0, .ref (ad (100))), (1, .ref (ad (150)))] := hl
  refine lv_aload_n hx hb dX8_copyFrom_0 rfl (lv_at hl 0 rfl) ?_
  refine lv_aload_n hx hb dX8_copyFrom_1 rfl (lv_at hl 1 rfl) ?_
  refine m_geti (150) 0 hx hb hts hown hE oc8 hM (hT.2.1 0 (by decide)) rfl (by decide) rfl tb_34 dX8_copyFrom_2 ?_
  have g1 := hI.get (150) 0 (lo := 0) (hi := 24) rfl
  refine m_puti (100) 0 hx hb hts hown hE oc8 hM hS (hG.1 100 (by decide)) rfl (by decide) rfl rfl rfl rfl tb_34 dX8_copyFrom_5 (fun H locs I2 eI2 hM hS => ?_)
  subst eI2
  have hI := hI.put (n := 100) (k := 0) (v := I (150) 0) (lo := 0) (hi := 24) rfl (by first | omega | decide)
  have hK := hK.put (n := 100) (k := 0) (v := I (150) 0) (by first | rfl | simp [inR])
  refine lv_aload_n hx hb dX8_copyFrom_8 rfl (lv_at hl 0 rfl) ?_
  refine lv_aload_n hx hb dX8_copyFrom_9 rfl (lv_at hl 1 rfl) ?_
  refine m_geti (150) 1 hx hb hts hown hE oc8 hM (hT.2.1 0 (by decide)) rfl (by decide) rfl tb_37 dX8_copyFrom_10 ?_
  have g3 := hI.get (150) 1 (lo := 0) (hi := 24) rfl
  have z4 : (u2 I (100) 0 (I (150) 0)) (150) 1 = I (150) 1 := (show (u2 I (100) 0 (I (150) 0)) (150) 1 = I (150) 1 from by simp [u2_v])
  rw [z4] at g3 ⊢
  refine m_puti (100) 1 hx hb hts hown hE oc8 hM hS (hG.1 100 (by decide)) rfl (by decide) rfl rfl rfl rfl tb_37 dX8_copyFrom_13 (fun H locs I5 eI5 hM hS => ?_)
  subst eI5
  have hI := hI.put (n := 100) (k := 1) (v := I (150) 1) (lo := 0) (hi := 24) rfl (by first | omega | decide)
  have hK := hK.put (n := 100) (k := 1) (v := I (150) 1) (by first | rfl | simp [inR])
  refine lv_aload_n hx hb dX8_copyFrom_16 rfl (lv_at hl 0 rfl) ?_
  refine lv_aload_n hx hb dX8_copyFrom_17 rfl (lv_at hl 1 rfl) ?_
  refine m_geti (150) 2 hx hb hts hown hE oc8 hM (hT.2.1 0 (by decide)) rfl (by decide) rfl tb_41 dX8_copyFrom_18 ?_
  have g6 := hI.get (150) 2 (lo := 0) (hi := 23) rfl
  have z7 : (u2 (u2 I (100) 0 (I (150) 0)) (100) 1 (I (150) 1)) (150) 2 = I (150) 2 := (show (u2 (u2 I (100) 0 (I (150) 0)) (100) 1 (I (150) 1)) (150) 2 = I (150) 2 from by simp [u2_v])
  rw [z7] at g6 ⊢
  refine m_puti (100) 2 hx hb hts hown hE oc8 hM hS (hG.1 100 (by decide)) rfl (by decide) rfl rfl rfl rfl tb_41 dX8_copyFrom_21 (fun H locs I8 eI8 hM hS => ?_)
  subst eI8
  have hI := hI.put (n := 100) (k := 2) (v := I (150) 2) (lo := 0) (hi := 23) rfl (by first | omega | decide)
  have hK := hK.put (n := 100) (k := 2) (v := I (150) 2) (by first | rfl | simp [inR])
  refine lv_aload_n hx hb dX8_copyFrom_24 rfl (lv_at hl 0 rfl) ?_
  refine lv_aload_n hx hb dX8_copyFrom_25 rfl (lv_at hl 1 rfl) ?_
  refine m_geti (150) 3 hx hb hts hown hE oc8 hM (hT.2.1 0 (by decide)) rfl (by decide) rfl tb_45 dX8_copyFrom_26 ?_
  have g9 := hI.get (150) 3 (lo := 0) (hi := 23) rfl
  have z10 : (u2 (u2 (u2 I (100) 0 (I (150) 0)) (100) 1 (I (150) 1)) (100) 2 (I (150) 2)) (150) 3 = I (150) 3 := (show (u2 (u2 (u2 I (100) 0 (I (150) 0)) (100) 1 (I (150) 1)) (100) 2 (I (150) 2)) (150) 3 = I (150) 3 from by simp [u2_v])
  rw [z10] at g9 ⊢
  refine m_puti (100) 3 hx hb hts hown hE oc8 hM hS (hG.1 100 (by decide)) rfl (by decide) rfl rfl rfl rfl tb_45 dX8_copyFrom_29 (fun H locs I11 eI11 hM hS => ?_)
  subst eI11
  have hI := hI.put (n := 100) (k := 3) (v := I (150) 3) (lo := 0) (hi := 23) rfl (by first | omega | decide)
  have hK := hK.put (n := 100) (k := 3) (v := I (150) 3) (by first | rfl | simp [inR])
  refine lv_aload_n hx hb dX8_copyFrom_32 rfl (lv_at hl 0 rfl) ?_
  refine lv_aload_n hx hb dX8_copyFrom_33 rfl (lv_at hl 1 rfl) ?_
  refine m_geti (150) 4 hx hb hts hown hE oc8 hM (hT.2.1 0 (by decide)) rfl (by decide) rfl tb_48 dX8_copyFrom_34 ?_
  have z12 : (u2 (u2 (u2 (u2 I (100) 0 (I (150) 0)) (100) 1 (I (150) 1)) (100) 2 (I (150) 2)) (100) 3 (I (150) 3)) (150) 4 = I (150) 4 := (show (u2 (u2 (u2 (u2 I (100) 0 (I (150) 0)) (100) 1 (I (150) 1)) (100) 2 (I (150) 2)) (100) 3 (I (150) 3)) (150) 4 = I (150) 4 from by simp [u2_v])
  rw [z12]
  refine m_puti (100) 4 hx hb hts hown hE oc8 hM hS (hG.1 100 (by decide)) rfl (by decide) rfl rfl rfl rfl tb_48 dX8_copyFrom_37 (fun H locs I13 eI13 hM hS => ?_)
  subst eI13
  have hI := hI.putF (n := 100) (k := 4) (v := I (150) 4) rfl
  have hK := hK.put (n := 100) (k := 4) (v := I (150) 4) (by first | rfl | simp [inR])
  refine lv_aload_n hx hb dX8_copyFrom_40 rfl (lv_at hl 0 rfl) ?_
  refine lv_aload_n hx hb dX8_copyFrom_41 rfl (lv_at hl 1 rfl) ?_
  refine m_geti (150) 5 hx hb hts hown hE oc8 hM (hT.2.1 0 (by decide)) rfl (by decide) rfl tb_51 dX8_copyFrom_42 ?_
  have g14 := hI.get (150) 5 (lo := 0) (hi := 11) rfl
  have z15 : (u2 (u2 (u2 (u2 (u2 I (100) 0 (I (150) 0)) (100) 1 (I (150) 1)) (100) 2 (I (150) 2)) (100) 3 (I (150) 3)) (100) 4 (I (150) 4)) (150) 5 = I (150) 5 := (show (u2 (u2 (u2 (u2 (u2 I (100) 0 (I (150) 0)) (100) 1 (I (150) 1)) (100) 2 (I (150) 2)) (100) 3 (I (150) 3)) (100) 4 (I (150) 4)) (150) 5 = I (150) 5 from by simp [u2_v])
  rw [z15] at g14 ⊢
  refine m_puti (100) 5 hx hb hts hown hE oc8 hM hS (hG.1 100 (by decide)) rfl (by decide) rfl rfl rfl rfl tb_51 dX8_copyFrom_45 (fun H locs I16 eI16 hM hS => ?_)
  subst eI16
  have hI := hI.put (n := 100) (k := 5) (v := I (150) 5) (lo := 0) (hi := 11) rfl (by first | omega | decide)
  have hK := hK.put (n := 100) (k := 5) (v := I (150) 5) (by first | rfl | simp [inR])
  refine lv_aload_n hx hb dX8_copyFrom_48 rfl (lv_at hl 0 rfl) ?_
  refine lv_aload_n hx hb dX8_copyFrom_49 rfl (lv_at hl 1 rfl) ?_
  refine m_geti (150) 6 hx hb hts hown hE oc8 hM (hT.2.1 0 (by decide)) rfl (by decide) rfl tb_54 dX8_copyFrom_50 ?_
  have z17 : (u2 (u2 (u2 (u2 (u2 (u2 I (100) 0 (I (150) 0)) (100) 1 (I (150) 1)) (100) 2 (I (150) 2)) (100) 3 (I (150) 3)) (100) 4 (I (150) 4)) (100) 5 (I (150) 5)) (150) 6 = I (150) 6 := (show (u2 (u2 (u2 (u2 (u2 (u2 I (100) 0 (I (150) 0)) (100) 1 (I (150) 1)) (100) 2 (I (150) 2)) (100) 3 (I (150) 3)) (100) 4 (I (150) 4)) (100) 5 (I (150) 5)) (150) 6 = I (150) 6 from by simp [u2_v])
  rw [z17]
  refine m_puti (100) 6 hx hb hts hown hE oc8 hM hS (hG.1 100 (by decide)) rfl (by decide) rfl rfl rfl rfl tb_54 dX8_copyFrom_53 (fun H locs I18 eI18 hM hS => ?_)
  subst eI18
  have hI := hI.putF (n := 100) (k := 6) (v := I (150) 6) rfl
  have hK := hK.put (n := 100) (k := 6) (v := I (150) 6) (by first | rfl | simp [inR])
  refine lv_aload_n hx hb dX8_copyFrom_56 rfl (lv_at hl 0 rfl) ?_
  refine lv_aload_n hx hb dX8_copyFrom_57 rfl (lv_at hl 1 rfl) ?_
  refine m_geti (150) 7 hx hb hts hown hE oc8 hM (hT.2.1 0 (by decide)) rfl (by decide) rfl tb_57 dX8_copyFrom_58 ?_
  have z19 : (u2 (u2 (u2 (u2 (u2 (u2 (u2 I (100) 0 (I (150) 0)) (100) 1 (I (150) 1)) (100) 2 (I (150) 2)) (100) 3 (I (150) 3)) (100) 4 (I (150) 4)) (100) 5 (I (150) 5)) (100) 6 (I (150) 6)) (150) 7 = I (150) 7 := (show (u2 (u2 (u2 (u2 (u2 (u2 (u2 I (100) 0 (I (150) 0)) (100) 1 (I (150) 1)) (100) 2 (I (150) 2)) (100) 3 (I (150) 3)) (100) 4 (I (150) 4)) (100) 5 (I (150) 5)) (100) 6 (I (150) 6)) (150) 7 = I (150) 7 from by simp [u2_v])
  rw [z19]
  refine m_puti (100) 7 hx hb hts hown hE oc8 hM hS (hG.1 100 (by decide)) rfl (by decide) rfl rfl rfl rfl tb_57 dX8_copyFrom_61 (fun H locs I20 eI20 hM hS => ?_)
  subst eI20
  have hI := hI.putF (n := 100) (k := 7) (v := I (150) 7) rfl
  have hK := hK.put (n := 100) (k := 7) (v := I (150) 7) (by first | rfl | simp [inR])
  refine lv_aload_n hx hb dX8_copyFrom_64 rfl (lv_at hl 0 rfl) ?_
  refine lv_aload_n hx hb dX8_copyFrom_65 rfl (lv_at hl 1 rfl) ?_
  refine m_geti (150) 8 hx hb hts hown hE oc8 hM (hT.2.1 0 (by decide)) rfl (by decide) rfl tb_59 dX8_copyFrom_66 ?_
  have g21 := hI.get (150) 8 (lo := 0) (hi := 24) rfl
  have z22 : (u2 (u2 (u2 (u2 (u2 (u2 (u2 (u2 I (100) 0 (I (150) 0)) (100) 1 (I (150) 1)) (100) 2 (I (150) 2)) (100) 3 (I (150) 3)) (100) 4 (I (150) 4)) (100) 5 (I (150) 5)) (100) 6 (I (150) 6)) (100) 7 (I (150) 7)) (150) 8 = I (150) 8 := (show (u2 (u2 (u2 (u2 (u2 (u2 (u2 (u2 I (100) 0 (I (150) 0)) (100) 1 (I (150) 1)) (100) 2 (I (150) 2)) (100) 3 (I (150) 3)) (100) 4 (I (150) 4)) (100) 5 (I (150) 5)) (100) 6 (I (150) 6)) (100) 7 (I (150) 7)) (150) 8 = I (150) 8 from by simp [u2_v])
  rw [z22] at g21 ⊢
  refine m_puti (100) 8 hx hb hts hown hE oc8 hM hS (hG.1 100 (by decide)) rfl (by decide) rfl rfl rfl rfl tb_59 dX8_copyFrom_69 (fun H locs I23 eI23 hM hS => ?_)
  subst eI23
  have hI := hI.put (n := 100) (k := 8) (v := I (150) 8) (lo := 0) (hi := 24) rfl (by first | omega | decide)
  have hK := hK.put (n := 100) (k := 8) (v := I (150) 8) (by first | rfl | simp [inR])
  refine lv_aload_n hx hb dX8_copyFrom_72 rfl (lv_at hl 0 rfl) ?_
  refine lv_aload_n hx hb dX8_copyFrom_73 rfl (lv_at hl 1 rfl) ?_
  refine m_geti (150) 9 hx hb hts hown hE oc8 hM (hT.2.1 0 (by decide)) rfl (by decide) rfl tb_63 dX8_copyFrom_74 ?_
  have g24 := hI.get (150) 9 (lo := 0) (hi := 8) rfl
  have z25 : (u2 (u2 (u2 (u2 (u2 (u2 (u2 (u2 (u2 I (100) 0 (I (150) 0)) (100) 1 (I (150) 1)) (100) 2 (I (150) 2)) (100) 3 (I (150) 3)) (100) 4 (I (150) 4)) (100) 5 (I (150) 5)) (100) 6 (I (150) 6)) (100) 7 (I (150) 7)) (100) 8 (I (150) 8)) (150) 9 = I (150) 9 := (show (u2 (u2 (u2 (u2 (u2 (u2 (u2 (u2 (u2 I (100) 0 (I (150) 0)) (100) 1 (I (150) 1)) (100) 2 (I (150) 2)) (100) 3 (I (150) 3)) (100) 4 (I (150) 4)) (100) 5 (I (150) 5)) (100) 6 (I (150) 6)) (100) 7 (I (150) 7)) (100) 8 (I (150) 8)) (150) 9 = I (150) 9 from by simp [u2_v])
  rw [z25] at g24 ⊢
  refine m_puti (100) 9 hx hb hts hown hE oc8 hM hS (hG.1 100 (by decide)) rfl (by decide) rfl rfl rfl rfl tb_63 dX8_copyFrom_77 (fun H locs I26 eI26 hM hS => ?_)
  subst eI26
  have hI := hI.put (n := 100) (k := 9) (v := I (150) 9) (lo := 0) (hi := 8) rfl (by first | omega | decide)
  have hK := hK.put (n := 100) (k := 9) (v := I (150) 9) (by first | rfl | simp [inR])
  refine lv_aload_n hx hb dX8_copyFrom_80 rfl (lv_at hl 1 rfl) ?_
  refine m_getr (150) 10 (151) hx hb hts hown hE oc8 hM (hT.2.1 0 (by decide)) rfl (by decide) rfl (hT.2.2 0 (by decide)) (by decide) tb_66 dX8_copyFrom_81 ?_
  refine lv_iconst (v := (0)) hx hb dX8_copyFrom_84 (by decide) ?_
  refine lv_aload_n hx hb dX8_copyFrom_85 rfl (lv_at hl 0 rfl) ?_
  refine m_getr (100) 10 (101) hx hb hts hown hE oc8 hM (hG.1 100 (by decide)) rfl (by decide) rfl (hG.2 (100, 10, 101) (by decide)) (by decide) tb_66 dX8_copyFrom_86 ?_
  refine lv_iconst (v := (0)) hx hb dX8_copyFrom_89 (by decide) ?_
  refine lv_sipush (v := (576)) hx hb dX8_copyFrom_90 (by decide) ?_
  refine m_copyi (151) (101) hx hb (hml.trans hl.1.symm) hown hE hM hS (hT.2.1 1 (by decide)) rfl (hG.1 101 (by decide)) rfl (hts _ tb_1151) (hts _ tb_568) (hts _ tb_567) (hts _ tb_13) ⟨⟨by decide, by decide, by decide⟩, by decide, by decide⟩ (Nat.le_of_ble_eq_true rfl) (Nat.le_of_ble_eq_true rfl) dX8_copyFrom_93 (fun H locs I27 eI27 hM hS => ?_)
  have hI : INV I27 := by rw [eI27]; exact hI.cpy (by intro i hi; left; rfl)
  have hK : Kp [(101, 109)] [(100, 0), (100, 1), (100, 2), (100, 3), (100, 4), (100, 5), (100, 6), (100, 7), (100, 8), (100, 9)] I I27 := by rw [eI27]; exact hK.cpy rfl
  have hkI27 : Kp [(101, 102)] [] (u2 (u2 (u2 (u2 (u2 (u2 (u2 (u2 (u2 (u2 I (100) 0 (I (150) 0)) (100) 1 (I (150) 1)) (100) 2 (I (150) 2)) (100) 3 (I (150) 3)) (100) 4 (I (150) 4)) (100) 5 (I (150) 5)) (100) 6 (I (150) 6)) (100) 7 (I (150) 7)) (100) 8 (I (150) 8)) (100) 9 (I (150) 9)) I27 := by rw [eI27]; exact Kp.rf.cpy rfl
  have hcpI27 : ∀ j, j < 576 → I27 101 j = (u2 (u2 (u2 (u2 (u2 (u2 (u2 (u2 (u2 (u2 I (100) 0 (I (150) 0)) (100) 1 (I (150) 1)) (100) 2 (I (150) 2)) (100) 3 (I (150) 3)) (100) 4 (I (150) 4)) (100) 5 (I (150) 5)) (100) 6 (I (150) 6)) (100) 7 (I (150) 7)) (100) 8 (I (150) 8)) (100) 9 (I (150) 9)) 151 j := fun j hj => by rw [eI27]; exact cpy_at rfl hj
  refine lv_aload_n hx hb dX8_copyFrom_96 rfl (lv_at hl 1 rfl) ?_
  refine m_getr (150) 11 (152) hx hb hts hown hE oc8 hM (hT.2.1 0 (by decide)) rfl (by decide) rfl (hT.2.2 1 (by decide)) (by decide) tb_68 dX8_copyFrom_97 ?_
  refine lv_iconst (v := (0)) hx hb dX8_copyFrom_100 (by decide) ?_
  refine lv_aload_n hx hb dX8_copyFrom_101 rfl (lv_at hl 0 rfl) ?_
  refine m_getr (100) 11 (102) hx hb hts hown hE oc8 hM (hG.1 100 (by decide)) rfl (by decide) rfl (hG.2 (100, 11, 102) (by decide)) (by decide) tb_68 dX8_copyFrom_102 ?_
  refine lv_iconst (v := (0)) hx hb dX8_copyFrom_105 (by decide) ?_
  refine lv_sipush (v := (576)) hx hb dX8_copyFrom_106 (by decide) ?_
  refine m_copyi (152) (102) hx hb (hml.trans hl.1.symm) hown hE hM hS (hT.2.1 2 (by decide)) rfl (hG.1 102 (by decide)) rfl (hts _ tb_1151) (hts _ tb_568) (hts _ tb_567) (hts _ tb_13) ⟨⟨by decide, by decide, by decide⟩, by decide, by decide⟩ (Nat.le_of_ble_eq_true rfl) (Nat.le_of_ble_eq_true rfl) dX8_copyFrom_109 (fun H locs I28 eI28 hM hS => ?_)
  have hI : INV I28 := by rw [eI28]; exact hI.cpy (by intro i hi; left; rfl)
  have hK : Kp [(101, 109)] [(100, 0), (100, 1), (100, 2), (100, 3), (100, 4), (100, 5), (100, 6), (100, 7), (100, 8), (100, 9)] I I28 := by rw [eI28]; exact hK.cpy rfl
  have hkI28 : Kp [(102, 103)] [] I27 I28 := by rw [eI28]; exact Kp.rf.cpy rfl
  have hcpI28 : ∀ j, j < 576 → I28 102 j = I27 152 j := fun j hj => by rw [eI28]; exact cpy_at rfl hj
  refine lv_aload_n hx hb dX8_copyFrom_112 rfl (lv_at hl 1 rfl) ?_
  refine m_getr (150) 12 (153) hx hb hts hown hE oc8 hM (hT.2.1 0 (by decide)) rfl (by decide) rfl (hT.2.2 2 (by decide)) (by decide) tb_71 dX8_copyFrom_113 ?_
  refine lv_iconst (v := (0)) hx hb dX8_copyFrom_116 (by decide) ?_
  refine lv_aload_n hx hb dX8_copyFrom_117 rfl (lv_at hl 0 rfl) ?_
  refine m_getr (100) 12 (103) hx hb hts hown hE oc8 hM (hG.1 100 (by decide)) rfl (by decide) rfl (hG.2 (100, 12, 103) (by decide)) (by decide) tb_71 dX8_copyFrom_118 ?_
  refine lv_iconst (v := (0)) hx hb dX8_copyFrom_121 (by decide) ?_
  refine lv_sipush (v := (576)) hx hb dX8_copyFrom_122 (by decide) ?_
  refine m_copyi (153) (103) hx hb (hml.trans hl.1.symm) hown hE hM hS (hT.2.1 3 (by decide)) rfl (hG.1 103 (by decide)) rfl (hts _ tb_1151) (hts _ tb_568) (hts _ tb_567) (hts _ tb_13) ⟨⟨by decide, by decide, by decide⟩, by decide, by decide⟩ (Nat.le_of_ble_eq_true rfl) (Nat.le_of_ble_eq_true rfl) dX8_copyFrom_125 (fun H locs I29 eI29 hM hS => ?_)
  have hI : INV I29 := by rw [eI29]; exact hI.cpy (by intro i hi; left; rfl)
  have hK : Kp [(101, 109)] [(100, 0), (100, 1), (100, 2), (100, 3), (100, 4), (100, 5), (100, 6), (100, 7), (100, 8), (100, 9)] I I29 := by rw [eI29]; exact hK.cpy rfl
  have hkI29 : Kp [(103, 104)] [] I28 I29 := by rw [eI29]; exact Kp.rf.cpy rfl
  have hcpI29 : ∀ j, j < 576 → I29 103 j = I28 153 j := fun j hj => by rw [eI29]; exact cpy_at rfl hj
  refine lv_aload_n hx hb dX8_copyFrom_128 rfl (lv_at hl 1 rfl) ?_
  refine m_getr (150) 13 (154) hx hb hts hown hE oc8 hM (hT.2.1 0 (by decide)) rfl (by decide) rfl (hT.2.2 3 (by decide)) (by decide) tb_75 dX8_copyFrom_129 ?_
  refine lv_iconst (v := (0)) hx hb dX8_copyFrom_132 (by decide) ?_
  refine lv_aload_n hx hb dX8_copyFrom_133 rfl (lv_at hl 0 rfl) ?_
  refine m_getr (100) 13 (104) hx hb hts hown hE oc8 hM (hG.1 100 (by decide)) rfl (by decide) rfl (hG.2 (100, 13, 104) (by decide)) (by decide) tb_75 dX8_copyFrom_134 ?_
  refine lv_iconst (v := (0)) hx hb dX8_copyFrom_137 (by decide) ?_
  refine lv_sipush (v := (576)) hx hb dX8_copyFrom_138 (by decide) ?_
  refine m_copyi (154) (104) hx hb (hml.trans hl.1.symm) hown hE hM hS (hT.2.1 4 (by decide)) rfl (hG.1 104 (by decide)) rfl (hts _ tb_1151) (hts _ tb_568) (hts _ tb_567) (hts _ tb_13) ⟨⟨by decide, by decide, by decide⟩, by decide, by decide⟩ (Nat.le_of_ble_eq_true rfl) (Nat.le_of_ble_eq_true rfl) dX8_copyFrom_141 (fun H locs I30 eI30 hM hS => ?_)
  have hI : INV I30 := by rw [eI30]; exact hI.cpy (by intro i hi; left; rfl)
  have hK : Kp [(101, 109)] [(100, 0), (100, 1), (100, 2), (100, 3), (100, 4), (100, 5), (100, 6), (100, 7), (100, 8), (100, 9)] I I30 := by rw [eI30]; exact hK.cpy rfl
  have hkI30 : Kp [(104, 105)] [] I29 I30 := by rw [eI30]; exact Kp.rf.cpy rfl
  have hcpI30 : ∀ j, j < 576 → I30 104 j = I29 154 j := fun j hj => by rw [eI30]; exact cpy_at rfl hj
  refine lv_aload_n hx hb dX8_copyFrom_144 rfl (lv_at hl 1 rfl) ?_
  refine m_getr (150) 14 (155) hx hb hts hown hE oc8 hM (hT.2.1 0 (by decide)) rfl (by decide) rfl (hT.2.2 4 (by decide)) (by decide) tb_78 dX8_copyFrom_145 ?_
  refine lv_iconst (v := (0)) hx hb dX8_copyFrom_148 (by decide) ?_
  refine lv_aload_n hx hb dX8_copyFrom_149 rfl (lv_at hl 0 rfl) ?_
  refine m_getr (100) 14 (105) hx hb hts hown hE oc8 hM (hG.1 100 (by decide)) rfl (by decide) rfl (hG.2 (100, 14, 105) (by decide)) (by decide) tb_78 dX8_copyFrom_150 ?_
  refine lv_iconst (v := (0)) hx hb dX8_copyFrom_153 (by decide) ?_
  refine lv_sipush (v := (288)) hx hb dX8_copyFrom_154 (by decide) ?_
  refine m_copyi (155) (105) hx hb (hml.trans hl.1.symm) hown hE hM hS (hT.2.1 5 (by decide)) rfl (hG.1 105 (by decide)) rfl (hts _ tb_1151) (hts _ tb_568) (hts _ tb_567) (hts _ tb_13) ⟨⟨by decide, by decide, by decide⟩, by decide, by decide⟩ (Nat.le_of_ble_eq_true rfl) (Nat.le_of_ble_eq_true rfl) dX8_copyFrom_157 (fun H locs I31 eI31 hM hS => ?_)
  have hI : INV I31 := by rw [eI31]; exact hI.cpy (by intro i hi; left; rfl)
  have hK : Kp [(101, 109)] [(100, 0), (100, 1), (100, 2), (100, 3), (100, 4), (100, 5), (100, 6), (100, 7), (100, 8), (100, 9)] I I31 := by rw [eI31]; exact hK.cpy rfl
  have hkI31 : Kp [(105, 106)] [] I30 I31 := by rw [eI31]; exact Kp.rf.cpy rfl
  have hcpI31 : ∀ j, j < 288 → I31 105 j = I30 155 j := fun j hj => by rw [eI31]; exact cpy_at rfl hj
  refine lv_aload_n hx hb dX8_copyFrom_160 rfl (lv_at hl 1 rfl) ?_
  refine m_getr (150) 15 (156) hx hb hts hown hE oc8 hM (hT.2.1 0 (by decide)) rfl (by decide) rfl (hT.2.2 5 (by decide)) (by decide) tb_80 dX8_copyFrom_161 ?_
  refine lv_iconst (v := (0)) hx hb dX8_copyFrom_164 (by decide) ?_
  refine lv_aload_n hx hb dX8_copyFrom_165 rfl (lv_at hl 0 rfl) ?_
  refine m_getr (100) 15 (106) hx hb hts hown hE oc8 hM (hG.1 100 (by decide)) rfl (by decide) rfl (hG.2 (100, 15, 106) (by decide)) (by decide) tb_80 dX8_copyFrom_166 ?_
  refine lv_iconst (v := (0)) hx hb dX8_copyFrom_169 (by decide) ?_
  refine lv_sipush (v := (288)) hx hb dX8_copyFrom_170 (by decide) ?_
  refine m_copyi (156) (106) hx hb (hml.trans hl.1.symm) hown hE hM hS (hT.2.1 6 (by decide)) rfl (hG.1 106 (by decide)) rfl (hts _ tb_1151) (hts _ tb_568) (hts _ tb_567) (hts _ tb_13) ⟨⟨by decide, by decide, by decide⟩, by decide, by decide⟩ (Nat.le_of_ble_eq_true rfl) (Nat.le_of_ble_eq_true rfl) dX8_copyFrom_173 (fun H locs I32 eI32 hM hS => ?_)
  have hI : INV I32 := by rw [eI32]; exact hI.cpy (by intro i hi; left; rfl)
  have hK : Kp [(101, 109)] [(100, 0), (100, 1), (100, 2), (100, 3), (100, 4), (100, 5), (100, 6), (100, 7), (100, 8), (100, 9)] I I32 := by rw [eI32]; exact hK.cpy rfl
  have hkI32 : Kp [(106, 107)] [] I31 I32 := by rw [eI32]; exact Kp.rf.cpy rfl
  have hcpI32 : ∀ j, j < 288 → I32 106 j = I31 156 j := fun j hj => by rw [eI32]; exact cpy_at rfl hj
  refine lv_aload_n hx hb dX8_copyFrom_176 rfl (lv_at hl 1 rfl) ?_
  refine m_getr (150) 16 (157) hx hb hts hown hE oc8 hM (hT.2.1 0 (by decide)) rfl (by decide) rfl (hT.2.2 6 (by decide)) (by decide) tb_82 dX8_copyFrom_177 ?_
  refine lv_iconst (v := (0)) hx hb dX8_copyFrom_180 (by decide) ?_
  refine lv_aload_n hx hb dX8_copyFrom_181 rfl (lv_at hl 0 rfl) ?_
  refine m_getr (100) 16 (107) hx hb hts hown hE oc8 hM (hG.1 100 (by decide)) rfl (by decide) rfl (hG.2 (100, 16, 107) (by decide)) (by decide) tb_82 dX8_copyFrom_182 ?_
  refine lv_iconst (v := (0)) hx hb dX8_copyFrom_185 (by decide) ?_
  refine lv_sipush (v := (240)) hx hb dX8_copyFrom_186 (by decide) ?_
  refine m_copyi (157) (107) hx hb (hml.trans hl.1.symm) hown hE hM hS (hT.2.1 7 (by decide)) rfl (hG.1 107 (by decide)) rfl (hts _ tb_1151) (hts _ tb_568) (hts _ tb_567) (hts _ tb_13) ⟨⟨by decide, by decide, by decide⟩, by decide, by decide⟩ (Nat.le_of_ble_eq_true rfl) (Nat.le_of_ble_eq_true rfl) dX8_copyFrom_189 (fun H locs I33 eI33 hM hS => ?_)
  have hI : INV I33 := by rw [eI33]; exact hI.cpy (by intro i hi; left; rfl)
  have hK : Kp [(101, 109)] [(100, 0), (100, 1), (100, 2), (100, 3), (100, 4), (100, 5), (100, 6), (100, 7), (100, 8), (100, 9)] I I33 := by rw [eI33]; exact hK.cpy rfl
  have hkI33 : Kp [(107, 108)] [] I32 I33 := by rw [eI33]; exact Kp.rf.cpy rfl
  have hcpI33 : ∀ j, j < 240 → I33 107 j = I32 157 j := fun j hj => by rw [eI33]; exact cpy_at rfl hj
  refine lv_aload_n hx hb dX8_copyFrom_192 rfl (lv_at hl 1 rfl) ?_
  refine m_getr (150) 17 (158) hx hb hts hown hE oc8 hM (hT.2.1 0 (by decide)) rfl (by decide) rfl (hT.2.2 7 (by decide)) (by decide) tb_83 dX8_copyFrom_193 ?_
  refine lv_iconst (v := (0)) hx hb dX8_copyFrom_196 (by decide) ?_
  refine lv_aload_n hx hb dX8_copyFrom_197 rfl (lv_at hl 0 rfl) ?_
  refine m_getr (100) 17 (108) hx hb hts hown hE oc8 hM (hG.1 100 (by decide)) rfl (by decide) rfl (hG.2 (100, 17, 108) (by decide)) (by decide) tb_83 dX8_copyFrom_198 ?_
  refine lv_iconst (v := (0)) hx hb dX8_copyFrom_201 (by decide) ?_
  refine lv_bipush (v := (56)) hx hb dX8_copyFrom_202 (by decide) ?_
  refine m_copyi (158) (108) hx hb (hml.trans hl.1.symm) hown hE hM hS (hT.2.1 8 (by decide)) rfl (hG.1 108 (by decide)) rfl (hts _ tb_1151) (hts _ tb_568) (hts _ tb_567) (hts _ tb_13) ⟨⟨by decide, by decide, by decide⟩, by decide, by decide⟩ (Nat.le_of_ble_eq_true rfl) (Nat.le_of_ble_eq_true rfl) dX8_copyFrom_204 (fun H locs I34 eI34 hM hS => ?_)
  have hI : INV I34 := by rw [eI34]; exact hI.cpy (by intro i hi; left; rfl)
  have hK : Kp [(101, 109)] [(100, 0), (100, 1), (100, 2), (100, 3), (100, 4), (100, 5), (100, 6), (100, 7), (100, 8), (100, 9)] I I34 := by rw [eI34]; exact hK.cpy rfl
  have hkI34 : Kp [(108, 109)] [] I33 I34 := by rw [eI34]; exact Kp.rf.cpy rfl
  have hcpI34 : ∀ j, j < 56 → I34 108 j = I33 158 j := fun j hj => by rw [eI34]; exact cpy_at rfl hj
  have hsc : ∀ j, j < 10 → I34 100 j = I 150 j := by
    intro j hj
    rcases (show j = 0 ∨ j = 1 ∨ j = 2 ∨ j = 3 ∨ j = 4 ∨ j = 5 ∨ j = 6 ∨ j = 7 ∨ j = 8 ∨ j = 9 by omega) with rfl | rfl | rfl | rfl | rfl | rfl | rfl | rfl | rfl | rfl
    · exact (((((((((hkI34.get (100) 0 rfl)).trans (hkI33.get (100) 0 rfl)).trans (hkI32.get (100) 0 rfl)).trans (hkI31.get (100) 0 rfl)).trans (hkI30.get (100) 0 rfl)).trans (hkI29.get (100) 0 rfl)).trans (hkI28.get (100) 0 rfl)).trans (hkI27.get (100) 0 rfl)).trans (show (u2 (u2 (u2 (u2 (u2 (u2 (u2 (u2 (u2 (u2 I (100) 0 (I (150) 0)) (100) 1 (I (150) 1)) (100) 2 (I (150) 2)) (100) 3 (I (150) 3)) (100) 4 (I (150) 4)) (100) 5 (I (150) 5)) (100) 6 (I (150) 6)) (100) 7 (I (150) 7)) (100) 8 (I (150) 8)) (100) 9 (I (150) 9)) (100) 0 = I (150) 0 from by simp [u2_v])
    · exact (((((((((hkI34.get (100) 1 rfl)).trans (hkI33.get (100) 1 rfl)).trans (hkI32.get (100) 1 rfl)).trans (hkI31.get (100) 1 rfl)).trans (hkI30.get (100) 1 rfl)).trans (hkI29.get (100) 1 rfl)).trans (hkI28.get (100) 1 rfl)).trans (hkI27.get (100) 1 rfl)).trans (show (u2 (u2 (u2 (u2 (u2 (u2 (u2 (u2 (u2 (u2 I (100) 0 (I (150) 0)) (100) 1 (I (150) 1)) (100) 2 (I (150) 2)) (100) 3 (I (150) 3)) (100) 4 (I (150) 4)) (100) 5 (I (150) 5)) (100) 6 (I (150) 6)) (100) 7 (I (150) 7)) (100) 8 (I (150) 8)) (100) 9 (I (150) 9)) (100) 1 = I (150) 1 from by simp [u2_v])
    · exact (((((((((hkI34.get (100) 2 rfl)).trans (hkI33.get (100) 2 rfl)).trans (hkI32.get (100) 2 rfl)).trans (hkI31.get (100) 2 rfl)).trans (hkI30.get (100) 2 rfl)).trans (hkI29.get (100) 2 rfl)).trans (hkI28.get (100) 2 rfl)).trans (hkI27.get (100) 2 rfl)).trans (show (u2 (u2 (u2 (u2 (u2 (u2 (u2 (u2 (u2 (u2 I (100) 0 (I (150) 0)) (100) 1 (I (150) 1)) (100) 2 (I (150) 2)) (100) 3 (I (150) 3)) (100) 4 (I (150) 4)) (100) 5 (I (150) 5)) (100) 6 (I (150) 6)) (100) 7 (I (150) 7)) (100) 8 (I (150) 8)) (100) 9 (I (150) 9)) (100) 2 = I (150) 2 from by simp [u2_v])
    · exact (((((((((hkI34.get (100) 3 rfl)).trans (hkI33.get (100) 3 rfl)).trans (hkI32.get (100) 3 rfl)).trans (hkI31.get (100) 3 rfl)).trans (hkI30.get (100) 3 rfl)).trans (hkI29.get (100) 3 rfl)).trans (hkI28.get (100) 3 rfl)).trans (hkI27.get (100) 3 rfl)).trans (show (u2 (u2 (u2 (u2 (u2 (u2 (u2 (u2 (u2 (u2 I (100) 0 (I (150) 0)) (100) 1 (I (150) 1)) (100) 2 (I (150) 2)) (100) 3 (I (150) 3)) (100) 4 (I (150) 4)) (100) 5 (I (150) 5)) (100) 6 (I (150) 6)) (100) 7 (I (150) 7)) (100) 8 (I (150) 8)) (100) 9 (I (150) 9)) (100) 3 = I (150) 3 from by simp [u2_v])
    · exact (((((((((hkI34.get (100) 4 rfl)).trans (hkI33.get (100) 4 rfl)).trans (hkI32.get (100) 4 rfl)).trans (hkI31.get (100) 4 rfl)).trans (hkI30.get (100) 4 rfl)).trans (hkI29.get (100) 4 rfl)).trans (hkI28.get (100) 4 rfl)).trans (hkI27.get (100) 4 rfl)).trans (show (u2 (u2 (u2 (u2 (u2 (u2 (u2 (u2 (u2 (u2 I (100) 0 (I (150) 0)) (100) 1 (I (150) 1)) (100) 2 (I (150) 2)) (100) 3 (I (150) 3)) (100) 4 (I (150) 4)) (100) 5 (I (150) 5)) (100) 6 (I (150) 6)) (100) 7 (I (150) 7)) (100) 8 (I (150) 8)) (100) 9 (I (150) 9)) (100) 4 = I (150) 4 from by simp [u2_v])
    · exact (((((((((hkI34.get (100) 5 rfl)).trans (hkI33.get (100) 5 rfl)).trans (hkI32.get (100) 5 rfl)).trans (hkI31.get (100) 5 rfl)).trans (hkI30.get (100) 5 rfl)).trans (hkI29.get (100) 5 rfl)).trans (hkI28.get (100) 5 rfl)).trans (hkI27.get (100) 5 rfl)).trans (show (u2 (u2 (u2 (u2 (u2 (u2 (u2 (u2 (u2 (u2 I (100) 0 (I (150) 0)) (100) 1 (I (150) 1)) (100) 2 (I (150) 2)) (100) 3 (I (150) 3)) (100) 4 (I (150) 4)) (100) 5 (I (150) 5)) (100) 6 (I (150) 6)) (100) 7 (I (150) 7)) (100) 8 (I (150) 8)) (100) 9 (I (150) 9)) (100) 5 = I (150) 5 from by simp [u2_v])
    · exact (((((((((hkI34.get (100) 6 rfl)).trans (hkI33.get (100) 6 rfl)).trans (hkI32.get (100) 6 rfl)).trans (hkI31.get (100) 6 rfl)).trans (hkI30.get (100) 6 rfl)).trans (hkI29.get (100) 6 rfl)).trans (hkI28.get (100) 6 rfl)).trans (hkI27.get (100) 6 rfl)).trans (show (u2 (u2 (u2 (u2 (u2 (u2 (u2 (u2 (u2 (u2 I (100) 0 (I (150) 0)) (100) 1 (I (150) 1)) (100) 2 (I (150) 2)) (100) 3 (I (150) 3)) (100) 4 (I (150) 4)) (100) 5 (I (150) 5)) (100) 6 (I (150) 6)) (100) 7 (I (150) 7)) (100) 8 (I (150) 8)) (100) 9 (I (150) 9)) (100) 6 = I (150) 6 from by simp [u2_v])
    · exact (((((((((hkI34.get (100) 7 rfl)).trans (hkI33.get (100) 7 rfl)).trans (hkI32.get (100) 7 rfl)).trans (hkI31.get (100) 7 rfl)).trans (hkI30.get (100) 7 rfl)).trans (hkI29.get (100) 7 rfl)).trans (hkI28.get (100) 7 rfl)).trans (hkI27.get (100) 7 rfl)).trans (show (u2 (u2 (u2 (u2 (u2 (u2 (u2 (u2 (u2 (u2 I (100) 0 (I (150) 0)) (100) 1 (I (150) 1)) (100) 2 (I (150) 2)) (100) 3 (I (150) 3)) (100) 4 (I (150) 4)) (100) 5 (I (150) 5)) (100) 6 (I (150) 6)) (100) 7 (I (150) 7)) (100) 8 (I (150) 8)) (100) 9 (I (150) 9)) (100) 7 = I (150) 7 from by simp [u2_v])
    · exact (((((((((hkI34.get (100) 8 rfl)).trans (hkI33.get (100) 8 rfl)).trans (hkI32.get (100) 8 rfl)).trans (hkI31.get (100) 8 rfl)).trans (hkI30.get (100) 8 rfl)).trans (hkI29.get (100) 8 rfl)).trans (hkI28.get (100) 8 rfl)).trans (hkI27.get (100) 8 rfl)).trans (show (u2 (u2 (u2 (u2 (u2 (u2 (u2 (u2 (u2 (u2 I (100) 0 (I (150) 0)) (100) 1 (I (150) 1)) (100) 2 (I (150) 2)) (100) 3 (I (150) 3)) (100) 4 (I (150) 4)) (100) 5 (I (150) 5)) (100) 6 (I (150) 6)) (100) 7 (I (150) 7)) (100) 8 (I (150) 8)) (100) 9 (I (150) 9)) (100) 8 = I (150) 8 from by simp [u2_v])
    · exact (((((((((hkI34.get (100) 9 rfl)).trans (hkI33.get (100) 9 rfl)).trans (hkI32.get (100) 9 rfl)).trans (hkI31.get (100) 9 rfl)).trans (hkI30.get (100) 9 rfl)).trans (hkI29.get (100) 9 rfl)).trans (hkI28.get (100) 9 rfl)).trans (hkI27.get (100) 9 rfl)).trans (show (u2 (u2 (u2 (u2 (u2 (u2 (u2 (u2 (u2 (u2 I (100) 0 (I (150) 0)) (100) 1 (I (150) 1)) (100) 2 (I (150) 2)) (100) 3 (I (150) 3)) (100) 4 (I (150) 4)) (100) 5 (I (150) 5)) (100) 6 (I (150) 6)) (100) 7 (I (150) 7)) (100) 8 (I (150) 8)) (100) 9 (I (150) 9)) (100) 9 = I (150) 9 from by simp [u2_v])
  exact m_vret hx hb hr hlocks hM hS (Nat.le_of_ble_eq_true rfl) (Nat.le_of_ble_eq_true rfl) ⟨_, _, rfl, hI, hK, ⟨hsc, (fun j hj => (congrFun ((((((((hkI34.getA 101 rfl)).trans (hkI33.getA 101 rfl)).trans (hkI32.getA 101 rfl)).trans (hkI31.getA 101 rfl)).trans (hkI30.getA 101 rfl)).trans (hkI29.getA 101 rfl)).trans (hkI28.getA 101 rfl)) j).trans ((hcpI27 j hj).trans (congrFun ((show (u2 (u2 (u2 (u2 (u2 (u2 (u2 (u2 (u2 (u2 I (100) 0 (I (150) 0)) (100) 1 (I (150) 1)) (100) 2 (I (150) 2)) (100) 3 (I (150) 3)) (100) 4 (I (150) 4)) (100) 5 (I (150) 5)) (100) 6 (I (150) 6)) (100) 7 (I (150) 7)) (100) 8 (I (150) 8)) (100) 9 (I (150) 9)) 151 = I 151 from by funext zz; simp [u2_v])) j))), (fun j hj => (congrFun (((((((hkI34.getA 102 rfl)).trans (hkI33.getA 102 rfl)).trans (hkI32.getA 102 rfl)).trans (hkI31.getA 102 rfl)).trans (hkI30.getA 102 rfl)).trans (hkI29.getA 102 rfl)) j).trans ((hcpI28 j hj).trans (congrFun (((hkI27.getA 152 rfl)).trans (show (u2 (u2 (u2 (u2 (u2 (u2 (u2 (u2 (u2 (u2 I (100) 0 (I (150) 0)) (100) 1 (I (150) 1)) (100) 2 (I (150) 2)) (100) 3 (I (150) 3)) (100) 4 (I (150) 4)) (100) 5 (I (150) 5)) (100) 6 (I (150) 6)) (100) 7 (I (150) 7)) (100) 8 (I (150) 8)) (100) 9 (I (150) 9)) 152 = I 152 from by funext zz; simp [u2_v])) j))), (fun j hj => (congrFun ((((((hkI34.getA 103 rfl)).trans (hkI33.getA 103 rfl)).trans (hkI32.getA 103 rfl)).trans (hkI31.getA 103 rfl)).trans (hkI30.getA 103 rfl)) j).trans ((hcpI29 j hj).trans (congrFun ((((hkI28.getA 153 rfl)).trans (hkI27.getA 153 rfl)).trans (show (u2 (u2 (u2 (u2 (u2 (u2 (u2 (u2 (u2 (u2 I (100) 0 (I (150) 0)) (100) 1 (I (150) 1)) (100) 2 (I (150) 2)) (100) 3 (I (150) 3)) (100) 4 (I (150) 4)) (100) 5 (I (150) 5)) (100) 6 (I (150) 6)) (100) 7 (I (150) 7)) (100) 8 (I (150) 8)) (100) 9 (I (150) 9)) 153 = I 153 from by funext zz; simp [u2_v])) j))), (fun j hj => (congrFun (((((hkI34.getA 104 rfl)).trans (hkI33.getA 104 rfl)).trans (hkI32.getA 104 rfl)).trans (hkI31.getA 104 rfl)) j).trans ((hcpI30 j hj).trans (congrFun (((((hkI29.getA 154 rfl)).trans (hkI28.getA 154 rfl)).trans (hkI27.getA 154 rfl)).trans (show (u2 (u2 (u2 (u2 (u2 (u2 (u2 (u2 (u2 (u2 I (100) 0 (I (150) 0)) (100) 1 (I (150) 1)) (100) 2 (I (150) 2)) (100) 3 (I (150) 3)) (100) 4 (I (150) 4)) (100) 5 (I (150) 5)) (100) 6 (I (150) 6)) (100) 7 (I (150) 7)) (100) 8 (I (150) 8)) (100) 9 (I (150) 9)) 154 = I 154 from by funext zz; simp [u2_v])) j))), (fun j hj => (congrFun ((((hkI34.getA 105 rfl)).trans (hkI33.getA 105 rfl)).trans (hkI32.getA 105 rfl)) j).trans ((hcpI31 j hj).trans (congrFun ((((((hkI30.getA 155 rfl)).trans (hkI29.getA 155 rfl)).trans (hkI28.getA 155 rfl)).trans (hkI27.getA 155 rfl)).trans (show (u2 (u2 (u2 (u2 (u2 (u2 (u2 (u2 (u2 (u2 I (100) 0 (I (150) 0)) (100) 1 (I (150) 1)) (100) 2 (I (150) 2)) (100) 3 (I (150) 3)) (100) 4 (I (150) 4)) (100) 5 (I (150) 5)) (100) 6 (I (150) 6)) (100) 7 (I (150) 7)) (100) 8 (I (150) 8)) (100) 9 (I (150) 9)) 155 = I 155 from by funext zz; simp [u2_v])) j))), (fun j hj => (congrFun (((hkI34.getA 106 rfl)).trans (hkI33.getA 106 rfl)) j).trans ((hcpI32 j hj).trans (congrFun (((((((hkI31.getA 156 rfl)).trans (hkI30.getA 156 rfl)).trans (hkI29.getA 156 rfl)).trans (hkI28.getA 156 rfl)).trans (hkI27.getA 156 rfl)).trans (show (u2 (u2 (u2 (u2 (u2 (u2 (u2 (u2 (u2 (u2 I (100) 0 (I (150) 0)) (100) 1 (I (150) 1)) (100) 2 (I (150) 2)) (100) 3 (I (150) 3)) (100) 4 (I (150) 4)) (100) 5 (I (150) 5)) (100) 6 (I (150) 6)) (100) 7 (I (150) 7)) (100) 8 (I (150) 8)) (100) 9 (I (150) 9)) 156 = I 156 from by funext zz; simp [u2_v])) j))), (fun j hj => (congrFun ((hkI34.getA 107 rfl)) j).trans ((hcpI33 j hj).trans (congrFun ((((((((hkI32.getA 157 rfl)).trans (hkI31.getA 157 rfl)).trans (hkI30.getA 157 rfl)).trans (hkI29.getA 157 rfl)).trans (hkI28.getA 157 rfl)).trans (hkI27.getA 157 rfl)).trans (show (u2 (u2 (u2 (u2 (u2 (u2 (u2 (u2 (u2 (u2 I (100) 0 (I (150) 0)) (100) 1 (I (150) 1)) (100) 2 (I (150) 2)) (100) 3 (I (150) 3)) (100) 4 (I (150) 4)) (100) 5 (I (150) 5)) (100) 6 (I (150) 6)) (100) 7 (I (150) 7)) (100) 8 (I (150) 8)) (100) 9 (I (150) 9)) 157 = I 157 from by funext zz; simp [u2_v])) j))), (fun j hj => (congrFun (rfl) j).trans ((hcpI34 j hj).trans (congrFun (((((((((hkI33.getA 158 rfl)).trans (hkI32.getA 158 rfl)).trans (hkI31.getA 158 rfl)).trans (hkI30.getA 158 rfl)).trans (hkI29.getA 158 rfl)).trans (hkI28.getA 158 rfl)).trans (hkI27.getA 158 rfl)).trans (show (u2 (u2 (u2 (u2 (u2 (u2 (u2 (u2 (u2 (u2 I (100) 0 (I (150) 0)) (100) 1 (I (150) 1)) (100) 2 (I (150) 2)) (100) 3 (I (150) 3)) (100) 4 (I (150) 4)) (100) 5 (I (150) 5)) (100) 6 (I (150) 6)) (100) 7 (I (150) 7)) (100) 8 (I (150) 8)) (100) 9 (I (150) 9)) 158 = I 158 from by funext zz; simp [u2_v])) j)))⟩⟩ dX8_copyFrom_207
set_option maxHeartbeats 4000000 in
set_option maxRecDepth 20000 in
theorem V_X9_law_f (l : Launch) (D : va_G) (A : Nat → Prop) (ad : Nat → Nat) (ns : List Nat) (I : MI) (L : ML) (G : MG) (hI : INV I) (hC : CW ns I G) : Met l yX9_law (wd yX9_law cX9_law 2 (some .int)) ({ frames := 8, cells := 6, slots := 455, locals := 171 }) (va_Pc [.ref (ad (0))] (PM D A ad ns I L G)) (va_Qi (fun r u => ∃ ad2 ns2 I2 L2 G2, u = (ad2, ns2, I2, L2, G2) ∧ INV I2 ∧ CW ns2 I2 G2 ∧ Ext ns ad ns2 ad2 ∧ (Kp [(71, 73), (200, 300)] [(0, 14), (0, 15), (70, 2), (70, 3), (70, 4), (70, 5), (70, 6), (70, 7), (70, 8), (70, 9), (70, 10), (70, 11), (70, 12)] I I2 ∧ ∀ k, G2 1 k = G 1 k) ∧ ∀ n, 1000 ≤ n → I2 n = I n ∧ G2 n = G n) (BM D A) A) 6 455 A := by
  refine m_ofW (by decide) (Nat.le_of_ble_eq_true rfl) ?_
  intro p e s m below meth c ls args hC hE hM hA hS hl
  obtain ⟨hx, hb, hml, hown, hts, hr, hlocks, hin⟩ := hC
  have km2 : (-2 : Int32).toInt = -2 := by decide
  have km1 : (-1 : Int32).toInt = -1 := by decide
  have k0 : (0 : Int32).toInt = 0 := by decide
  have k1 : (1 : Int32).toInt = 1 := by decide
  have k6 : (6 : Int32).toInt = 6 := by decide
  obtain ⟨hG, hCI, c0, hc, hcl⟩ := id hC
  have hG0 := hG
  obtain ⟨w, hw0⟩ : ∃ z : Nat, z = 200 + 10 * c0 := ⟨_, rfl⟩
  obtain ⟨v, hv⟩ : ∃ z : Nat, z = 200 + 10 * (c0 + 1) := ⟨_, rfl⟩
  have hW : LOK ns G w := by rw [hw0]; exact hcl.2.2.1 c0 (Nat.le_refl c0)
  have hd0 : G 0 13 = w := by rw [hw0]; exact hcl.2.1
  have hK : Kp [(71, 73), (200, 300)] [(0, 14), (0, 15), (70, 2), (70, 3), (70, 4), (70, 5), (70, 6), (70, 7), (70, 8), (70, 9), (70, 10), (70, 11), (70, 12)] I I := Kp.rf
  have hl : lv_has ls 2 [(0, .ref (ad (0)))] := hl
  refine lv_aload_n hx hb dX9_law_0 rfl (lv_at hl 0 rfl) ?_
  refine m_geti (0) 14 hx hb hts hown hE oc9 hM (hG.1 0 (by decide)) rfl (by decide) rfl tb_412 dX9_law_1 ?_
  have g1 := hI.get (0) 14 (lo := 0) (hi := 6) rfl
  refine lv_bipush (v := (6)) hx hb dX9_law_4 (by decide) ?_
  refine lv_icmp_lt (tgt := 11) hx hb dX9_law_6 (by decide) (fun c2 => ?_) (fun c2 => ?_)
  · have hc2 := c2
    have q2 := q_lt hc2
    refine lv_aload_n hx hb dX9_law_11 rfl (lv_at hl 0 rfl) ?_
    refine m_getr (0) 9 (70) hx hb hts hown hE oc9 hM (hG.1 0 (by decide)) rfl (by decide) rfl (hG.2 (0, 9, 70) (by decide)) (by decide) tb_407 dX9_law_12 ?_
    refine lv_aload_n hx hb dX9_law_15 rfl (lv_at hl 0 rfl) ?_
    refine m_getr (0) 11 (3) hx hb hts hown hE oc9 hM (hG.1 0 (by decide)) rfl (by decide) rfl (hG.2 (0, 11, 3) (by decide)) (by decide) tb_409 dX9_law_16 ?_
    refine lv_aload_n hx hb dX9_law_19 rfl (lv_at hl 0 rfl) ?_
    refine m_geti (0) 15 hx hb hts hown hE oc9 hM (hG.1 0 (by decide)) rfl (by decide) rfl tb_413 dX9_law_20 ?_
    have g3 := hI.get (0) 15 (lo := 0) (hi := 400) rfl
    refine lv_aload_n hx hb dX9_law_23 rfl (lv_at hl 0 rfl) ?_
    refine m_getr (0) 13 (w) hx hb hts hown hE oc9 hM (hG.1 0 (by decide)) rfl (by decide) rfl hd0 (by have := lbw hW.1; omega) tb_411 dX9_law_24 ?_
    refine m_calli (m_runV (70) (As := [.ref (ad (3)), .int (I (0) 15), .ref (ad (w))]) (rest := []) hx hb hml hown hts hE hM hS hA ce_X4_read tb_562 (V_X4_read l D A ad ns I L G (w) (I (0) 15) hG hI hW (by first | omega | decide)) rfl rfl ⟨Nat.le_of_ble_eq_true rfl, Nat.le_of_ble_eq_true rfl⟩ (hG.1 70 (by decide)) rfl rfl (by decide) rfl hl.1 rfl (Nat.le_of_ble_eq_true rfl) dX9_law_27 ⟨Nat.le_of_ble_eq_true rfl, Nat.le_of_ble_eq_true rfl⟩) hS (fun r4 u H locs hw hM hS => ?_)
    obtain ⟨I5, L6, rfl, hI, hkI5⟩ := hw
    have hG : SGC ns (u2 G 70 13 w) := sgc_put hG rfl
    have hW : LOK ns (u2 G 70 13 w) w := lok_put hW (by decide)
    have hd0 : u2 G 70 13 w 0 13 = w := by rw [u2_v, if_neg (by decide)]; exact hd0
    have hM : Mem D A ad ns I5 L6 (u2 G 70 13 w) H := hM
    have hK := hK.trans hkI5 rfl
    refine lv_istore_n (lv' := [(1, .int (r4)), (0, .ref (ad (0)))]) hx hb dX9_law_30 rfl hl (by decide) rfl (fun ls hl => ?_)
    refine lv_aload_n hx hb dX9_law_31 rfl (lv_at hl 1 rfl) ?_
    refine lv_iconst (v := (0)) hx hb dX9_law_32 (by decide) ?_
    refine m_puti (0) 15 hx hb hts hown hE oc9 hM hS (hG.1 0 (by decide)) rfl (by decide) rfl rfl rfl rfl tb_413 dX9_law_33 (fun H locs I7 eI7 hM hS => ?_)
    subst eI7
    have hI := hI.put (n := 0) (k := 15) (v := 0) (lo := 0) (hi := 400) rfl (by first | omega | decide)
    have hK := hK.put (n := 0) (k := 15) (v := 0) (by first | rfl | simp [inR])
    refine lv_iload_n hx hb dX9_law_36 rfl (lv_at hl 0 rfl) ?_
    refine lv_if_eq (tgt := 45) hx hb dX9_law_37 (by decide) (fun c8 => ?_) (fun c8 => ?_)
    · have hc8 := c8
      have q8 := q_eq hc8
      refine lv_aload_n hx hb dX9_law_45 rfl (lv_at hl 1 rfl) ?_
      refine m_getr (0) 10 (2) hx hb hts hown hE oc9 hM (hG.1 0 (by decide)) rfl (by decide) rfl (hG.2 (0, 10, 2) (by decide)) (by decide) tb_408 dX9_law_46 ?_
      refine lv_aload_n hx hb dX9_law_49 rfl (lv_at hl 1 rfl) ?_
      refine m_geti (0) 14 hx hb hts hown hE oc9 hM (hG.1 0 (by decide)) rfl (by decide) rfl tb_412 dX9_law_50 ?_
      have g9 := hI.get (0) 14 (lo := 0) (hi := 6) rfl
      have z10 : (u2 I5 (0) 15 (0)) (0) 14 = I (0) 14 := ((show (u2 I5 (0) 15 (0)) (0) 14 = I5 (0) 14 from by simp [u2_v])).trans (hkI5.get (0) 14 rfl)
      rw [z10] at g9 ⊢
      refine lv_aload_n hx hb dX9_law_53 rfl (lv_at hl 1 rfl) ?_
      refine m_getr (0) 13 (w) hx hb hts hown hE oc9 hM (hG.1 0 (by decide)) rfl (by decide) rfl hd0 (by have := lbw hW.1; omega) tb_411 dX9_law_54 ?_
      refine m_aast (2) (w) hx hb hE hM hS (hG.1 2 (by decide)) rfl hW.l (by have := lbw hW.1; omega) (kW _ hW.1).1 (by decide) (vp_in_iff.mpr (by omega)) dX9_law_57 (fun H locs G11 eG11 hM hS => ?_)
      subst eG11
      have hG : SGC ns (u2 (u2 G 70 13 w) 2 (I (0) 14).toNatClampNeg (w)) := sgc_putn hG (by decide)
      refine lv_aload_n hx hb dX9_law_58 rfl (lv_at hl 1 rfl) ?_
      have hc6 : c0 < 6 := by omega
      have hvB : v ∈ lB := by rw [hv]; exact lB_j (by omega)
      have fv : ∀ i, i < 6 → v + i ∉ ns := fun i hi => by rw [hv]; exact hcl.2.2.2.2 (c0 + 1) (by omega) (by omega) i hi
      have hcc : (I 0 14).toNatClampNeg = c0 := tn_n hc
      refine m_new (v) hx hb hts hown hE oc3 hM hS hA (fv 0 (by decide)) (by have := lbw hvB; omega) (kW _ hvB).1 df3 tb_362 tb_364 tb_10 (Nat.le_of_ble_eq_true rfl) (Nat.le_of_ble_eq_true rfl) dX9_law_59 (fun H ad1 had hM hS => ?_)
      rw [← had (0) (hG.1 0 (by decide))] at hl
      rw [← had (0) (hG.1 0 (by decide))]
      refine lv_dup hx hb dX9_law_62 rfl ?_
      refine m_callv (m_runIN (v) (As := []) (rest := [.ref (ad1 (v)), .ref (ad1 (0))]) hx hb hml hown hts hE hM hS hA ce_X3_init (List.mem_of_getElem? (i := 4) rfl) (C_X3_init l D A ad1 (ns ++ [v]) (u2 I5 (0) 15 (0)) L6 (u2 (u2 G 70 13 w) 2 (I (0) 14).toNatClampNeg (w)) (v) (List.mem_append_right _ (List.mem_singleton.mpr rfl)) hvB (nin1 (fv 1 (by decide)) (by omega)) (nin1 (fv 2 (by decide)) (by omega)) (nin1 (fv 3 (by decide)) (by omega)) (nin1 (fv 4 (by decide)) (by omega)) (nin1 (fv 5 (by decide)) (by omega))) rfl rfl ⟨Nat.le_of_ble_eq_true rfl, Nat.le_of_ble_eq_true rfl⟩  rfl hl.1 rfl (Nat.le_of_ble_eq_true rfl) dX9_law_63 ⟨Nat.le_of_ble_eq_true rfl, Nat.le_of_ble_eq_true rfl⟩) hS (fun u H locs hw hM hS => ?_)
      obtain ⟨ad2, rfl, had2⟩ := hw
      obtain ⟨nsv, ensv⟩ : ∃ z : List Nat, z = ((((((ns ++ [v]) ++ [v + 1]) ++ [v + 2]) ++ [v + 3]) ++ [v + 4]) ++ [v + 5]) := ⟨_, rfl⟩
      obtain ⟨Gv, eGv⟩ : ∃ z : MG, z = (u2 (u2 (u2 (u2 (u2 (u2 (u2 G 70 13 w) 2 (I (0) 14).toNatClampNeg (w)) (v) 0 (v + 1)) (v) 1 (v + 2)) (v) 2 (v + 3)) (v) 3 (v + 4)) (v) 4 (v + 5)) := ⟨_, rfl⟩
      have hM : Mem D A ad2 nsv (u2 I5 (0) 15 (0)) L6 Gv H := by rw [ensv, eGv]; exact hM
      have hnsv : ∀ x, x ∈ nsv ↔ x ∈ ns ∨ (v ≤ x ∧ x < v + 6) := by intro x; rw [ensv]; by_cases hx : x ∈ ns <;> simp only [List.mem_append, List.mem_singleton, hx, true_or, false_or, iff_self] <;> omega
      have hext : Ext ns ad nsv ad2 := fun x hx => ⟨(hnsv x).mpr (Or.inl hx), (had2 x (List.mem_append_left _ hx)).trans (had x hx)⟩
      rw [← had2 (0) (List.mem_append_left _ (hG.1 0 (by decide)))] at hl
      rw [← had2 (v) (List.mem_append_right _ (List.mem_singleton.mpr rfl))]
      rw [← had2 (0) (List.mem_append_left _ (hG.1 0 (by decide)))]
      refine m_putr (0) 13 (v) hx hb hts hown hE oc9 hM hS ((hnsv 0).mpr (Or.inl (hG0.1 0 (by decide)))) rfl (by decide) rfl (by have := lbw hvB; omega) ((hnsv (v)).mpr (Or.inr (by omega))) rfl rfl rfl tb_411 dX9_law_66 (fun H locs G13 eG13 hM hS => ?_)
      subst eG13
      refine lv_aload_n hx hb dX9_law_69 rfl (lv_at hl 1 rfl) ?_
      refine lv_dup hx hb dX9_law_70 rfl ?_
      refine m_geti (0) 14 hx hb hts hown hE oc9 hM ((hnsv 0).mpr (Or.inl (hG0.1 0 (by decide)))) rfl (by decide) rfl tb_412 dX9_law_71 ?_
      have z14 : (u2 I5 (0) 15 (0)) (0) 14 = I (0) 14 := ((show (u2 I5 (0) 15 (0)) (0) 14 = I5 (0) 14 from by simp [u2_v])).trans (hkI5.get (0) 14 rfl)
      rw [z14]
      refine lv_iconst (v := (1)) hx hb dX9_law_74 (by decide) ?_
      refine lv_iadd hx hb dX9_law_75 ?_
      refine lv_topi (fun v15 ev15 => ?_)
      have tv15 := a_add ev15 (by omega) (by omega)
      refine m_puti (0) 14 hx hb hts hown hE oc9 hM hS ((hnsv 0).mpr (Or.inl (hG0.1 0 (by decide)))) rfl (by decide) rfl rfl rfl rfl tb_412 dX9_law_76 (fun H locs I16 eI16 hM hS => ?_)
      subst eI16
      have hI := hI.put (n := 0) (k := 14) (v := v15) (lo := 0) (hi := 6) rfl (by first | omega | decide)
      have hK := hK.put (n := 0) (k := 14) (v := v15) (by first | rfl | simp [inR])
      refine lv_aload_n hx hb dX9_law_79 rfl (lv_at hl 1 rfl) ?_
      refine m_geti (0) 14 hx hb hts hown hE oc9 hM ((hnsv 0).mpr (Or.inl (hG0.1 0 (by decide)))) rfl (by decide) rfl tb_412 dX9_law_80 ?_
      have g17 := hI.get (0) 14 (lo := 0) (hi := 6) rfl
      have z18 : (u2 (u2 I5 (0) 15 (0)) (0) 14 (v15)) (0) 14 = v15 := (show (u2 (u2 I5 (0) 15 (0)) (0) 14 (v15)) (0) 14 = v15 from by simp [u2_v])
      rw [z18] at g17 ⊢
      refine lv_iconst (v := (1)) hx hb dX9_law_83 (by decide) ?_
      refine lv_isub hx hb dX9_law_84 ?_
      refine lv_topi (fun v19 ev19 => ?_)
      have tv19 := a_sub ev19 (by omega) (by omega)
      have hga : ∀ n k, ¬ (n = 70 ∧ k = 13) → ¬ (n = 2 ∧ k = c0) → ¬ (n = 0 ∧ k = 13) → n ≠ v → u2 Gv 0 13 v n k = G n k := fun n k h1 h2 h3 h4 => by rw [u2_v, if_neg h3, eGv, u2_ne _ _ _ h4, u2_ne _ _ _ h4, u2_ne _ _ _ h4, u2_ne _ _ _ h4, u2_ne _ _ _ h4, u2_v, if_neg (by rw [hcc]; exact h2), u2_v, if_neg h1]
      have h2v : 2 ≠ v := by omega
      have h0v : v ≠ 0 := by omega
      have hgb : u2 Gv 0 13 v 2 c0 = 200 + 10 * c0 := by rw [u2_v, if_neg (by omega), eGv, u2_ne _ _ _ h2v, u2_ne _ _ _ h2v, u2_ne _ _ _ h2v, u2_ne _ _ _ h2v, u2_ne _ _ _ h2v, u2_v, if_pos ⟨rfl, hcc.symm⟩, hw0]
      have hgc : ∀ k, k < 5 → u2 Gv 0 13 v v k = v + 1 + k := by
        intro k hk
        rw [u2_ne _ _ _ h0v, eGv]
        rcases (show k = 0 ∨ k = 1 ∨ k = 2 ∨ k = 3 ∨ k = 4 by omega) with rfl | rfl | rfl | rfl | rfl <;> simp [u2_v] <;> omega
      exact m_iret hx hb hr hlocks hM hS (Nat.le_of_ble_eq_true rfl) (Nat.le_of_ble_eq_true rfl) ⟨_, _, _, _, _, rfl, hI, cw_law (I := I) hv hc6 hG0 hCI hcl (by rw [u2_self]; omega) hga (u2_self _ _ _ _) hgb hgc hnsv, hext, ⟨hK, fun k => hga 1 k (by omega) (by omega) (by omega) (by omega)⟩, fun n hn => ⟨hK.out rfl n hn, funext fun k => hga n k (by omega) (by omega) (by omega) (by omega)⟩⟩ dX9_law_85
    · have hc8 := c8
      have q8 := q_ne hc8
      refine lv_bipush (v := (-2)) hx hb dX9_law_40 (by decide) ?_
      refine lv_iload_n hx hb dX9_law_42 rfl (lv_at hl 0 rfl) ?_
      refine lv_isub hx hb dX9_law_43 ?_
      refine lv_topi (fun v20 ev20 => ?_)
      exact m_iret hx hb hr hlocks hM hS (Nat.le_of_ble_eq_true rfl) (Nat.le_of_ble_eq_true rfl) ⟨_, _, _, _, _, rfl, hI, cw_70 hC (((show (u2 I5 (0) 15 (0)) (0) 14 = I5 (0) 14 from by simp [u2_v])).trans (hkI5.get (0) 14 rfl)), Ext.rf, ⟨hK, fun k => by rw [u2_ne _ _ _ (by decide)]⟩, fun n hn => ⟨hK.out rfl n hn, u2_ne _ _ _ (by omega)⟩⟩ dX9_law_44
  · have hc2 := c2
    have q2 := q_nlt hc2
    refine lv_iconst (v := (-1)) hx hb dX9_law_9 (by decide) ?_
    exact m_iret hx hb hr hlocks hM hS (Nat.le_of_ble_eq_true rfl) (Nat.le_of_ble_eq_true rfl) ⟨_, _, _, _, _, rfl, hI, hC, Ext.rf, ⟨Kp.rf, fun _ => rfl⟩, fun n _ => ⟨rfl, rfl⟩⟩ dX9_law_10
set_option maxHeartbeats 4000000 in
set_option maxRecDepth 20000 in
theorem V_X9_image_f (l : Launch) (D : va_G) (A : Nat → Prop) (ad : Nat → Nat) (ns : List Nat) (I : MI) (L : ML) (G : MG) (a0 : Int32) (hI : INV I) (hC : CW ns I G) : Met l yX9_image (wd yX9_image cX9_image 3 (some .int)) ({ frames := 2, cells := 9, slots := 3194, locals := 61 }) (va_Pc [.ref (ad (0)), .int a0] (PM D A ad ns I L G)) (va_Qi (fun r u => ∃ ad2 ns2 I2 L2 G2, u = (ad2, ns2, I2, L2, G2) ∧ INV I2 ∧ CW ns2 I2 G2 ∧ Ext ns ad ns2 ad2 ∧ IMGX G G2 I I2 r a0 ∧ ∀ n, 1000 ≤ n → I2 n = I n ∧ G2 n = G n) (BM D A) A) 9 3194 A := by
  refine m_ofW (by decide) (Nat.le_of_ble_eq_true rfl) ?_
  intro p e s m below meth c ls args hC hE hM hA hS hl
  obtain ⟨hx, hb, hml, hown, hts, hr, hlocks, hin⟩ := hC
  have km1 : (-1 : Int32).toInt = -1 := by decide
  have k0 : (0 : Int32).toInt = 0 := by decide
  have k3 : (3 : Int32).toInt = 3 := by decide
  obtain ⟨hG, hCI, c0, hc, hcl⟩ := id hC
  have hG0 := hG
  have hK : Kp [(121, 129), (131, 139), (141, 149), (151, 159)] [(120, 0), (120, 1), (120, 2), (120, 3), (120, 4), (120, 5), (120, 6), (120, 7), (120, 8), (120, 9), (130, 0), (130, 1), (130, 2), (130, 3), (130, 4), (130, 5), (130, 6), (130, 7), (130, 8), (130, 9), (140, 0), (140, 1), (140, 2), (140, 3), (140, 4), (140, 5), (140, 6), (140, 7), (140, 8), (140, 9), (150, 0), (150, 1), (150, 2), (150, 3), (150, 4), (150, 5), (150, 6), (150, 7), (150, 8), (150, 9)] I I := Kp.rf
  have hl : lv_has ls 3 [(0, .ref (ad (0))), (1, .int (a0))] := hl
  refine lv_iload_n hx hb dX9_image_0 rfl (lv_at hl 1 rfl) ?_
  refine lv_iconst (v := (0)) hx hb dX9_image_1 (by decide) ?_
  refine lv_iconst (v := (3)) hx hb dX9_image_2 (by decide) ?_
  refine m_calli (m_runS (As := [.int (a0), .int (0), .int (3)]) (rest := []) hx hb hml hown hts hE hM hS hA ce_X9_isWithin tb_451 (V_X9_isWithin l D A ad ns I L G (a0) (0) (3) hI) rfl rfl ⟨Nat.le_of_ble_eq_true rfl, Nat.le_of_ble_eq_true rfl⟩  rfl hl.1 rfl (Nat.le_of_ble_eq_true rfl) dX9_image_3 ⟨Nat.le_of_ble_eq_true rfl, Nat.le_of_ble_eq_true rfl⟩) hS (fun r1 u H locs hw hM hS => ?_)
  obtain ⟨rfl, xr1⟩ := hw
  have hM : Mem D A ad ns I L G H := hM
  have yr1 := bo01 xr1
  refine lv_if_eq (tgt := 19) hx hb dX9_image_6 (by decide) (fun c2 => ?_) (fun c2 => ?_)
  · have hc2 := c2
    have q2 := xr1.f hc2
    refine lv_iconst (v := (-1)) hx hb dX9_image_19 (by decide) ?_
    exact m_iret hx hb hr hlocks hM hS (Nat.le_of_ble_eq_true rfl) (Nat.le_of_ble_eq_true rfl) ⟨_, _, _, _, _, rfl, hI, hC, Ext.rf, Or.inr ⟨by omega, rfl, rfl, rfl⟩, fun n _ => ⟨rfl, rfl⟩⟩ dX9_image_20
  · have hc2 := c2
    have q2 := xr1.t hc2
    refine lv_aload_n hx hb dX9_image_9 rfl (lv_at hl 0 rfl) ?_
    refine m_getr (0) 0 (100) hx hb hts hown hE oc9 hM (hG.1 0 (by decide)) rfl (by decide) rfl (hG.2 (0, 0, 100) (by decide)) (by decide) tb_398 dX9_image_10 ?_
    refine m_calli (m_runV (100) (As := []) (rest := []) hx hb hml hown hts hE hM hS hA ce_X8_isBegun tb_484 (V_X8_isBegun_100 l D A ad ns I L G hG hI) rfl rfl ⟨Nat.le_of_ble_eq_true rfl, Nat.le_of_ble_eq_true rfl⟩ (hG.1 100 (by decide)) rfl rfl (by decide) rfl hl.1 rfl (Nat.le_of_ble_eq_true rfl) dX9_image_13 ⟨Nat.le_of_ble_eq_true rfl, Nat.le_of_ble_eq_true rfl⟩) hS (fun r3 u H locs hw hM hS => ?_)
    obtain ⟨rfl, xr3⟩ := hw
    have hM : Mem D A ad ns I L G H := hM
    have yr3 := bo01 xr3
    refine lv_if_ne (tgt := 21) hx hb dX9_image_16 (by decide) (fun c4 => ?_) (fun c4 => ?_)
    · have hc4 := c4
      have q4 := xr3.t hc4
      refine lv_aload_n hx hb dX9_image_21 rfl (lv_at hl 0 rfl) ?_
      refine m_getr (0) 2 (1) hx hb hts hown hE oc9 hM (hG.1 0 (by decide)) rfl (by decide) rfl (hG.2 (0, 2, 1) (by decide)) (by decide) tb_400 dX9_image_22 ?_
      refine lv_iload_n hx hb dX9_image_25 rfl (lv_at hl 1 rfl) ?_
      refine m_aald (1) hx hb hE hM (hG.1 1 (by decide)) rfl (by decide) (vp_in_iff.mpr (by omega)) dX9_image_26 ?_
      have hk4 : (a0).toInt = 0 ∨ (a0).toInt = 1 ∨ (a0).toInt = 2 ∨ (a0).toInt = 3 := by omega
      rcases hk4 with hk4 | hk4 | hk4 | hk4
      · have hkk := tn_n (i := a0) (n := 0) (by omega)
        rw [hkk]
        rcases hCI 0 (by decide) with ⟨hz, hz2⟩ | ⟨hz, hT⟩
        · rw [show rn ad (G 1 0) = none from by rw [hz]; rfl]
          have fv : ∀ i, i < 9 → 120 + i ∉ ns := fun i hi => hz2 i hi
          refine lv_astore_nN (lv' := [(2, .null), (0, .ref (ad (0))), (1, .int (a0))]) hx hb dX9_image_27 rfl hl (by decide) rfl (fun ls hl => ?_)
          refine lv_aload_nN hx hb dX9_image_28 rfl (lv_at hl 0 rfl) ?_
          refine lv_ifnonnullN hx hb dX9_image_29 ?_
          refine m_new (120) hx hb hts hown hE oc8 hM hS hA (fv 0 (by decide)) (by decide) rfl df8 tb_28 tb_29 tb_2 (Nat.le_of_ble_eq_true rfl) (Nat.le_of_ble_eq_true rfl) dX9_image_32 (fun H ad1 had hM hS => ?_)
          rw [← had (0) (hG.1 0 (by decide))] at hl
          refine lv_dup hx hb dX9_image_35 rfl ?_
          refine m_callv (m_runIN (120) (As := []) (rest := [.ref (ad1 (120))]) hx hb hml hown hts hE hM hS hA ce_X8_init (List.mem_of_getElem? (i := 0) rfl) (C_X8_init l D A ad1 (ns ++ [120]) I L G (120) (List.mem_append_right _ (List.mem_singleton.mpr rfl)) (by decide) (nin1 (fv 1 (by decide)) (by omega)) (nin1 (fv 2 (by decide)) (by omega)) (nin1 (fv 3 (by decide)) (by omega)) (nin1 (fv 4 (by decide)) (by omega)) (nin1 (fv 5 (by decide)) (by omega)) (nin1 (fv 6 (by decide)) (by omega)) (nin1 (fv 7 (by decide)) (by omega)) (nin1 (fv 8 (by decide)) (by omega))) rfl rfl ⟨Nat.le_of_ble_eq_true rfl, Nat.le_of_ble_eq_true rfl⟩  rfl hl.1 rfl (Nat.le_of_ble_eq_true rfl) dX9_image_36 ⟨Nat.le_of_ble_eq_true rfl, Nat.le_of_ble_eq_true rfl⟩) hS (fun u H locs hw hM hS => ?_)
          obtain ⟨ad2, rfl, had2⟩ := hw
          obtain ⟨nsv, ensv⟩ : ∃ z : List Nat, z = (((((((((ns ++ [120]) ++ [120 + 1]) ++ [120 + 2]) ++ [120 + 3]) ++ [120 + 4]) ++ [120 + 5]) ++ [120 + 6]) ++ [120 + 7]) ++ [120 + 8]) := ⟨_, rfl⟩
          obtain ⟨Gv, eGv⟩ : ∃ z : MG, z = (u2 (u2 (u2 (u2 (u2 (u2 (u2 (u2 G (120) 10 (120 + 1)) (120) 11 (120 + 2)) (120) 12 (120 + 3)) (120) 13 (120 + 4)) (120) 14 (120 + 5)) (120) 15 (120 + 6)) (120) 16 (120 + 7)) (120) 17 (120 + 8)) := ⟨_, rfl⟩
          have hM : Mem D A ad2 nsv I L Gv H := by rw [ensv, eGv]; exact hM
          have hnsv : ∀ x, x ∈ nsv ↔ x ∈ ns ∨ (120 ≤ x ∧ x < 120 + 9) := by intro x; rw [ensv]; by_cases hx : x ∈ ns <;> simp only [List.mem_append, List.mem_singleton, hx, true_or, false_or, iff_self] <;> omega
          have hext : Ext ns ad nsv ad2 := fun x hx => ⟨(hnsv x).mpr (Or.inl hx), (had2 x (List.mem_append_left _ hx)).trans (had x hx)⟩
          rw [← had2 (0) (List.mem_append_left _ (hG.1 0 (by decide)))] at hl
          rw [← had2 (120) (List.mem_append_right _ (List.mem_singleton.mpr rfl))]
          have hG : SGC nsv Gv := ⟨fun n hn => (hnsv n).mpr (Or.inl (hG0.1 n hn)), fun t ht => by rw [eGv]; have := feC_r t ht; rw [u2_ne _ _ _ (by omega), u2_ne _ _ _ (by omega), u2_ne _ _ _ (by omega), u2_ne _ _ _ (by omega), u2_ne _ _ _ (by omega), u2_ne _ _ _ (by omega), u2_ne _ _ _ (by omega), u2_ne _ _ _ (by omega)]; exact hG0.2 t ht⟩
          refine lv_astore_n (lv' := [(2, .ref (ad2 (120))), (0, .ref (ad2 (0))), (1, .int (a0))]) hx hb dX9_image_39 rfl hl (by decide) rfl (fun ls hl => ?_)
          refine lv_aload_n hx hb dX9_image_40 rfl (lv_at hl 1 rfl) ?_
          refine m_getr (0) 2 (1) hx hb hts hown hE oc9 hM ((hnsv 0).mpr (Or.inl (hG0.1 0 (by decide)))) rfl (by decide) rfl (hG.2 (0, 2, 1) (by decide)) (by decide) tb_400 dX9_image_41 ?_
          refine lv_iload_n hx hb dX9_image_44 rfl (lv_at hl 2 rfl) ?_
          refine lv_aload_n hx hb dX9_image_45 rfl (lv_at hl 0 rfl) ?_
          refine m_aast (1) (120) hx hb hE hM hS (hG.1 1 (by decide)) rfl ((hnsv (120)).mpr (Or.inr (by omega))) (by decide) rfl (by decide) (vp_in_iff.mpr (by omega)) dX9_image_46 (fun H locs G5 eG5 hM hS => ?_)
          subst eG5
          rw [hkk] at hM
          have hG : SGC nsv (u2 Gv 1 0 120) := sgc_putn hG (by decide)
          have hgb : ∀ j, j < 8 → u2 Gv 1 0 120 120 (10 + j) = 120 + 1 + j := by
            intro j hj
            rw [u2_ne _ _ _ (by decide), eGv]
            rcases (show j = 0 ∨ j = 1 ∨ j = 2 ∨ j = 3 ∨ j = 4 ∨ j = 5 ∨ j = 6 ∨ j = 7 by omega) with rfl | rfl | rfl | rfl | rfl | rfl | rfl | rfl <;> simp [u2_v]
          have hT : TOK nsv (u2 Gv 1 0 120) 120 := ⟨by decide, fun j hj => (hnsv _).mpr (Or.inr (by omega)), hgb⟩
          refine lv_aload_n hx hb dX9_image_47 rfl (lv_at hl 0 rfl) ?_
          refine lv_aload_n hx hb dX9_image_48 rfl (lv_at hl 1 rfl) ?_
          refine m_getr (0) 0 (100) hx hb hts hown hE oc9 hM ((hnsv 0).mpr (Or.inl (hG0.1 0 (by decide)))) rfl (by decide) rfl (hG.2 (0, 0, 100) (by decide)) (by decide) tb_398 dX9_image_49 ?_
          refine m_callv (m_runV (120) (As := [.ref (ad2 (100))]) (rest := []) hx hb hml hown hts hE hM hS hA ce_X8_copyFrom tb_1147 (V_X8_copyFrom_120_100_f l D A ad2 nsv I L (u2 Gv 1 0 120) hG hI hT) rfl rfl ⟨Nat.le_of_ble_eq_true rfl, Nat.le_of_ble_eq_true rfl⟩ ((hnsv (120)).mpr (Or.inr (by omega))) rfl rfl (by decide) rfl hl.1 rfl (Nat.le_of_ble_eq_true rfl) dX9_image_52 ⟨Nat.le_of_ble_eq_true rfl, Nat.le_of_ble_eq_true rfl⟩) hS (fun u H locs hw hM hS => ?_)
          obtain ⟨I6, L7, rfl, hI, hkI6, xI6⟩ := hw
          have hM : Mem D A ad2 nsv I6 L7 (u2 Gv 1 0 120) H := hM
          have hK := hK.trans hkI6 rfl
          refine lv_aload_n hx hb dX9_image_55 rfl (lv_at hl 1 rfl) ?_
          refine m_getr (0) 0 (100) hx hb hts hown hE oc9 hM ((hnsv 0).mpr (Or.inl (hG0.1 0 (by decide)))) rfl (by decide) rfl (hG.2 (0, 0, 100) (by decide)) (by decide) tb_398 dX9_image_56 ?_
          refine m_geti (100) 6 hx hb hts hown hE oc8 hM (hG.1 100 (by decide)) rfl (by decide) rfl tb_56 dX9_image_59 ?_
          have z8 : I6 (100) 6 = I (100) 6 := (hkI6.get (100) 6 rfl)
          rw [z8]
          have hga : ∀ n k, ¬ (n = 1 ∧ k = 0) → n ≠ 120 → u2 Gv 1 0 120 n k = G n k := fun n k h1 h4 => by rw [u2_v, if_neg h1, eGv, u2_ne _ _ _ h4, u2_ne _ _ _ h4, u2_ne _ _ _ h4, u2_ne _ _ _ h4, u2_ne _ _ _ h4, u2_ne _ _ _ h4, u2_ne _ _ _ h4, u2_ne _ _ _ h4]
          exact m_iret hx hb hr hlocks hM hS (Nat.le_of_ble_eq_true rfl) (Nat.le_of_ble_eq_true rfl) ⟨_, _, _, _, _, rfl, hI, cw_img (kk := 0) (b := 120) rfl (by decide) hC ((hkI6.get (0) 14 rfl)) hga (u2_self _ _ _ _) hgb hnsv, hext, Or.inl ⟨by omega, rfl, 0, by omega, u2_self _ _ _ _, xI6, hkI6.apart 120 129 rfl, fun j hj => hga 1 j (by omega) (by decide)⟩, fun n hn => ⟨hK.out rfl n hn, funext fun k => hga n k (by omega) (by omega)⟩⟩ dX9_image_62
        · rw [show rn ad (G 1 0) = some (ad 120) from by rw [hz]; rfl]
          refine lv_astore_n (lv' := [(2, .ref (ad (120))), (0, .ref (ad (0))), (1, .int (a0))]) hx hb dX9_image_27 rfl hl (by decide) rfl (fun ls hl => ?_)
          refine lv_aload_n hx hb dX9_image_28 rfl (lv_at hl 0 rfl) ?_
          refine lv_ifnonnull (tgt := 47) hx hb dX9_image_29 (by decide) ?_
          refine lv_aload_n hx hb dX9_image_47 rfl (lv_at hl 0 rfl) ?_
          refine lv_aload_n hx hb dX9_image_48 rfl (lv_at hl 1 rfl) ?_
          refine m_getr (0) 0 (100) hx hb hts hown hE oc9 hM (hG.1 0 (by decide)) rfl (by decide) rfl (hG.2 (0, 0, 100) (by decide)) (by decide) tb_398 dX9_image_49 ?_
          refine m_callv (m_runV (120) (As := [.ref (ad (100))]) (rest := []) hx hb hml hown hts hE hM hS hA ce_X8_copyFrom tb_1147 (V_X8_copyFrom_120_100_f l D A ad ns I L G hG hI hT) rfl rfl ⟨Nat.le_of_ble_eq_true rfl, Nat.le_of_ble_eq_true rfl⟩ (hT.2.1 0 (by decide)) rfl rfl (by decide) rfl hl.1 rfl (Nat.le_of_ble_eq_true rfl) dX9_image_52 ⟨Nat.le_of_ble_eq_true rfl, Nat.le_of_ble_eq_true rfl⟩) hS (fun u H locs hw hM hS => ?_)
          obtain ⟨I9, L10, rfl, hI, hkI9, xI9⟩ := hw
          have hM : Mem D A ad ns I9 L10 G H := hM
          have hK := hK.trans hkI9 rfl
          refine lv_aload_n hx hb dX9_image_55 rfl (lv_at hl 1 rfl) ?_
          refine m_getr (0) 0 (100) hx hb hts hown hE oc9 hM (hG.1 0 (by decide)) rfl (by decide) rfl (hG.2 (0, 0, 100) (by decide)) (by decide) tb_398 dX9_image_56 ?_
          refine m_geti (100) 6 hx hb hts hown hE oc8 hM (hG.1 100 (by decide)) rfl (by decide) rfl tb_56 dX9_image_59 ?_
          have z11 : I9 (100) 6 = I (100) 6 := (hkI9.get (100) 6 rfl)
          rw [z11]
          exact m_iret hx hb hr hlocks hM hS (Nat.le_of_ble_eq_true rfl) (Nat.le_of_ble_eq_true rfl) ⟨_, _, _, _, _, rfl, hI, cw_keep hC ((hkI9.get (0) 14 rfl)), Ext.rf, Or.inl ⟨by omega, rfl, 0, by omega, hz, xI9, hkI9.apart 120 129 rfl, fun j hj => rfl⟩, fun n hn => ⟨hK.out rfl n hn, rfl⟩⟩ dX9_image_62
      · have hkk := tn_n (i := a0) (n := 1) (by omega)
        rw [hkk]
        rcases hCI 1 (by decide) with ⟨hz, hz2⟩ | ⟨hz, hT⟩
        · rw [show rn ad (G 1 1) = none from by rw [hz]; rfl]
          have fv : ∀ i, i < 9 → 130 + i ∉ ns := fun i hi => hz2 i hi
          refine lv_astore_nN (lv' := [(2, .null), (0, .ref (ad (0))), (1, .int (a0))]) hx hb dX9_image_27 rfl hl (by decide) rfl (fun ls hl => ?_)
          refine lv_aload_nN hx hb dX9_image_28 rfl (lv_at hl 0 rfl) ?_
          refine lv_ifnonnullN hx hb dX9_image_29 ?_
          refine m_new (130) hx hb hts hown hE oc8 hM hS hA (fv 0 (by decide)) (by decide) rfl df8 tb_28 tb_29 tb_2 (Nat.le_of_ble_eq_true rfl) (Nat.le_of_ble_eq_true rfl) dX9_image_32 (fun H ad1 had hM hS => ?_)
          rw [← had (0) (hG.1 0 (by decide))] at hl
          refine lv_dup hx hb dX9_image_35 rfl ?_
          refine m_callv (m_runIN (130) (As := []) (rest := [.ref (ad1 (130))]) hx hb hml hown hts hE hM hS hA ce_X8_init (List.mem_of_getElem? (i := 0) rfl) (C_X8_init l D A ad1 (ns ++ [130]) I L G (130) (List.mem_append_right _ (List.mem_singleton.mpr rfl)) (by decide) (nin1 (fv 1 (by decide)) (by omega)) (nin1 (fv 2 (by decide)) (by omega)) (nin1 (fv 3 (by decide)) (by omega)) (nin1 (fv 4 (by decide)) (by omega)) (nin1 (fv 5 (by decide)) (by omega)) (nin1 (fv 6 (by decide)) (by omega)) (nin1 (fv 7 (by decide)) (by omega)) (nin1 (fv 8 (by decide)) (by omega))) rfl rfl ⟨Nat.le_of_ble_eq_true rfl, Nat.le_of_ble_eq_true rfl⟩  rfl hl.1 rfl (Nat.le_of_ble_eq_true rfl) dX9_image_36 ⟨Nat.le_of_ble_eq_true rfl, Nat.le_of_ble_eq_true rfl⟩) hS (fun u H locs hw hM hS => ?_)
          obtain ⟨ad2, rfl, had2⟩ := hw
          obtain ⟨nsv, ensv⟩ : ∃ z : List Nat, z = (((((((((ns ++ [130]) ++ [130 + 1]) ++ [130 + 2]) ++ [130 + 3]) ++ [130 + 4]) ++ [130 + 5]) ++ [130 + 6]) ++ [130 + 7]) ++ [130 + 8]) := ⟨_, rfl⟩
          obtain ⟨Gv, eGv⟩ : ∃ z : MG, z = (u2 (u2 (u2 (u2 (u2 (u2 (u2 (u2 G (130) 10 (130 + 1)) (130) 11 (130 + 2)) (130) 12 (130 + 3)) (130) 13 (130 + 4)) (130) 14 (130 + 5)) (130) 15 (130 + 6)) (130) 16 (130 + 7)) (130) 17 (130 + 8)) := ⟨_, rfl⟩
          have hM : Mem D A ad2 nsv I L Gv H := by rw [ensv, eGv]; exact hM
          have hnsv : ∀ x, x ∈ nsv ↔ x ∈ ns ∨ (130 ≤ x ∧ x < 130 + 9) := by intro x; rw [ensv]; by_cases hx : x ∈ ns <;> simp only [List.mem_append, List.mem_singleton, hx, true_or, false_or, iff_self] <;> omega
          have hext : Ext ns ad nsv ad2 := fun x hx => ⟨(hnsv x).mpr (Or.inl hx), (had2 x (List.mem_append_left _ hx)).trans (had x hx)⟩
          rw [← had2 (0) (List.mem_append_left _ (hG.1 0 (by decide)))] at hl
          rw [← had2 (130) (List.mem_append_right _ (List.mem_singleton.mpr rfl))]
          have hG : SGC nsv Gv := ⟨fun n hn => (hnsv n).mpr (Or.inl (hG0.1 n hn)), fun t ht => by rw [eGv]; have := feC_r t ht; rw [u2_ne _ _ _ (by omega), u2_ne _ _ _ (by omega), u2_ne _ _ _ (by omega), u2_ne _ _ _ (by omega), u2_ne _ _ _ (by omega), u2_ne _ _ _ (by omega), u2_ne _ _ _ (by omega), u2_ne _ _ _ (by omega)]; exact hG0.2 t ht⟩
          refine lv_astore_n (lv' := [(2, .ref (ad2 (130))), (0, .ref (ad2 (0))), (1, .int (a0))]) hx hb dX9_image_39 rfl hl (by decide) rfl (fun ls hl => ?_)
          refine lv_aload_n hx hb dX9_image_40 rfl (lv_at hl 1 rfl) ?_
          refine m_getr (0) 2 (1) hx hb hts hown hE oc9 hM ((hnsv 0).mpr (Or.inl (hG0.1 0 (by decide)))) rfl (by decide) rfl (hG.2 (0, 2, 1) (by decide)) (by decide) tb_400 dX9_image_41 ?_
          refine lv_iload_n hx hb dX9_image_44 rfl (lv_at hl 2 rfl) ?_
          refine lv_aload_n hx hb dX9_image_45 rfl (lv_at hl 0 rfl) ?_
          refine m_aast (1) (130) hx hb hE hM hS (hG.1 1 (by decide)) rfl ((hnsv (130)).mpr (Or.inr (by omega))) (by decide) rfl (by decide) (vp_in_iff.mpr (by omega)) dX9_image_46 (fun H locs G12 eG12 hM hS => ?_)
          subst eG12
          rw [hkk] at hM
          have hG : SGC nsv (u2 Gv 1 1 130) := sgc_putn hG (by decide)
          have hgb : ∀ j, j < 8 → u2 Gv 1 1 130 130 (10 + j) = 130 + 1 + j := by
            intro j hj
            rw [u2_ne _ _ _ (by decide), eGv]
            rcases (show j = 0 ∨ j = 1 ∨ j = 2 ∨ j = 3 ∨ j = 4 ∨ j = 5 ∨ j = 6 ∨ j = 7 by omega) with rfl | rfl | rfl | rfl | rfl | rfl | rfl | rfl <;> simp [u2_v]
          have hT : TOK nsv (u2 Gv 1 1 130) 130 := ⟨by decide, fun j hj => (hnsv _).mpr (Or.inr (by omega)), hgb⟩
          refine lv_aload_n hx hb dX9_image_47 rfl (lv_at hl 0 rfl) ?_
          refine lv_aload_n hx hb dX9_image_48 rfl (lv_at hl 1 rfl) ?_
          refine m_getr (0) 0 (100) hx hb hts hown hE oc9 hM ((hnsv 0).mpr (Or.inl (hG0.1 0 (by decide)))) rfl (by decide) rfl (hG.2 (0, 0, 100) (by decide)) (by decide) tb_398 dX9_image_49 ?_
          refine m_callv (m_runV (130) (As := [.ref (ad2 (100))]) (rest := []) hx hb hml hown hts hE hM hS hA ce_X8_copyFrom tb_1147 (V_X8_copyFrom_130_100_f l D A ad2 nsv I L (u2 Gv 1 1 130) hG hI hT) rfl rfl ⟨Nat.le_of_ble_eq_true rfl, Nat.le_of_ble_eq_true rfl⟩ ((hnsv (130)).mpr (Or.inr (by omega))) rfl rfl (by decide) rfl hl.1 rfl (Nat.le_of_ble_eq_true rfl) dX9_image_52 ⟨Nat.le_of_ble_eq_true rfl, Nat.le_of_ble_eq_true rfl⟩) hS (fun u H locs hw hM hS => ?_)
          obtain ⟨I13, L14, rfl, hI, hkI13, xI13⟩ := hw
          have hM : Mem D A ad2 nsv I13 L14 (u2 Gv 1 1 130) H := hM
          have hK := hK.trans hkI13 rfl
          refine lv_aload_n hx hb dX9_image_55 rfl (lv_at hl 1 rfl) ?_
          refine m_getr (0) 0 (100) hx hb hts hown hE oc9 hM ((hnsv 0).mpr (Or.inl (hG0.1 0 (by decide)))) rfl (by decide) rfl (hG.2 (0, 0, 100) (by decide)) (by decide) tb_398 dX9_image_56 ?_
          refine m_geti (100) 6 hx hb hts hown hE oc8 hM (hG.1 100 (by decide)) rfl (by decide) rfl tb_56 dX9_image_59 ?_
          have z15 : I13 (100) 6 = I (100) 6 := (hkI13.get (100) 6 rfl)
          rw [z15]
          have hga : ∀ n k, ¬ (n = 1 ∧ k = 1) → n ≠ 130 → u2 Gv 1 1 130 n k = G n k := fun n k h1 h4 => by rw [u2_v, if_neg h1, eGv, u2_ne _ _ _ h4, u2_ne _ _ _ h4, u2_ne _ _ _ h4, u2_ne _ _ _ h4, u2_ne _ _ _ h4, u2_ne _ _ _ h4, u2_ne _ _ _ h4, u2_ne _ _ _ h4]
          exact m_iret hx hb hr hlocks hM hS (Nat.le_of_ble_eq_true rfl) (Nat.le_of_ble_eq_true rfl) ⟨_, _, _, _, _, rfl, hI, cw_img (kk := 1) (b := 130) rfl (by decide) hC ((hkI13.get (0) 14 rfl)) hga (u2_self _ _ _ _) hgb hnsv, hext, Or.inl ⟨by omega, rfl, 1, by omega, u2_self _ _ _ _, xI13, hkI13.apart 130 139 rfl, fun j hj => hga 1 j (by omega) (by decide)⟩, fun n hn => ⟨hK.out rfl n hn, funext fun k => hga n k (by omega) (by omega)⟩⟩ dX9_image_62
        · rw [show rn ad (G 1 1) = some (ad 130) from by rw [hz]; rfl]
          refine lv_astore_n (lv' := [(2, .ref (ad (130))), (0, .ref (ad (0))), (1, .int (a0))]) hx hb dX9_image_27 rfl hl (by decide) rfl (fun ls hl => ?_)
          refine lv_aload_n hx hb dX9_image_28 rfl (lv_at hl 0 rfl) ?_
          refine lv_ifnonnull (tgt := 47) hx hb dX9_image_29 (by decide) ?_
          refine lv_aload_n hx hb dX9_image_47 rfl (lv_at hl 0 rfl) ?_
          refine lv_aload_n hx hb dX9_image_48 rfl (lv_at hl 1 rfl) ?_
          refine m_getr (0) 0 (100) hx hb hts hown hE oc9 hM (hG.1 0 (by decide)) rfl (by decide) rfl (hG.2 (0, 0, 100) (by decide)) (by decide) tb_398 dX9_image_49 ?_
          refine m_callv (m_runV (130) (As := [.ref (ad (100))]) (rest := []) hx hb hml hown hts hE hM hS hA ce_X8_copyFrom tb_1147 (V_X8_copyFrom_130_100_f l D A ad ns I L G hG hI hT) rfl rfl ⟨Nat.le_of_ble_eq_true rfl, Nat.le_of_ble_eq_true rfl⟩ (hT.2.1 0 (by decide)) rfl rfl (by decide) rfl hl.1 rfl (Nat.le_of_ble_eq_true rfl) dX9_image_52 ⟨Nat.le_of_ble_eq_true rfl, Nat.le_of_ble_eq_true rfl⟩) hS (fun u H locs hw hM hS => ?_)
          obtain ⟨I16, L17, rfl, hI, hkI16, xI16⟩ := hw
          have hM : Mem D A ad ns I16 L17 G H := hM
          have hK := hK.trans hkI16 rfl
          refine lv_aload_n hx hb dX9_image_55 rfl (lv_at hl 1 rfl) ?_
          refine m_getr (0) 0 (100) hx hb hts hown hE oc9 hM (hG.1 0 (by decide)) rfl (by decide) rfl (hG.2 (0, 0, 100) (by decide)) (by decide) tb_398 dX9_image_56 ?_
          refine m_geti (100) 6 hx hb hts hown hE oc8 hM (hG.1 100 (by decide)) rfl (by decide) rfl tb_56 dX9_image_59 ?_
          have z18 : I16 (100) 6 = I (100) 6 := (hkI16.get (100) 6 rfl)
          rw [z18]
          exact m_iret hx hb hr hlocks hM hS (Nat.le_of_ble_eq_true rfl) (Nat.le_of_ble_eq_true rfl) ⟨_, _, _, _, _, rfl, hI, cw_keep hC ((hkI16.get (0) 14 rfl)), Ext.rf, Or.inl ⟨by omega, rfl, 1, by omega, hz, xI16, hkI16.apart 130 139 rfl, fun j hj => rfl⟩, fun n hn => ⟨hK.out rfl n hn, rfl⟩⟩ dX9_image_62
      · have hkk := tn_n (i := a0) (n := 2) (by omega)
        rw [hkk]
        rcases hCI 2 (by decide) with ⟨hz, hz2⟩ | ⟨hz, hT⟩
        · rw [show rn ad (G 1 2) = none from by rw [hz]; rfl]
          have fv : ∀ i, i < 9 → 140 + i ∉ ns := fun i hi => hz2 i hi
          refine lv_astore_nN (lv' := [(2, .null), (0, .ref (ad (0))), (1, .int (a0))]) hx hb dX9_image_27 rfl hl (by decide) rfl (fun ls hl => ?_)
          refine lv_aload_nN hx hb dX9_image_28 rfl (lv_at hl 0 rfl) ?_
          refine lv_ifnonnullN hx hb dX9_image_29 ?_
          refine m_new (140) hx hb hts hown hE oc8 hM hS hA (fv 0 (by decide)) (by decide) rfl df8 tb_28 tb_29 tb_2 (Nat.le_of_ble_eq_true rfl) (Nat.le_of_ble_eq_true rfl) dX9_image_32 (fun H ad1 had hM hS => ?_)
          rw [← had (0) (hG.1 0 (by decide))] at hl
          refine lv_dup hx hb dX9_image_35 rfl ?_
          refine m_callv (m_runIN (140) (As := []) (rest := [.ref (ad1 (140))]) hx hb hml hown hts hE hM hS hA ce_X8_init (List.mem_of_getElem? (i := 0) rfl) (C_X8_init l D A ad1 (ns ++ [140]) I L G (140) (List.mem_append_right _ (List.mem_singleton.mpr rfl)) (by decide) (nin1 (fv 1 (by decide)) (by omega)) (nin1 (fv 2 (by decide)) (by omega)) (nin1 (fv 3 (by decide)) (by omega)) (nin1 (fv 4 (by decide)) (by omega)) (nin1 (fv 5 (by decide)) (by omega)) (nin1 (fv 6 (by decide)) (by omega)) (nin1 (fv 7 (by decide)) (by omega)) (nin1 (fv 8 (by decide)) (by omega))) rfl rfl ⟨Nat.le_of_ble_eq_true rfl, Nat.le_of_ble_eq_true rfl⟩  rfl hl.1 rfl (Nat.le_of_ble_eq_true rfl) dX9_image_36 ⟨Nat.le_of_ble_eq_true rfl, Nat.le_of_ble_eq_true rfl⟩) hS (fun u H locs hw hM hS => ?_)
          obtain ⟨ad2, rfl, had2⟩ := hw
          obtain ⟨nsv, ensv⟩ : ∃ z : List Nat, z = (((((((((ns ++ [140]) ++ [140 + 1]) ++ [140 + 2]) ++ [140 + 3]) ++ [140 + 4]) ++ [140 + 5]) ++ [140 + 6]) ++ [140 + 7]) ++ [140 + 8]) := ⟨_, rfl⟩
          obtain ⟨Gv, eGv⟩ : ∃ z : MG, z = (u2 (u2 (u2 (u2 (u2 (u2 (u2 (u2 G (140) 10 (140 + 1)) (140) 11 (140 + 2)) (140) 12 (140 + 3)) (140) 13 (140 + 4)) (140) 14 (140 + 5)) (140) 15 (140 + 6)) (140) 16 (140 + 7)) (140) 17 (140 + 8)) := ⟨_, rfl⟩
          have hM : Mem D A ad2 nsv I L Gv H := by rw [ensv, eGv]; exact hM
          have hnsv : ∀ x, x ∈ nsv ↔ x ∈ ns ∨ (140 ≤ x ∧ x < 140 + 9) := by intro x; rw [ensv]; by_cases hx : x ∈ ns <;> simp only [List.mem_append, List.mem_singleton, hx, true_or, false_or, iff_self] <;> omega
          have hext : Ext ns ad nsv ad2 := fun x hx => ⟨(hnsv x).mpr (Or.inl hx), (had2 x (List.mem_append_left _ hx)).trans (had x hx)⟩
          rw [← had2 (0) (List.mem_append_left _ (hG.1 0 (by decide)))] at hl
          rw [← had2 (140) (List.mem_append_right _ (List.mem_singleton.mpr rfl))]
          have hG : SGC nsv Gv := ⟨fun n hn => (hnsv n).mpr (Or.inl (hG0.1 n hn)), fun t ht => by rw [eGv]; have := feC_r t ht; rw [u2_ne _ _ _ (by omega), u2_ne _ _ _ (by omega), u2_ne _ _ _ (by omega), u2_ne _ _ _ (by omega), u2_ne _ _ _ (by omega), u2_ne _ _ _ (by omega), u2_ne _ _ _ (by omega), u2_ne _ _ _ (by omega)]; exact hG0.2 t ht⟩
          refine lv_astore_n (lv' := [(2, .ref (ad2 (140))), (0, .ref (ad2 (0))), (1, .int (a0))]) hx hb dX9_image_39 rfl hl (by decide) rfl (fun ls hl => ?_)
          refine lv_aload_n hx hb dX9_image_40 rfl (lv_at hl 1 rfl) ?_
          refine m_getr (0) 2 (1) hx hb hts hown hE oc9 hM ((hnsv 0).mpr (Or.inl (hG0.1 0 (by decide)))) rfl (by decide) rfl (hG.2 (0, 2, 1) (by decide)) (by decide) tb_400 dX9_image_41 ?_
          refine lv_iload_n hx hb dX9_image_44 rfl (lv_at hl 2 rfl) ?_
          refine lv_aload_n hx hb dX9_image_45 rfl (lv_at hl 0 rfl) ?_
          refine m_aast (1) (140) hx hb hE hM hS (hG.1 1 (by decide)) rfl ((hnsv (140)).mpr (Or.inr (by omega))) (by decide) rfl (by decide) (vp_in_iff.mpr (by omega)) dX9_image_46 (fun H locs G19 eG19 hM hS => ?_)
          subst eG19
          rw [hkk] at hM
          have hG : SGC nsv (u2 Gv 1 2 140) := sgc_putn hG (by decide)
          have hgb : ∀ j, j < 8 → u2 Gv 1 2 140 140 (10 + j) = 140 + 1 + j := by
            intro j hj
            rw [u2_ne _ _ _ (by decide), eGv]
            rcases (show j = 0 ∨ j = 1 ∨ j = 2 ∨ j = 3 ∨ j = 4 ∨ j = 5 ∨ j = 6 ∨ j = 7 by omega) with rfl | rfl | rfl | rfl | rfl | rfl | rfl | rfl <;> simp [u2_v]
          have hT : TOK nsv (u2 Gv 1 2 140) 140 := ⟨by decide, fun j hj => (hnsv _).mpr (Or.inr (by omega)), hgb⟩
          refine lv_aload_n hx hb dX9_image_47 rfl (lv_at hl 0 rfl) ?_
          refine lv_aload_n hx hb dX9_image_48 rfl (lv_at hl 1 rfl) ?_
          refine m_getr (0) 0 (100) hx hb hts hown hE oc9 hM ((hnsv 0).mpr (Or.inl (hG0.1 0 (by decide)))) rfl (by decide) rfl (hG.2 (0, 0, 100) (by decide)) (by decide) tb_398 dX9_image_49 ?_
          refine m_callv (m_runV (140) (As := [.ref (ad2 (100))]) (rest := []) hx hb hml hown hts hE hM hS hA ce_X8_copyFrom tb_1147 (V_X8_copyFrom_140_100_f l D A ad2 nsv I L (u2 Gv 1 2 140) hG hI hT) rfl rfl ⟨Nat.le_of_ble_eq_true rfl, Nat.le_of_ble_eq_true rfl⟩ ((hnsv (140)).mpr (Or.inr (by omega))) rfl rfl (by decide) rfl hl.1 rfl (Nat.le_of_ble_eq_true rfl) dX9_image_52 ⟨Nat.le_of_ble_eq_true rfl, Nat.le_of_ble_eq_true rfl⟩) hS (fun u H locs hw hM hS => ?_)
          obtain ⟨I20, L21, rfl, hI, hkI20, xI20⟩ := hw
          have hM : Mem D A ad2 nsv I20 L21 (u2 Gv 1 2 140) H := hM
          have hK := hK.trans hkI20 rfl
          refine lv_aload_n hx hb dX9_image_55 rfl (lv_at hl 1 rfl) ?_
          refine m_getr (0) 0 (100) hx hb hts hown hE oc9 hM ((hnsv 0).mpr (Or.inl (hG0.1 0 (by decide)))) rfl (by decide) rfl (hG.2 (0, 0, 100) (by decide)) (by decide) tb_398 dX9_image_56 ?_
          refine m_geti (100) 6 hx hb hts hown hE oc8 hM (hG.1 100 (by decide)) rfl (by decide) rfl tb_56 dX9_image_59 ?_
          have z22 : I20 (100) 6 = I (100) 6 := (hkI20.get (100) 6 rfl)
          rw [z22]
          have hga : ∀ n k, ¬ (n = 1 ∧ k = 2) → n ≠ 140 → u2 Gv 1 2 140 n k = G n k := fun n k h1 h4 => by rw [u2_v, if_neg h1, eGv, u2_ne _ _ _ h4, u2_ne _ _ _ h4, u2_ne _ _ _ h4, u2_ne _ _ _ h4, u2_ne _ _ _ h4, u2_ne _ _ _ h4, u2_ne _ _ _ h4, u2_ne _ _ _ h4]
          exact m_iret hx hb hr hlocks hM hS (Nat.le_of_ble_eq_true rfl) (Nat.le_of_ble_eq_true rfl) ⟨_, _, _, _, _, rfl, hI, cw_img (kk := 2) (b := 140) rfl (by decide) hC ((hkI20.get (0) 14 rfl)) hga (u2_self _ _ _ _) hgb hnsv, hext, Or.inl ⟨by omega, rfl, 2, by omega, u2_self _ _ _ _, xI20, hkI20.apart 140 149 rfl, fun j hj => hga 1 j (by omega) (by decide)⟩, fun n hn => ⟨hK.out rfl n hn, funext fun k => hga n k (by omega) (by omega)⟩⟩ dX9_image_62
        · rw [show rn ad (G 1 2) = some (ad 140) from by rw [hz]; rfl]
          refine lv_astore_n (lv' := [(2, .ref (ad (140))), (0, .ref (ad (0))), (1, .int (a0))]) hx hb dX9_image_27 rfl hl (by decide) rfl (fun ls hl => ?_)
          refine lv_aload_n hx hb dX9_image_28 rfl (lv_at hl 0 rfl) ?_
          refine lv_ifnonnull (tgt := 47) hx hb dX9_image_29 (by decide) ?_
          refine lv_aload_n hx hb dX9_image_47 rfl (lv_at hl 0 rfl) ?_
          refine lv_aload_n hx hb dX9_image_48 rfl (lv_at hl 1 rfl) ?_
          refine m_getr (0) 0 (100) hx hb hts hown hE oc9 hM (hG.1 0 (by decide)) rfl (by decide) rfl (hG.2 (0, 0, 100) (by decide)) (by decide) tb_398 dX9_image_49 ?_
          refine m_callv (m_runV (140) (As := [.ref (ad (100))]) (rest := []) hx hb hml hown hts hE hM hS hA ce_X8_copyFrom tb_1147 (V_X8_copyFrom_140_100_f l D A ad ns I L G hG hI hT) rfl rfl ⟨Nat.le_of_ble_eq_true rfl, Nat.le_of_ble_eq_true rfl⟩ (hT.2.1 0 (by decide)) rfl rfl (by decide) rfl hl.1 rfl (Nat.le_of_ble_eq_true rfl) dX9_image_52 ⟨Nat.le_of_ble_eq_true rfl, Nat.le_of_ble_eq_true rfl⟩) hS (fun u H locs hw hM hS => ?_)
          obtain ⟨I23, L24, rfl, hI, hkI23, xI23⟩ := hw
          have hM : Mem D A ad ns I23 L24 G H := hM
          have hK := hK.trans hkI23 rfl
          refine lv_aload_n hx hb dX9_image_55 rfl (lv_at hl 1 rfl) ?_
          refine m_getr (0) 0 (100) hx hb hts hown hE oc9 hM (hG.1 0 (by decide)) rfl (by decide) rfl (hG.2 (0, 0, 100) (by decide)) (by decide) tb_398 dX9_image_56 ?_
          refine m_geti (100) 6 hx hb hts hown hE oc8 hM (hG.1 100 (by decide)) rfl (by decide) rfl tb_56 dX9_image_59 ?_
          have z25 : I23 (100) 6 = I (100) 6 := (hkI23.get (100) 6 rfl)
          rw [z25]
          exact m_iret hx hb hr hlocks hM hS (Nat.le_of_ble_eq_true rfl) (Nat.le_of_ble_eq_true rfl) ⟨_, _, _, _, _, rfl, hI, cw_keep hC ((hkI23.get (0) 14 rfl)), Ext.rf, Or.inl ⟨by omega, rfl, 2, by omega, hz, xI23, hkI23.apart 140 149 rfl, fun j hj => rfl⟩, fun n hn => ⟨hK.out rfl n hn, rfl⟩⟩ dX9_image_62
      · have hkk := tn_n (i := a0) (n := 3) (by omega)
        rw [hkk]
        rcases hCI 3 (by decide) with ⟨hz, hz2⟩ | ⟨hz, hT⟩
        · rw [show rn ad (G 1 3) = none from by rw [hz]; rfl]
          have fv : ∀ i, i < 9 → 150 + i ∉ ns := fun i hi => hz2 i hi
          refine lv_astore_nN (lv' := [(2, .null), (0, .ref (ad (0))), (1, .int (a0))]) hx hb dX9_image_27 rfl hl (by decide) rfl (fun ls hl => ?_)
          refine lv_aload_nN hx hb dX9_image_28 rfl (lv_at hl 0 rfl) ?_
          refine lv_ifnonnullN hx hb dX9_image_29 ?_
          refine m_new (150) hx hb hts hown hE oc8 hM hS hA (fv 0 (by decide)) (by decide) rfl df8 tb_28 tb_29 tb_2 (Nat.le_of_ble_eq_true rfl) (Nat.le_of_ble_eq_true rfl) dX9_image_32 (fun H ad1 had hM hS => ?_)
          rw [← had (0) (hG.1 0 (by decide))] at hl
          refine lv_dup hx hb dX9_image_35 rfl ?_
          refine m_callv (m_runIN (150) (As := []) (rest := [.ref (ad1 (150))]) hx hb hml hown hts hE hM hS hA ce_X8_init (List.mem_of_getElem? (i := 0) rfl) (C_X8_init l D A ad1 (ns ++ [150]) I L G (150) (List.mem_append_right _ (List.mem_singleton.mpr rfl)) (by decide) (nin1 (fv 1 (by decide)) (by omega)) (nin1 (fv 2 (by decide)) (by omega)) (nin1 (fv 3 (by decide)) (by omega)) (nin1 (fv 4 (by decide)) (by omega)) (nin1 (fv 5 (by decide)) (by omega)) (nin1 (fv 6 (by decide)) (by omega)) (nin1 (fv 7 (by decide)) (by omega)) (nin1 (fv 8 (by decide)) (by omega))) rfl rfl ⟨Nat.le_of_ble_eq_true rfl, Nat.le_of_ble_eq_true rfl⟩  rfl hl.1 rfl (Nat.le_of_ble_eq_true rfl) dX9_image_36 ⟨Nat.le_of_ble_eq_true rfl, Nat.le_of_ble_eq_true rfl⟩) hS (fun u H locs hw hM hS => ?_)
          obtain ⟨ad2, rfl, had2⟩ := hw
          obtain ⟨nsv, ensv⟩ : ∃ z : List Nat, z = (((((((((ns ++ [150]) ++ [150 + 1]) ++ [150 + 2]) ++ [150 + 3]) ++ [150 + 4]) ++ [150 + 5]) ++ [150 + 6]) ++ [150 + 7]) ++ [150 + 8]) := ⟨_, rfl⟩
          obtain ⟨Gv, eGv⟩ : ∃ z : MG, z = (u2 (u2 (u2 (u2 (u2 (u2 (u2 (u2 G (150) 10 (150 + 1)) (150) 11 (150 + 2)) (150) 12 (150 + 3)) (150) 13 (150 + 4)) (150) 14 (150 + 5)) (150) 15 (150 + 6)) (150) 16 (150 + 7)) (150) 17 (150 + 8)) := ⟨_, rfl⟩
          have hM : Mem D A ad2 nsv I L Gv H := by rw [ensv, eGv]; exact hM
          have hnsv : ∀ x, x ∈ nsv ↔ x ∈ ns ∨ (150 ≤ x ∧ x < 150 + 9) := by intro x; rw [ensv]; by_cases hx : x ∈ ns <;> simp only [List.mem_append, List.mem_singleton, hx, true_or, false_or, iff_self] <;> omega
          have hext : Ext ns ad nsv ad2 := fun x hx => ⟨(hnsv x).mpr (Or.inl hx), (had2 x (List.mem_append_left _ hx)).trans (had x hx)⟩
          rw [← had2 (0) (List.mem_append_left _ (hG.1 0 (by decide)))] at hl
          rw [← had2 (150) (List.mem_append_right _ (List.mem_singleton.mpr rfl))]
          have hG : SGC nsv Gv := ⟨fun n hn => (hnsv n).mpr (Or.inl (hG0.1 n hn)), fun t ht => by rw [eGv]; have := feC_r t ht; rw [u2_ne _ _ _ (by omega), u2_ne _ _ _ (by omega), u2_ne _ _ _ (by omega), u2_ne _ _ _ (by omega), u2_ne _ _ _ (by omega), u2_ne _ _ _ (by omega), u2_ne _ _ _ (by omega), u2_ne _ _ _ (by omega)]; exact hG0.2 t ht⟩
          refine lv_astore_n (lv' := [(2, .ref (ad2 (150))), (0, .ref (ad2 (0))), (1, .int (a0))]) hx hb dX9_image_39 rfl hl (by decide) rfl (fun ls hl => ?_)
          refine lv_aload_n hx hb dX9_image_40 rfl (lv_at hl 1 rfl) ?_
          refine m_getr (0) 2 (1) hx hb hts hown hE oc9 hM ((hnsv 0).mpr (Or.inl (hG0.1 0 (by decide)))) rfl (by decide) rfl (hG.2 (0, 2, 1) (by decide)) (by decide) tb_400 dX9_image_41 ?_
          refine lv_iload_n hx hb dX9_image_44 rfl (lv_at hl 2 rfl) ?_
          refine lv_aload_n hx hb dX9_image_45 rfl (lv_at hl 0 rfl) ?_
          refine m_aast (1) (150) hx hb hE hM hS (hG.1 1 (by decide)) rfl ((hnsv (150)).mpr (Or.inr (by omega))) (by decide) rfl (by decide) (vp_in_iff.mpr (by omega)) dX9_image_46 (fun H locs G26 eG26 hM hS => ?_)
          subst eG26
          rw [hkk] at hM
          have hG : SGC nsv (u2 Gv 1 3 150) := sgc_putn hG (by decide)
          have hgb : ∀ j, j < 8 → u2 Gv 1 3 150 150 (10 + j) = 150 + 1 + j := by
            intro j hj
            rw [u2_ne _ _ _ (by decide), eGv]
            rcases (show j = 0 ∨ j = 1 ∨ j = 2 ∨ j = 3 ∨ j = 4 ∨ j = 5 ∨ j = 6 ∨ j = 7 by omega) with rfl | rfl | rfl | rfl | rfl | rfl | rfl | rfl <;> simp [u2_v]
          have hT : TOK nsv (u2 Gv 1 3 150) 150 := ⟨by decide, fun j hj => (hnsv _).mpr (Or.inr (by omega)), hgb⟩
          refine lv_aload_n hx hb dX9_image_47 rfl (lv_at hl 0 rfl) ?_
          refine lv_aload_n hx hb dX9_image_48 rfl (lv_at hl 1 rfl) ?_
          refine m_getr (0) 0 (100) hx hb hts hown hE oc9 hM ((hnsv 0).mpr (Or.inl (hG0.1 0 (by decide)))) rfl (by decide) rfl (hG.2 (0, 0, 100) (by decide)) (by decide) tb_398 dX9_image_49 ?_
          refine m_callv (m_runV (150) (As := [.ref (ad2 (100))]) (rest := []) hx hb hml hown hts hE hM hS hA ce_X8_copyFrom tb_1147 (V_X8_copyFrom_150_100_f l D A ad2 nsv I L (u2 Gv 1 3 150) hG hI hT) rfl rfl ⟨Nat.le_of_ble_eq_true rfl, Nat.le_of_ble_eq_true rfl⟩ ((hnsv (150)).mpr (Or.inr (by omega))) rfl rfl (by decide) rfl hl.1 rfl (Nat.le_of_ble_eq_true rfl) dX9_image_52 ⟨Nat.le_of_ble_eq_true rfl, Nat.le_of_ble_eq_true rfl⟩) hS (fun u H locs hw hM hS => ?_)
          obtain ⟨I27, L28, rfl, hI, hkI27, xI27⟩ := hw
          have hM : Mem D A ad2 nsv I27 L28 (u2 Gv 1 3 150) H := hM
          have hK := hK.trans hkI27 rfl
          refine lv_aload_n hx hb dX9_image_55 rfl (lv_at hl 1 rfl) ?_
          refine m_getr (0) 0 (100) hx hb hts hown hE oc9 hM ((hnsv 0).mpr (Or.inl (hG0.1 0 (by decide)))) rfl (by decide) rfl (hG.2 (0, 0, 100) (by decide)) (by decide) tb_398 dX9_image_56 ?_
          refine m_geti (100) 6 hx hb hts hown hE oc8 hM (hG.1 100 (by decide)) rfl (by decide) rfl tb_56 dX9_image_59 ?_
          have z29 : I27 (100) 6 = I (100) 6 := (hkI27.get (100) 6 rfl)
          rw [z29]
          have hga : ∀ n k, ¬ (n = 1 ∧ k = 3) → n ≠ 150 → u2 Gv 1 3 150 n k = G n k := fun n k h1 h4 => by rw [u2_v, if_neg h1, eGv, u2_ne _ _ _ h4, u2_ne _ _ _ h4, u2_ne _ _ _ h4, u2_ne _ _ _ h4, u2_ne _ _ _ h4, u2_ne _ _ _ h4, u2_ne _ _ _ h4, u2_ne _ _ _ h4]
          exact m_iret hx hb hr hlocks hM hS (Nat.le_of_ble_eq_true rfl) (Nat.le_of_ble_eq_true rfl) ⟨_, _, _, _, _, rfl, hI, cw_img (kk := 3) (b := 150) rfl (by decide) hC ((hkI27.get (0) 14 rfl)) hga (u2_self _ _ _ _) hgb hnsv, hext, Or.inl ⟨by omega, rfl, 3, by omega, u2_self _ _ _ _, xI27, hkI27.apart 150 159 rfl, fun j hj => hga 1 j (by omega) (by decide)⟩, fun n hn => ⟨hK.out rfl n hn, funext fun k => hga n k (by omega) (by omega)⟩⟩ dX9_image_62
        · rw [show rn ad (G 1 3) = some (ad 150) from by rw [hz]; rfl]
          refine lv_astore_n (lv' := [(2, .ref (ad (150))), (0, .ref (ad (0))), (1, .int (a0))]) hx hb dX9_image_27 rfl hl (by decide) rfl (fun ls hl => ?_)
          refine lv_aload_n hx hb dX9_image_28 rfl (lv_at hl 0 rfl) ?_
          refine lv_ifnonnull (tgt := 47) hx hb dX9_image_29 (by decide) ?_
          refine lv_aload_n hx hb dX9_image_47 rfl (lv_at hl 0 rfl) ?_
          refine lv_aload_n hx hb dX9_image_48 rfl (lv_at hl 1 rfl) ?_
          refine m_getr (0) 0 (100) hx hb hts hown hE oc9 hM (hG.1 0 (by decide)) rfl (by decide) rfl (hG.2 (0, 0, 100) (by decide)) (by decide) tb_398 dX9_image_49 ?_
          refine m_callv (m_runV (150) (As := [.ref (ad (100))]) (rest := []) hx hb hml hown hts hE hM hS hA ce_X8_copyFrom tb_1147 (V_X8_copyFrom_150_100_f l D A ad ns I L G hG hI hT) rfl rfl ⟨Nat.le_of_ble_eq_true rfl, Nat.le_of_ble_eq_true rfl⟩ (hT.2.1 0 (by decide)) rfl rfl (by decide) rfl hl.1 rfl (Nat.le_of_ble_eq_true rfl) dX9_image_52 ⟨Nat.le_of_ble_eq_true rfl, Nat.le_of_ble_eq_true rfl⟩) hS (fun u H locs hw hM hS => ?_)
          obtain ⟨I30, L31, rfl, hI, hkI30, xI30⟩ := hw
          have hM : Mem D A ad ns I30 L31 G H := hM
          have hK := hK.trans hkI30 rfl
          refine lv_aload_n hx hb dX9_image_55 rfl (lv_at hl 1 rfl) ?_
          refine m_getr (0) 0 (100) hx hb hts hown hE oc9 hM (hG.1 0 (by decide)) rfl (by decide) rfl (hG.2 (0, 0, 100) (by decide)) (by decide) tb_398 dX9_image_56 ?_
          refine m_geti (100) 6 hx hb hts hown hE oc8 hM (hG.1 100 (by decide)) rfl (by decide) rfl tb_56 dX9_image_59 ?_
          have z32 : I30 (100) 6 = I (100) 6 := (hkI30.get (100) 6 rfl)
          rw [z32]
          exact m_iret hx hb hr hlocks hM hS (Nat.le_of_ble_eq_true rfl) (Nat.le_of_ble_eq_true rfl) ⟨_, _, _, _, _, rfl, hI, cw_keep hC ((hkI30.get (0) 14 rfl)), Ext.rf, Or.inl ⟨by omega, rfl, 3, by omega, hz, xI30, hkI30.apart 150 159 rfl, fun j hj => rfl⟩, fun n hn => ⟨hK.out rfl n hn, rfl⟩⟩ dX9_image_62
    · have hc4 := c4
      have q4 := xr3.f hc4
      refine lv_iconst (v := (-1)) hx hb dX9_image_19 (by decide) ?_
      exact m_iret hx hb hr hlocks hM hS (Nat.le_of_ble_eq_true rfl) (Nat.le_of_ble_eq_true rfl) ⟨_, _, _, _, _, rfl, hI, hC, Ext.rf, Or.inr ⟨by omega, rfl, rfl, rfl⟩, fun n _ => ⟨rfl, rfl⟩⟩ dX9_image_20
set_option maxHeartbeats 4000000 in
set_option maxRecDepth 20000 in
theorem V_X9_back_f (l : Launch) (D : va_G) (A : Nat → Prop) (ad : Nat → Nat) (ns : List Nat) (I : MI) (L : ML) (G : MG) (a0 : Int32) (hG : SGC ns G) (hI : INV I) (hIm : IMS ns G) : Met l yX9_back (wd yX9_back cX9_back 3 (some .int)) ({ frames := 2, cells := 0, slots := 0, locals := 61 }) (va_Pc [.ref (ad (0)), .int a0] (PM D A ad ns I L G)) (va_Qi (fun r u => ∃ I2 L2, u = (ad, ns, I2, L2, G) ∧ INV I2 ∧ Kp [(101, 109)] [(100, 0), (100, 1), (100, 2), (100, 3), (100, 4), (100, 5), (100, 6), (100, 7), (100, 8), (100, 9)] I I2 ∧ (BCKX G I I2 r a0)) (BM D A) A) 0 0 A := by
  refine m_ofW (by decide) (Nat.le_of_ble_eq_true rfl) ?_
  intro p e s m below meth c ls args hC hE hM hA hS hl
  obtain ⟨hx, hb, hml, hown, hts, hr, hlocks, hin⟩ := hC
  have km1 : (-1 : Int32).toInt = -1 := by decide
  have k0 : (0 : Int32).toInt = 0 := by decide
  have k3 : (3 : Int32).toInt = 3 := by decide
  have hK : Kp [(101, 109)] [(100, 0), (100, 1), (100, 2), (100, 3), (100, 4), (100, 5), (100, 6), (100, 7), (100, 8), (100, 9)] I I := Kp.rf
  have hl : lv_has ls 3 [(0, .ref (ad (0))), (1, .int (a0))] := hl
  refine lv_iload_n hx hb dX9_back_0 rfl (lv_at hl 1 rfl) ?_
  refine lv_iconst (v := (0)) hx hb dX9_back_1 (by decide) ?_
  refine lv_iconst (v := (3)) hx hb dX9_back_2 (by decide) ?_
  refine m_calli (m_runS (As := [.int (a0), .int (0), .int (3)]) (rest := []) hx hb hml hown hts hE hM hS hA ce_X9_isWithin tb_451 (V_X9_isWithin l D A ad ns I L G (a0) (0) (3) hI) rfl rfl ⟨Nat.le_of_ble_eq_true rfl, Nat.le_of_ble_eq_true rfl⟩  rfl hl.1 rfl (Nat.le_of_ble_eq_true rfl) dX9_back_3 ⟨Nat.le_of_ble_eq_true rfl, Nat.le_of_ble_eq_true rfl⟩) hS (fun r1 u H locs hw hM hS => ?_)
  obtain ⟨rfl, xr1⟩ := hw
  have hM : Mem D A ad ns I L G H := hM
  have yr1 := bo01 xr1
  refine lv_if_ne (tgt := 11) hx hb dX9_back_6 (by decide) (fun c2 => ?_) (fun c2 => ?_)
  · have hc2 := c2
    have q2 := xr1.t hc2
    refine lv_aload_n hx hb dX9_back_11 rfl (lv_at hl 0 rfl) ?_
    refine m_getr (0) 2 (1) hx hb hts hown hE oc9 hM (hG.1 0 (by decide)) rfl (by decide) rfl (hG.2 (0, 2, 1) (by decide)) (by decide) tb_400 dX9_back_12 ?_
    refine lv_iload_n hx hb dX9_back_15 rfl (lv_at hl 1 rfl) ?_
    refine m_aald (1) hx hb hE hM (hG.1 1 (by decide)) rfl (by decide) (vp_in_iff.mpr (by omega)) dX9_back_16 ?_
    have hk4 : (a0).toInt = 0 ∨ (a0).toInt = 1 ∨ (a0).toInt = 2 ∨ (a0).toInt = 3 := by omega
    rcases hk4 with hk4 | hk4 | hk4 | hk4
    · rw [tn_n (i := a0) (n := 0) (by omega)]
      rcases hIm 0 (by decide) with hz | ⟨hz, hT⟩
      · rw [show rn ad (G 1 0) = none from by rw [hz]; rfl]
        refine lv_astore_nN (lv' := [(2, .null), (0, .ref (ad (0))), (1, .int (a0))]) hx hb dX9_back_17 rfl hl (by decide) rfl (fun ls hl => ?_)
        refine lv_aload_nN hx hb dX9_back_18 rfl (lv_at hl 0 rfl) ?_
        refine lv_ifnonnullN hx hb dX9_back_19 ?_
        refine lv_iconst (v := (-1)) hx hb dX9_back_22 (by decide) ?_
        exact m_iret hx hb hr hlocks hM hS (Nat.le_of_ble_eq_true rfl) (Nat.le_of_ble_eq_true rfl) ⟨_, _, rfl, hI, hK, (Or.inr ⟨fun k hk he => by rw [show k = 0 from by omega]; exact hz, rfl, rfl⟩)⟩ dX9_back_23
      · rw [show rn ad (G 1 0) = some (ad 120) from by rw [hz]; rfl]
        refine lv_astore_n (lv' := [(2, .ref (ad (120))), (0, .ref (ad (0))), (1, .int (a0))]) hx hb dX9_back_17 rfl hl (by decide) rfl (fun ls hl => ?_)
        refine lv_aload_n hx hb dX9_back_18 rfl (lv_at hl 0 rfl) ?_
        refine lv_ifnonnull (tgt := 24) hx hb dX9_back_19 (by decide) ?_
        refine lv_aload_n hx hb dX9_back_24 rfl (lv_at hl 1 rfl) ?_
        refine m_getr (0) 0 (100) hx hb hts hown hE oc9 hM (hG.1 0 (by decide)) rfl (by decide) rfl (hG.2 (0, 0, 100) (by decide)) (by decide) tb_398 dX9_back_25 ?_
        refine lv_aload_n hx hb dX9_back_28 rfl (lv_at hl 0 rfl) ?_
        refine m_callv (m_runV (100) (As := [.ref (ad (120))]) (rest := []) hx hb hml hown hts hE hM hS hA ce_X8_copyFrom tb_1147 (V_X8_copyFrom_100_120_f l D A ad ns I L G hG hI hT) rfl rfl ⟨Nat.le_of_ble_eq_true rfl, Nat.le_of_ble_eq_true rfl⟩ (hG.1 100 (by decide)) rfl rfl (by decide) rfl hl.1 rfl (Nat.le_of_ble_eq_true rfl) dX9_back_29 ⟨Nat.le_of_ble_eq_true rfl, Nat.le_of_ble_eq_true rfl⟩) hS (fun u H locs hw hM hS => ?_)
        obtain ⟨I3, L4, rfl, hI, hkI3, xI3⟩ := hw
        have hM : Mem D A ad ns I3 L4 G H := hM
        have hK := hK.trans hkI3 rfl
        refine lv_aload_n hx hb dX9_back_32 rfl (lv_at hl 1 rfl) ?_
        refine m_getr (0) 0 (100) hx hb hts hown hE oc9 hM (hG.1 0 (by decide)) rfl (by decide) rfl (hG.2 (0, 0, 100) (by decide)) (by decide) tb_398 dX9_back_33 ?_
        refine m_geti (100) 6 hx hb hts hown hE oc8 hM (hG.1 100 (by decide)) rfl (by decide) rfl tb_56 dX9_back_36 ?_
        exact m_iret hx hb hr hlocks hM hS (Nat.le_of_ble_eq_true rfl) (Nat.le_of_ble_eq_true rfl) ⟨_, _, rfl, hI, hK, (Or.inl ⟨0, by decide, by omega, hz, rfl, xI3⟩)⟩ dX9_back_39
    · rw [tn_n (i := a0) (n := 1) (by omega)]
      rcases hIm 1 (by decide) with hz | ⟨hz, hT⟩
      · rw [show rn ad (G 1 1) = none from by rw [hz]; rfl]
        refine lv_astore_nN (lv' := [(2, .null), (0, .ref (ad (0))), (1, .int (a0))]) hx hb dX9_back_17 rfl hl (by decide) rfl (fun ls hl => ?_)
        refine lv_aload_nN hx hb dX9_back_18 rfl (lv_at hl 0 rfl) ?_
        refine lv_ifnonnullN hx hb dX9_back_19 ?_
        refine lv_iconst (v := (-1)) hx hb dX9_back_22 (by decide) ?_
        exact m_iret hx hb hr hlocks hM hS (Nat.le_of_ble_eq_true rfl) (Nat.le_of_ble_eq_true rfl) ⟨_, _, rfl, hI, hK, (Or.inr ⟨fun k hk he => by rw [show k = 1 from by omega]; exact hz, rfl, rfl⟩)⟩ dX9_back_23
      · rw [show rn ad (G 1 1) = some (ad 130) from by rw [hz]; rfl]
        refine lv_astore_n (lv' := [(2, .ref (ad (130))), (0, .ref (ad (0))), (1, .int (a0))]) hx hb dX9_back_17 rfl hl (by decide) rfl (fun ls hl => ?_)
        refine lv_aload_n hx hb dX9_back_18 rfl (lv_at hl 0 rfl) ?_
        refine lv_ifnonnull (tgt := 24) hx hb dX9_back_19 (by decide) ?_
        refine lv_aload_n hx hb dX9_back_24 rfl (lv_at hl 1 rfl) ?_
        refine m_getr (0) 0 (100) hx hb hts hown hE oc9 hM (hG.1 0 (by decide)) rfl (by decide) rfl (hG.2 (0, 0, 100) (by decide)) (by decide) tb_398 dX9_back_25 ?_
        refine lv_aload_n hx hb dX9_back_28 rfl (lv_at hl 0 rfl) ?_
        refine m_callv (m_runV (100) (As := [.ref (ad (130))]) (rest := []) hx hb hml hown hts hE hM hS hA ce_X8_copyFrom tb_1147 (V_X8_copyFrom_100_130_f l D A ad ns I L G hG hI hT) rfl rfl ⟨Nat.le_of_ble_eq_true rfl, Nat.le_of_ble_eq_true rfl⟩ (hG.1 100 (by decide)) rfl rfl (by decide) rfl hl.1 rfl (Nat.le_of_ble_eq_true rfl) dX9_back_29 ⟨Nat.le_of_ble_eq_true rfl, Nat.le_of_ble_eq_true rfl⟩) hS (fun u H locs hw hM hS => ?_)
        obtain ⟨I5, L6, rfl, hI, hkI5, xI5⟩ := hw
        have hM : Mem D A ad ns I5 L6 G H := hM
        have hK := hK.trans hkI5 rfl
        refine lv_aload_n hx hb dX9_back_32 rfl (lv_at hl 1 rfl) ?_
        refine m_getr (0) 0 (100) hx hb hts hown hE oc9 hM (hG.1 0 (by decide)) rfl (by decide) rfl (hG.2 (0, 0, 100) (by decide)) (by decide) tb_398 dX9_back_33 ?_
        refine m_geti (100) 6 hx hb hts hown hE oc8 hM (hG.1 100 (by decide)) rfl (by decide) rfl tb_56 dX9_back_36 ?_
        exact m_iret hx hb hr hlocks hM hS (Nat.le_of_ble_eq_true rfl) (Nat.le_of_ble_eq_true rfl) ⟨_, _, rfl, hI, hK, (Or.inl ⟨1, by decide, by omega, hz, rfl, xI5⟩)⟩ dX9_back_39
    · rw [tn_n (i := a0) (n := 2) (by omega)]
      rcases hIm 2 (by decide) with hz | ⟨hz, hT⟩
      · rw [show rn ad (G 1 2) = none from by rw [hz]; rfl]
        refine lv_astore_nN (lv' := [(2, .null), (0, .ref (ad (0))), (1, .int (a0))]) hx hb dX9_back_17 rfl hl (by decide) rfl (fun ls hl => ?_)
        refine lv_aload_nN hx hb dX9_back_18 rfl (lv_at hl 0 rfl) ?_
        refine lv_ifnonnullN hx hb dX9_back_19 ?_
        refine lv_iconst (v := (-1)) hx hb dX9_back_22 (by decide) ?_
        exact m_iret hx hb hr hlocks hM hS (Nat.le_of_ble_eq_true rfl) (Nat.le_of_ble_eq_true rfl) ⟨_, _, rfl, hI, hK, (Or.inr ⟨fun k hk he => by rw [show k = 2 from by omega]; exact hz, rfl, rfl⟩)⟩ dX9_back_23
      · rw [show rn ad (G 1 2) = some (ad 140) from by rw [hz]; rfl]
        refine lv_astore_n (lv' := [(2, .ref (ad (140))), (0, .ref (ad (0))), (1, .int (a0))]) hx hb dX9_back_17 rfl hl (by decide) rfl (fun ls hl => ?_)
        refine lv_aload_n hx hb dX9_back_18 rfl (lv_at hl 0 rfl) ?_
        refine lv_ifnonnull (tgt := 24) hx hb dX9_back_19 (by decide) ?_
        refine lv_aload_n hx hb dX9_back_24 rfl (lv_at hl 1 rfl) ?_
        refine m_getr (0) 0 (100) hx hb hts hown hE oc9 hM (hG.1 0 (by decide)) rfl (by decide) rfl (hG.2 (0, 0, 100) (by decide)) (by decide) tb_398 dX9_back_25 ?_
        refine lv_aload_n hx hb dX9_back_28 rfl (lv_at hl 0 rfl) ?_
        refine m_callv (m_runV (100) (As := [.ref (ad (140))]) (rest := []) hx hb hml hown hts hE hM hS hA ce_X8_copyFrom tb_1147 (V_X8_copyFrom_100_140_f l D A ad ns I L G hG hI hT) rfl rfl ⟨Nat.le_of_ble_eq_true rfl, Nat.le_of_ble_eq_true rfl⟩ (hG.1 100 (by decide)) rfl rfl (by decide) rfl hl.1 rfl (Nat.le_of_ble_eq_true rfl) dX9_back_29 ⟨Nat.le_of_ble_eq_true rfl, Nat.le_of_ble_eq_true rfl⟩) hS (fun u H locs hw hM hS => ?_)
        obtain ⟨I7, L8, rfl, hI, hkI7, xI7⟩ := hw
        have hM : Mem D A ad ns I7 L8 G H := hM
        have hK := hK.trans hkI7 rfl
        refine lv_aload_n hx hb dX9_back_32 rfl (lv_at hl 1 rfl) ?_
        refine m_getr (0) 0 (100) hx hb hts hown hE oc9 hM (hG.1 0 (by decide)) rfl (by decide) rfl (hG.2 (0, 0, 100) (by decide)) (by decide) tb_398 dX9_back_33 ?_
        refine m_geti (100) 6 hx hb hts hown hE oc8 hM (hG.1 100 (by decide)) rfl (by decide) rfl tb_56 dX9_back_36 ?_
        exact m_iret hx hb hr hlocks hM hS (Nat.le_of_ble_eq_true rfl) (Nat.le_of_ble_eq_true rfl) ⟨_, _, rfl, hI, hK, (Or.inl ⟨2, by decide, by omega, hz, rfl, xI7⟩)⟩ dX9_back_39
    · rw [tn_n (i := a0) (n := 3) (by omega)]
      rcases hIm 3 (by decide) with hz | ⟨hz, hT⟩
      · rw [show rn ad (G 1 3) = none from by rw [hz]; rfl]
        refine lv_astore_nN (lv' := [(2, .null), (0, .ref (ad (0))), (1, .int (a0))]) hx hb dX9_back_17 rfl hl (by decide) rfl (fun ls hl => ?_)
        refine lv_aload_nN hx hb dX9_back_18 rfl (lv_at hl 0 rfl) ?_
        refine lv_ifnonnullN hx hb dX9_back_19 ?_
        refine lv_iconst (v := (-1)) hx hb dX9_back_22 (by decide) ?_
        exact m_iret hx hb hr hlocks hM hS (Nat.le_of_ble_eq_true rfl) (Nat.le_of_ble_eq_true rfl) ⟨_, _, rfl, hI, hK, (Or.inr ⟨fun k hk he => by rw [show k = 3 from by omega]; exact hz, rfl, rfl⟩)⟩ dX9_back_23
      · rw [show rn ad (G 1 3) = some (ad 150) from by rw [hz]; rfl]
        refine lv_astore_n (lv' := [(2, .ref (ad (150))), (0, .ref (ad (0))), (1, .int (a0))]) hx hb dX9_back_17 rfl hl (by decide) rfl (fun ls hl => ?_)
        refine lv_aload_n hx hb dX9_back_18 rfl (lv_at hl 0 rfl) ?_
        refine lv_ifnonnull (tgt := 24) hx hb dX9_back_19 (by decide) ?_
        refine lv_aload_n hx hb dX9_back_24 rfl (lv_at hl 1 rfl) ?_
        refine m_getr (0) 0 (100) hx hb hts hown hE oc9 hM (hG.1 0 (by decide)) rfl (by decide) rfl (hG.2 (0, 0, 100) (by decide)) (by decide) tb_398 dX9_back_25 ?_
        refine lv_aload_n hx hb dX9_back_28 rfl (lv_at hl 0 rfl) ?_
        refine m_callv (m_runV (100) (As := [.ref (ad (150))]) (rest := []) hx hb hml hown hts hE hM hS hA ce_X8_copyFrom tb_1147 (V_X8_copyFrom_100_150_f l D A ad ns I L G hG hI hT) rfl rfl ⟨Nat.le_of_ble_eq_true rfl, Nat.le_of_ble_eq_true rfl⟩ (hG.1 100 (by decide)) rfl rfl (by decide) rfl hl.1 rfl (Nat.le_of_ble_eq_true rfl) dX9_back_29 ⟨Nat.le_of_ble_eq_true rfl, Nat.le_of_ble_eq_true rfl⟩) hS (fun u H locs hw hM hS => ?_)
        obtain ⟨I9, L10, rfl, hI, hkI9, xI9⟩ := hw
        have hM : Mem D A ad ns I9 L10 G H := hM
        have hK := hK.trans hkI9 rfl
        refine lv_aload_n hx hb dX9_back_32 rfl (lv_at hl 1 rfl) ?_
        refine m_getr (0) 0 (100) hx hb hts hown hE oc9 hM (hG.1 0 (by decide)) rfl (by decide) rfl (hG.2 (0, 0, 100) (by decide)) (by decide) tb_398 dX9_back_33 ?_
        refine m_geti (100) 6 hx hb hts hown hE oc8 hM (hG.1 100 (by decide)) rfl (by decide) rfl tb_56 dX9_back_36 ?_
        exact m_iret hx hb hr hlocks hM hS (Nat.le_of_ble_eq_true rfl) (Nat.le_of_ble_eq_true rfl) ⟨_, _, rfl, hI, hK, (Or.inl ⟨3, by decide, by omega, hz, rfl, xI9⟩)⟩ dX9_back_39
  · have hc2 := c2
    have q2 := xr1.f hc2
    refine lv_iconst (v := (-1)) hx hb dX9_back_9 (by decide) ?_
    exact m_iret hx hb hr hlocks hM hS (Nat.le_of_ble_eq_true rfl) (Nat.le_of_ble_eq_true rfl) ⟨_, _, rfl, hI, hK, (Or.inr ⟨fun k hk he => by omega, rfl, rfl⟩)⟩ dX9_back_10
