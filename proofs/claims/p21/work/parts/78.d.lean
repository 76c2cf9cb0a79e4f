set_option maxHeartbeats 4000000 in
set_option maxRecDepth 20000 in
theorem V_X4_read_h (l : Launch) (D : va_G) (A : Nat → Prop) (ad : Nat → Nat) (ns : List Nat) (I : MI) (L : ML) (G : MG) (w : Nat) (a0 : Int32) (hG : SGC ns G) (hI : INV I) (hW : LOK ns G w) (ha0 : 0 ≤ a0.toInt ∧ a0.toInt ≤ 400) : Met l yX4_read (wd yX4_read cX4_read 5 (some .int)) ({ frames := 7, cells := 0, slots := 0, locals := 147 }) (va_Pc [.ref (ad (70)), .ref (ad (3)), .int a0, .ref (ad (w))] (PM D A ad ns I L G)) (va_Qi (fun r u => ∃ I2 L2, u = (ad, ns, I2, L2, u2 G 70 13 w) ∧ INV I2 ∧ Kp [(71, 73), (200, 300)] [(70, 2), (70, 3), (70, 4), (70, 5), (70, 6), (70, 7), (70, 8), (70, 9), (70, 10), (70, 11), (70, 12)] I I2 ∧ (OTH w I I2 ∧ (RDX w I I2 a0 r))) (BM D A) A) 0 0 A := by
  refine m_ofW (by decide) (Nat.le_of_ble_eq_true rfl) ?_
  intro p e s m below meth c ls args hC hE hM hA hS hl
  obtain ⟨hx, hb, hml, hown, hts, hr, hlocks, hin⟩ := hC
  have k0 : (0 : Int32).toInt = 0 := by decide
  have k5 : (5 : Int32).toInt = 5 := by decide
  have k400 : (400 : Int32).toInt = 400 := by decide
  have hK : Kp [(71, 73), (200, 300)] [(70, 2), (70, 3), (70, 4), (70, 5), (70, 6), (70, 7), (70, 8), (70, 9), (70, 10), (70, 11), (70, 12)] I I := Kp.rf
  have hl : lv_has ls 5 [(0, .ref (ad (70))), (1, .ref (ad (3))), (2, .int (a0)), (3, .ref (ad (w)))] := hl
  refine lv_aload_n hx hb dX4_read_0 rfl (lv_at hl 1 rfl) ?_
  refine lv_iconst (v := (0)) hx hb dX4_read_1 (by decide) ?_
  refine lv_aload_n hx hb dX4_read_2 rfl (lv_at hl 0 rfl) ?_
  refine m_getr (70) 0 (71) hx hb hts hown hE oc4 hM (hG.1 70 (by decide)) rfl (by decide) rfl (hG.2 (70, 0, 71) (by decide)) (by decide) tb_318 dX4_read_3 ?_
  refine lv_iconst (v := (0)) hx hb dX4_read_6 (by decide) ?_
  refine lv_iload_n hx hb dX4_read_7 rfl (lv_at hl 2 rfl) ?_
  have hn0 := tn ha0.1
  refine m_copyb (3) (71) hx hb (hml.trans hl.1.symm) hown hE hM hS (hG.1 3 (by decide)) rfl (hG.1 71 (by decide)) rfl (hts _ tb_566) (hts _ tb_568) (hts _ tb_567) (hts _ tb_13) ⟨⟨by decide, by decide, fun h => absurd (q_lt h) (by omega)⟩, (by show 0 + a0.toNatClampNeg ≤ 400; omega), (by show 0 + a0.toNatClampNeg ≤ 400; omega), fun i _ => fits_byte (hI.get 3 _ rfl)⟩ (Nat.le_of_ble_eq_true rfl) (Nat.le_of_ble_eq_true rfl) dX4_read_8 (fun H locs I1 eI1 hM hS => ?_)
  have hI : INV I1 := by rw [eI1]; exact hI.cpy (by intro i hi; left; rfl)
  have hK : Kp [(71, 73), (200, 300)] [(70, 2), (70, 3), (70, 4), (70, 5), (70, 6), (70, 7), (70, 8), (70, 9), (70, 10), (70, 11), (70, 12)] I I1 := by rw [eI1]; exact hK.cpy rfl
  have hkI1 : Kp [(71, 72)] [] I I1 := by rw [eI1]; exact Kp.rf.cpy rfl
  have hcp : ∀ j, j < (a0).toNatClampNeg → I1 71 j = I 3 j := fun j hj => by rw [eI1]; exact cpy_a rfl hj
  refine lv_aload_n hx hb dX4_read_11 rfl (lv_at hl 0 rfl) ?_
  refine lv_iload_n hx hb dX4_read_12 rfl (lv_at hl 2 rfl) ?_
  refine m_puti (70) 3 hx hb hts hown hE oc4 hM hS (hG.1 70 (by decide)) rfl (by decide) rfl rfl rfl rfl tb_321 dX4_read_13 (fun H locs I2 eI2 hM hS => ?_)
  subst eI2
  have hI := hI.put (n := 70) (k := 3) (v := a0) (lo := 0) (hi := 400) rfl (by first | omega | decide)
  have hK := hK.put (n := 70) (k := 3) (v := a0) (by first | rfl | simp [inR])
  refine lv_aload_n hx hb dX4_read_16 rfl (lv_at hl 0 rfl) ?_
  refine lv_iconst (v := (0)) hx hb dX4_read_17 (by decide) ?_
  refine m_puti (70) 4 hx hb hts hown hE oc4 hM hS (hG.1 70 (by decide)) rfl (by decide) rfl rfl rfl rfl tb_322 dX4_read_18 (fun H locs I3 eI3 hM hS => ?_)
  subst eI3
  have hI := hI.put (n := 70) (k := 4) (v := 0) (lo := 0) (hi := 801) rfl (by first | omega | decide)
  have hK := hK.put (n := 70) (k := 4) (v := 0) (by first | rfl | simp [inR])
  refine lv_aload_n hx hb dX4_read_21 rfl (lv_at hl 0 rfl) ?_
  refine lv_iconst (v := (0)) hx hb dX4_read_22 (by decide) ?_
  refine m_puti (70) 2 hx hb hts hown hE oc4 hM hS (hG.1 70 (by decide)) rfl (by decide) rfl rfl rfl rfl tb_320 dX4_read_23 (fun H locs I4 eI4 hM hS => ?_)
  subst eI4
  have hI := hI.put (n := 70) (k := 2) (v := 0) (lo := 0) (hi := 64) rfl (by first | omega | decide)
  have hK := hK.put (n := 70) (k := 2) (v := 0) (by first | rfl | simp [inR])
  refine lv_aload_n hx hb dX4_read_26 rfl (lv_at hl 0 rfl) ?_
  refine lv_iconst (v := (0)) hx hb dX4_read_27 (by decide) ?_
  refine m_puti (70) 9 hx hb hts hown hE oc4 hM hS (hG.1 70 (by decide)) rfl (by decide) rfl rfl rfl rfl tb_327 dX4_read_28 (fun H locs I5 eI5 hM hS => ?_)
  subst eI5
  have hI := hI.putF (n := 70) (k := 9) (v := 0) rfl
  have hK := hK.put (n := 70) (k := 9) (v := 0) (by first | rfl | simp [inR])
  refine lv_aload_n hx hb dX4_read_31 rfl (lv_at hl 0 rfl) ?_
  refine lv_iconst (v := (0)) hx hb dX4_read_32 (by decide) ?_
  refine m_puti (70) 10 hx hb hts hown hE oc4 hM hS (hG.1 70 (by decide)) rfl (by decide) rfl rfl rfl rfl tb_328 dX4_read_33 (fun H locs I6 eI6 hM hS => ?_)
  subst eI6
  have hI := hI.putF (n := 70) (k := 10) (v := 0) rfl
  have hK := hK.put (n := 70) (k := 10) (v := 0) (by first | rfl | simp [inR])
  refine lv_aload_n hx hb dX4_read_36 rfl (lv_at hl 0 rfl) ?_
  refine lv_iconst (v := (0)) hx hb dX4_read_37 (by decide) ?_
  refine m_puti (70) 11 hx hb hts hown hE oc4 hM hS (hG.1 70 (by decide)) rfl (by decide) rfl rfl rfl rfl tb_329 dX4_read_38 (fun H locs I7 eI7 hM hS => ?_)
  subst eI7
  have hI := hI.putF (n := 70) (k := 11) (v := 0) rfl
  have hK := hK.put (n := 70) (k := 11) (v := 0) (by first | rfl | simp [inR])
  refine lv_aload_n hx hb dX4_read_41 rfl (lv_at hl 0 rfl) ?_
  refine lv_iconst (v := (0)) hx hb dX4_read_42 (by decide) ?_
  refine m_puti (70) 12 hx hb hts hown hE oc4 hM hS (hG.1 70 (by decide)) rfl (by decide) rfl rfl rfl rfl tb_330 dX4_read_43 (fun H locs I8 eI8 hM hS => ?_)
  subst eI8
  have hI := hI.putF (n := 70) (k := 12) (v := 0) rfl
  have hK := hK.put (n := 70) (k := 12) (v := 0) (by first | rfl | simp [inR])
  refine lv_aload_n hx hb dX4_read_46 rfl (lv_at hl 0 rfl) ?_
  refine lv_iconst (v := (0)) hx hb dX4_read_47 (by decide) ?_
  refine m_puti (70) 7 hx hb hts hown hE oc4 hM hS (hG.1 70 (by decide)) rfl (by decide) rfl rfl rfl rfl tb_325 dX4_read_48 (fun H locs I9 eI9 hM hS => ?_)
  subst eI9
  have hI := hI.put (n := 70) (k := 7) (v := 0) (lo := 0) (hi := 5) rfl (by first | omega | decide)
  have hK := hK.put (n := 70) (k := 7) (v := 0) (by first | rfl | simp [inR])
  refine lv_aload_n hx hb dX4_read_51 rfl (lv_at hl 0 rfl) ?_
  refine lv_aload_n hx hb dX4_read_52 rfl (lv_at hl 3 rfl) ?_
  refine m_putr (70) 13 (w) hx hb hts hown hE oc4 hM hS (hG.1 70 (by decide)) rfl (by decide) rfl (by have := lbw hW.1; omega) hW.l rfl rfl rfl tb_331 dX4_read_53 (fun H locs G11 eG11 hM hS => ?_)
  subst eG11
  have hG : SGC ns (u2 G 70 13 w) := sgc_put hG rfl
  have hW : LOK ns (u2 G 70 13 w) w := lok_put hW (by decide)
  have hd : u2 G 70 13 w 70 13 = w := u2_self G 70 13 w
  refine lv_aload_n hx hb dX4_read_56 rfl (lv_at hl 0 rfl) ?_
  refine m_getr (70) 13 (w) hx hb hts hown hE oc4 hM (hG.1 70 (by decide)) rfl (by decide) rfl hd (by have := lbw hW.1; omega) tb_331 dX4_read_57 ?_
  refine m_callv (m_runV (w) (As := []) (rest := []) hx hb hml hown hts hE hM hS hA ce_X3_clear tb_569 (V_X3_clear_h l D A ad ns (u2 (u2 (u2 (u2 (u2 (u2 (u2 (u2 I1 (70) 3 (a0)) (70) 4 (0)) (70) 2 (0)) (70) 9 (0)) (70) 10 (0)) (70) 11 (0)) (70) 12 (0)) (70) 7 (0)) L (u2 G (70) 13 (w)) (w) hG hI hW) rfl rfl ⟨Nat.le_of_ble_eq_true rfl, Nat.le_of_ble_eq_true rfl⟩ hW.l (kW _ hW.1).1 rfl (by decide) rfl hl.1 rfl (Nat.le_of_ble_eq_true rfl) dX4_read_60 ⟨Nat.le_of_ble_eq_true rfl, Nat.le_of_ble_eq_true rfl⟩) hS (fun u H locs hw hM hS => ?_)
  obtain ⟨I12, L13, rfl, hI, hkI12, xI12⟩ := hw
  have hM : Mem D A ad ns I12 L13 (u2 G (70) 13 (w)) H := hM
  have hK := hK.trans hkI12 rfl
  obtain ⟨ot14, xI12⟩ := xI12
  refine lv_iconst (v := (0)) hx hb dX4_read_63 (by decide) ?_
  refine lv_istore (lv' := [(4, .int (0)), (0, .ref (ad (70))), (1, .ref (ad (3))), (2, .int (a0)), (3, .ref (ad (w)))]) hx hb dX4_read_64 hl (by decide) rfl (fun ls hl => ?_)
  have fz15 : I12 (70) 2 = 0 := ((hkI12.get (70) 2 rfl)).trans (show (u2 (u2 (u2 (u2 (u2 (u2 (u2 (u2 I1 (70) 3 (a0)) (70) 4 (0)) (70) 2 (0)) (70) 9 (0)) (70) 10 (0)) (70) 11 (0)) (70) 12 (0)) (70) 7 (0)) (70) 2 = 0 from by simp [u2_v])
  have fz15q := congrArg Int32.toInt fz15
  have fz16 : I12 (70) 3 = a0 := ((hkI12.get (70) 3 rfl)).trans (show (u2 (u2 (u2 (u2 (u2 (u2 (u2 (u2 I1 (70) 3 (a0)) (70) 4 (0)) (70) 2 (0)) (70) 9 (0)) (70) 10 (0)) (70) 11 (0)) (70) 12 (0)) (70) 7 (0)) (70) 3 = a0 from by simp [u2_v])
  have fz16q := congrArg Int32.toInt fz16
  have fz17 : I12 (70) 4 = 0 := ((hkI12.get (70) 4 rfl)).trans (show (u2 (u2 (u2 (u2 (u2 (u2 (u2 (u2 I1 (70) 3 (a0)) (70) 4 (0)) (70) 2 (0)) (70) 9 (0)) (70) 10 (0)) (70) 11 (0)) (70) 12 (0)) (70) 7 (0)) (70) 4 = 0 from by simp [u2_v])
  have fz17q := congrArg Int32.toInt fz17
  have fz18 : I12 (70) 7 = 0 := ((hkI12.get (70) 7 rfl)).trans (show (u2 (u2 (u2 (u2 (u2 (u2 (u2 (u2 I1 (70) 3 (a0)) (70) 4 (0)) (70) 2 (0)) (70) 9 (0)) (70) 10 (0)) (70) 11 (0)) (70) 12 (0)) (70) 7 (0)) (70) 7 = 0 from by simp [u2_v])
  have fz18q := congrArg Int32.toInt fz18
  have fz19 : I12 (70) 8 = I (70) 8 := (((hkI12.get (70) 8 rfl)).trans (show (u2 (u2 (u2 (u2 (u2 (u2 (u2 (u2 I1 (70) 3 (a0)) (70) 4 (0)) (70) 2 (0)) (70) 9 (0)) (70) 10 (0)) (70) 11 (0)) (70) 12 (0)) (70) 7 (0)) (70) 8 = I1 (70) 8 from by simp [u2_v])).trans (hkI1.get (70) 8 rfl)
  have fz19q := congrArg Int32.toInt fz19
  have fz20 : I12 (70) 9 = 0 := ((hkI12.get (70) 9 rfl)).trans (show (u2 (u2 (u2 (u2 (u2 (u2 (u2 (u2 I1 (70) 3 (a0)) (70) 4 (0)) (70) 2 (0)) (70) 9 (0)) (70) 10 (0)) (70) 11 (0)) (70) 12 (0)) (70) 7 (0)) (70) 9 = 0 from by simp [u2_v])
  have fz20q := congrArg Int32.toInt fz20
  have fz21 : I12 (70) 10 = 0 := ((hkI12.get (70) 10 rfl)).trans (show (u2 (u2 (u2 (u2 (u2 (u2 (u2 (u2 I1 (70) 3 (a0)) (70) 4 (0)) (70) 2 (0)) (70) 9 (0)) (70) 10 (0)) (70) 11 (0)) (70) 12 (0)) (70) 7 (0)) (70) 10 = 0 from by simp [u2_v])
  have fz21q := congrArg Int32.toInt fz21
  have fz22 : I12 (70) 11 = 0 := ((hkI12.get (70) 11 rfl)).trans (show (u2 (u2 (u2 (u2 (u2 (u2 (u2 (u2 I1 (70) 3 (a0)) (70) 4 (0)) (70) 2 (0)) (70) 9 (0)) (70) 10 (0)) (70) 11 (0)) (70) 12 (0)) (70) 7 (0)) (70) 11 = 0 from by simp [u2_v])
  have fz22q := congrArg Int32.toInt fz22
  have fz23 : I12 (70) 12 = 0 := ((hkI12.get (70) 12 rfl)).trans (show (u2 (u2 (u2 (u2 (u2 (u2 (u2 (u2 I1 (70) 3 (a0)) (70) 4 (0)) (70) 2 (0)) (70) 9 (0)) (70) 10 (0)) (70) 11 (0)) (70) 12 (0)) (70) 7 (0)) (70) 12 = 0 from by simp [u2_v])
  have fz23q := congrArg Int32.toInt fz23
  have loop66 : ∀ (n : Nat) (x4_66 : Int32) (Ia66 : MI) (La66 : ML) (H : Heap) (locs : List Loc) (ls : Array Slot), INV Ia66 → Kp [(71, 73), (200, 300)] [(70, 2), (70, 3), (70, 4), (70, 5), (70, 6), (70, 7), (70, 8), (70, 9), (70, 10), (70, 11), (70, 12)] I Ia66 → (0 ≤ x4_66.toInt ∧ x4_66.toInt ≤ 401) → (TC Ia66 = TXT (I 3) a0.toInt) → (crun (TXT (I 3) a0.toInt) 401 0 0 (I 70 8).toInt [] 0 [] 0 0 (0, (CLS I w).2) = ARS (crun (TXT (I 3) a0.toInt) (401 - (x4_66).toNatClampNeg)) w Ia66 (Ia66 70 4).toNatClampNeg) → (OTH w I Ia66) → (402 - x4_66.toInt).toNat < n → Mem D A ad ns Ia66 La66 (u2 G (70) 13 (w)) H → va_S A s.heap H locs → lv_has ls 5 [(4, .int (x4_66)), (0, .ref (ad (70))), (1, .ref (ad (3))), (2, .int (a0)), (3, .ref (ad (w)))] → W p l e ({ frames := 7, cells := 0, slots := 0, locals := 147 } : Room) s m args below meth c H locs 0 0 (MQ below (va_Qi (fun r u => ∃ I2 L2, u = (ad, ns, I2, L2, u2 G 70 13 w) ∧ INV I2 ∧ Kp [(71, 73), (200, 300)] [(70, 2), (70, 3), (70, 4), (70, 5), (70, 6), (70, 7), (70, 8), (70, 9), (70, 10), (70, 11), (70, 12)] I I2 ∧ (OTH w I I2 ∧ (RDX w I I2 a0 r))) (BM D A) A) args s 0 0 A) (F0 m 66 ls []) := by
    intro n
    induction n with
    | zero =>
      intro x4_66 Ia66 La66 H locs ls hI hK hr4_66 hTC hrun hoth hmu
      exact absurd hmu (Nat.not_lt_zero _)
    | succ n ih66 =>
      intro x4_66 Ia66 La66 H locs ls hI hK hr4_66 hTC hrun hoth hmu66 hM hS hl
      refine lv_iload hx hb dX4_read_66 (lv_at hl 0 rfl) ?_
      refine lv_sipush (v := (400)) hx hb dX4_read_68 (by decide) ?_
      refine lv_icmp_gt (tgt := 116) hx hb dX4_read_71 (by decide) (fun c24 => ?_) (fun c24 => ?_)
      · have hc24 := c24
        have q24 := q_lt hc24
        refine lv_aload_n hx hb dX4_read_116 rfl (lv_at hl 1 rfl) ?_
        refine m_geti (70) 12 hx hb hts hown hE oc4 hM (hG.1 70 (by decide)) rfl (by decide) rfl tb_330 dX4_read_117 ?_
        exact m_iret hx hb hr hlocks hM hS (Nat.le_of_ble_eq_true rfl) (Nat.le_of_ble_eq_true rfl) ⟨_, _, rfl, hI, hK, ⟨hoth, (rd_end hrun (crun_ends (TXT_ok (by omega)) 401 0 _ _ _ _ _ _ _ _ (by decide) (by decide)) (Or.inl (by have z1 := tn (i := x4_66) (by omega); omega)))⟩⟩ dX4_read_120
      · have hc24 := c24
        have q24 := q_nlt hc24
        refine lv_aload_n hx hb dX4_read_74 rfl (lv_at hl 1 rfl) ?_
        refine m_geti (70) 7 hx hb hts hown hE oc4 hM (hG.1 70 (by decide)) rfl (by decide) rfl tb_325 dX4_read_75 ?_
        have g25 := hI.get (70) 7 (lo := 0) (hi := 5) rfl
        refine lv_iconst (v := (5)) hx hb dX4_read_78 (by decide) ?_
        refine lv_icmp_eq (tgt := 116) hx hb dX4_read_79 (by decide) (fun c26 => ?_) (fun c26 => ?_)
        · have hc26 := c26
          have q26 := q_eq hc26
          refine lv_aload_n hx hb dX4_read_116 rfl (lv_at hl 1 rfl) ?_
          refine m_geti (70) 12 hx hb hts hown hE oc4 hM (hG.1 70 (by decide)) rfl (by decide) rfl tb_330 dX4_read_117 ?_
          exact m_iret hx hb hr hlocks hM hS (Nat.le_of_ble_eq_true rfl) (Nat.le_of_ble_eq_true rfl) ⟨_, _, rfl, hI, hK, ⟨hoth, (rd_end hrun (crun_ends (TXT_ok (by omega)) 401 0 _ _ _ _ _ _ _ _ (by decide) (by decide)) (Or.inr (Or.inl (by omega))))⟩⟩ dX4_read_120
        · have hc26 := c26
          have q26 := q_ne hc26
          refine lv_aload_n hx hb dX4_read_82 rfl (lv_at hl 1 rfl) ?_
          refine m_geti (70) 12 hx hb hts hown hE oc4 hM (hG.1 70 (by decide)) rfl (by decide) rfl tb_330 dX4_read_83 ?_
          refine lv_if_ne (tgt := 116) hx hb dX4_read_86 (by decide) (fun c27 => ?_) (fun c27 => ?_)
          · have hc27 := c27
            have q27 := q_ne hc27
            refine lv_aload_n hx hb dX4_read_116 rfl (lv_at hl 1 rfl) ?_
            refine m_geti (70) 12 hx hb hts hown hE oc4 hM (hG.1 70 (by decide)) rfl (by decide) rfl tb_330 dX4_read_117 ?_
            exact m_iret hx hb hr hlocks hM hS (Nat.le_of_ble_eq_true rfl) (Nat.le_of_ble_eq_true rfl) ⟨_, _, rfl, hI, hK, ⟨hoth, (rd_end hrun (crun_ends (TXT_ok (by omega)) 401 0 _ _ _ _ _ _ _ _ (by decide) (by decide)) (Or.inr (Or.inr (by omega))))⟩⟩ dX4_read_120
          · have hc27 := c27
            have q27 := q_eq hc27
            refine lv_aload_n hx hb dX4_read_89 rfl (lv_at hl 1 rfl) ?_
            refine m_callv (m_runV (70) (As := []) (rest := []) hx hb hml hown hts hE hM hS hA ce_X4_readToken tb_573 (V_X4_readToken_h l D A ad ns Ia66 La66 (u2 G (70) 13 (w)) hG hI) rfl rfl ⟨Nat.le_of_ble_eq_true rfl, Nat.le_of_ble_eq_true rfl⟩ (hG.1 70 (by decide)) rfl rfl (by decide) rfl hl.1 rfl (Nat.le_of_ble_eq_true rfl) dX4_read_90 ⟨Nat.le_of_ble_eq_true rfl, Nat.le_of_ble_eq_true rfl⟩) hS (fun u H locs hw hM hS => ?_)
            obtain ⟨I28, L29, rfl, hI, hkI28, xI28⟩ := hw
            have hM : Mem D A ad ns I28 L29 (u2 G (70) 13 (w)) H := hM
            have hK := hK.trans hkI28 rfl
            refine lv_aload_n hx hb dX4_read_93 rfl (lv_at hl 1 rfl) ?_
            refine m_callv (m_runV (70) (As := []) (rest := []) hx hb hml hown hts hE hM hS hA ce_X4_takeToken tb_665 (V_X4_takeToken_h l D A ad ns I28 L29 (u2 G (70) 13 (w)) (w) hG hI hW hd (by rw [hkI28.get 70 12 rfl]; omega) (by rw [hkI28.get 70 7 rfl]; omega)) rfl rfl ⟨Nat.le_of_ble_eq_true rfl, Nat.le_of_ble_eq_true rfl⟩ (hG.1 70 (by decide)) rfl rfl (by decide) rfl hl.1 rfl (Nat.le_of_ble_eq_true rfl) dX4_read_94 ⟨Nat.le_of_ble_eq_true rfl, Nat.le_of_ble_eq_true rfl⟩) hS (fun u H locs hw hM hS => ?_)
            obtain ⟨I30, L31, rfl, hI, hkI30, xI30⟩ := hw
            have hM : Mem D A ad ns I30 L31 (u2 G (70) 13 (w)) H := hM
            have hK := hK.trans hkI30 rfl
            obtain ⟨ot32, xI30⟩ := xI30
            refine lv_aload_n hx hb dX4_read_97 rfl (lv_at hl 1 rfl) ?_
            refine lv_dup hx hb dX4_read_98 rfl ?_
            refine m_geti (70) 4 hx hb hts hown hE oc4 hM (hG.1 70 (by decide)) rfl (by decide) rfl tb_322 dX4_read_99 ?_
            have g33 := hI.get (70) 4 (lo := 0) (hi := 801) rfl
            have z34 : I30 (70) 4 = I28 (70) 4 := (hkI30.get (70) 4 rfl)
            rw [z34] at g33 ⊢
            refine lv_aload_n hx hb dX4_read_102 rfl (lv_at hl 1 rfl) ?_
            refine m_geti (70) 6 hx hb hts hown hE oc4 hM (hG.1 70 (by decide)) rfl (by decide) rfl tb_324 dX4_read_103 ?_
            have g35 := hI.get (70) 6 (lo := 0) (hi := 401) rfl
            have z36 : I30 (70) 6 = I28 (70) 6 := (hkI30.get (70) 6 rfl)
            rw [z36] at g35 ⊢
            refine lv_iadd hx hb dX4_read_106 ?_
            refine lv_topi (fun v37 ev37 => ?_)
            have tv37 := a_add ev37 (by omega) (by omega)
            refine m_puti (70) 4 hx hb hts hown hE oc4 hM hS (hG.1 70 (by decide)) rfl (by decide) rfl rfl rfl rfl tb_322 dX4_read_107 (fun H locs I38 eI38 hM hS => ?_)
            subst eI38
            have hI := hI.put (n := 70) (k := 4) (v := v37) (lo := 0) (hi := 801) rfl (by first | omega | decide)
            have hK := hK.put (n := 70) (k := 4) (v := v37) (by first | rfl | simp [inR])
            obtain ⟨v39, ev39⟩ : ∃ z : Int32, z = x4_66 + Int32.ofInt (1) := ⟨_, rfl⟩
            have tv39 := a_inc ev39 (by decide) (by omega) (by omega)
            refine lv_iinc (v := v39) (lv' := [(4, .int (v39)), (0, .ref (ad (70))), (1, .ref (ad (3))), (2, .int (a0)), (3, .ref (ad (w)))]) hx hb dX4_read_110 hl (k := 0) rfl ev39.symm (by decide) rfl (fun ls hl => ?_)
            refine lv_goto (tgt := 66) hx hb dX4_read_113 (by decide) ?_
            have e4 : (u2 I30 (70) 4 (v37)) (70) 4 = v37 := (show (u2 I30 (70) 4 (v37)) (70) 4 = v37 from by simp [u2_v])
            have z4 : (v37).toNatClampNeg = (I28 70 4).toNatClampNeg + (I28 70 6).toNatClampNeg := by have z1 := tn (i := v37) (by omega); have z2 := tn (i := I28 70 4) (by omega); have z3 := tn (i := I28 70 6) (by omega); omega
            have zt : 401 - (x4_66).toNatClampNeg = (401 - (v39).toNatClampNeg) + 1 := by have z1 := tn (i := v39) (by omega); have z2 := tn (i := x4_66) (by omega); omega
            rw [zt] at hrun
            exact ih66 (v39) (u2 I30 (70) 4 (v37)) L31 _ _ ls hI hK (by first | omega | decide) ((TC_of ((((show (u2 I30 (70) 4 (v37)) 71 = I30 71 from by funext zz; simp [u2_v])).trans (hkI30.getA 71 rfl)).trans (hkI28.getA 71 rfl)) ((((show (u2 I30 (70) 4 (v37)) 70 3 = I30 70 3 from by simp [u2_v])).trans (hkI30.get 70 3 rfl)).trans (hkI28.get 70 3 rfl))).trans hTC) (rd_step hrun (by omega) (by omega) hTC xI28.2 (kp456 hkI28) (hkI28.getA 72 rfl) (LQ.kp hW.1 hkI28 rfl rfl) xI30 (fun k hk => by simp [u2_v, hk]) (by funext zz; simp [u2_v]) (LQ.put hW.1 (by decide)) (by rw [e4]; exact z4)) (((hoth.trans (show OTH w Ia66 I28 from OTH.kp hkI28 rfl rfl)).trans (show OTH w I28 I30 from ot32)).trans (show OTH w I30 (u2 I30 (70) 4 (v37)) from OTH.put (by omega))) (by omega) hM hS (lv_sub hl [0, 1, 2, 3, 4] rfl)
  exact loop66 (_ + 1) (0) I12 L13 _ _ ls hI hK (by first | omega | decide) (TC_cp fz16 (((hkI12.getA 71 rfl)).trans (show (u2 (u2 (u2 (u2 (u2 (u2 (u2 (u2 I1 (70) 3 (a0)) (70) 4 (0)) (70) 2 (0)) (70) 9 (0)) (70) 10 (0)) (70) 11 (0)) (70) 12 (0)) (70) 7 (0)) 71 = I1 71 from by funext zz; simp [u2_v])) hcp (by omega)) (by rw [show (I12 70 4).toNatClampNeg = 0 from cl_of (by omega)]; exact ars_k (by omega) (by omega) (by decide) (by omega) (STK_nil (by omega)) fz20 xI12.1 fz21 (by omega) (by rw [xI12.2, ((((((((((show LQ w I I1 from LQ.kp hW.1 hkI1 rfl rfl).trans (show LQ w I1 (u2 I1 (70) 3 (a0)) from LQ.put hW.1 (by decide))).trans (show LQ w (u2 I1 (70) 3 (a0)) (u2 (u2 I1 (70) 3 (a0)) (70) 4 (0)) from LQ.put hW.1 (by decide))).trans (show LQ w (u2 (u2 I1 (70) 3 (a0)) (70) 4 (0)) (u2 (u2 (u2 I1 (70) 3 (a0)) (70) 4 (0)) (70) 2 (0)) from LQ.put hW.1 (by decide))).trans (show LQ w (u2 (u2 (u2 I1 (70) 3 (a0)) (70) 4 (0)) (70) 2 (0)) (u2 (u2 (u2 (u2 I1 (70) 3 (a0)) (70) 4 (0)) (70) 2 (0)) (70) 9 (0)) from LQ.put hW.1 (by decide))).trans (show LQ w (u2 (u2 (u2 (u2 I1 (70) 3 (a0)) (70) 4 (0)) (70) 2 (0)) (70) 9 (0)) (u2 (u2 (u2 (u2 (u2 I1 (70) 3 (a0)) (70) 4 (0)) (70) 2 (0)) (70) 9 (0)) (70) 10 (0)) from LQ.put hW.1 (by decide))).trans (show LQ w (u2 (u2 (u2 (u2 (u2 I1 (70) 3 (a0)) (70) 4 (0)) (70) 2 (0)) (70) 9 (0)) (70) 10 (0)) (u2 (u2 (u2 (u2 (u2 (u2 I1 (70) 3 (a0)) (70) 4 (0)) (70) 2 (0)) (70) 9 (0)) (70) 10 (0)) (70) 11 (0)) from LQ.put hW.1 (by decide))).trans (show LQ w (u2 (u2 (u2 (u2 (u2 (u2 I1 (70) 3 (a0)) (70) 4 (0)) (70) 2 (0)) (70) 9 (0)) (70) 10 (0)) (70) 11 (0)) (u2 (u2 (u2 (u2 (u2 (u2 (u2 I1 (70) 3 (a0)) (70) 4 (0)) (70) 2 (0)) (70) 9 (0)) (70) 10 (0)) (70) 11 (0)) (70) 12 (0)) from LQ.put hW.1 (by decide))).trans (show LQ w (u2 (u2 (u2 (u2 (u2 (u2 (u2 I1 (70) 3 (a0)) (70) 4 (0)) (70) 2 (0)) (70) 9 (0)) (70) 10 (0)) (70) 11 (0)) (70) 12 (0)) (u2 (u2 (u2 (u2 (u2 (u2 (u2 (u2 I1 (70) 3 (a0)) (70) 4 (0)) (70) 2 (0)) (70) 9 (0)) (70) 10 (0)) (70) 11 (0)) (70) 12 (0)) (70) 7 (0)) from LQ.put hW.1 (by decide)))).2])) ((((((((((show OTH w I I1 from OTH.kp hkI1 rfl rfl).trans (show OTH w I1 (u2 I1 (70) 3 (a0)) from OTH.put (by omega))).trans (show OTH w (u2 I1 (70) 3 (a0)) (u2 (u2 I1 (70) 3 (a0)) (70) 4 (0)) from OTH.put (by omega))).trans (show OTH w (u2 (u2 I1 (70) 3 (a0)) (70) 4 (0)) (u2 (u2 (u2 I1 (70) 3 (a0)) (70) 4 (0)) (70) 2 (0)) from OTH.put (by omega))).trans (show OTH w (u2 (u2 (u2 I1 (70) 3 (a0)) (70) 4 (0)) (70) 2 (0)) (u2 (u2 (u2 (u2 I1 (70) 3 (a0)) (70) 4 (0)) (70) 2 (0)) (70) 9 (0)) from OTH.put (by omega))).trans (show OTH w (u2 (u2 (u2 (u2 I1 (70) 3 (a0)) (70) 4 (0)) (70) 2 (0)) (70) 9 (0)) (u2 (u2 (u2 (u2 (u2 I1 (70) 3 (a0)) (70) 4 (0)) (70) 2 (0)) (70) 9 (0)) (70) 10 (0)) from OTH.put (by omega))).trans (show OTH w (u2 (u2 (u2 (u2 (u2 I1 (70) 3 (a0)) (70) 4 (0)) (70) 2 (0)) (70) 9 (0)) (70) 10 (0)) (u2 (u2 (u2 (u2 (u2 (u2 I1 (70) 3 (a0)) (70) 4 (0)) (70) 2 (0)) (70) 9 (0)) (70) 10 (0)) (70) 11 (0)) from OTH.put (by omega))).trans (show OTH w (u2 (u2 (u2 (u2 (u2 (u2 I1 (70) 3 (a0)) (70) 4 (0)) (70) 2 (0)) (70) 9 (0)) (70) 10 (0)) (70) 11 (0)) (u2 (u2 (u2 (u2 (u2 (u2 (u2 I1 (70) 3 (a0)) (70) 4 (0)) (70) 2 (0)) (70) 9 (0)) (70) 10 (0)) (70) 11 (0)) (70) 12 (0)) from OTH.put (by omega))).trans (show OTH w (u2 (u2 (u2 (u2 (u2 (u2 (u2 I1 (70) 3 (a0)) (70) 4 (0)) (70) 2 (0)) (70) 9 (0)) (70) 10 (0)) (70) 11 (0)) (70) 12 (0)) (u2 (u2 (u2 (u2 (u2 (u2 (u2 (u2 I1 (70) 3 (a0)) (70) 4 (0)) (70) 2 (0)) (70) 9 (0)) (70) 10 (0)) (70) 11 (0)) (70) 12 (0)) (70) 7 (0)) from OTH.put (by omega))).trans (show OTH w (u2 (u2 (u2 (u2 (u2 (u2 (u2 (u2 I1 (70) 3 (a0)) (70) 4 (0)) (70) 2 (0)) (70) 9 (0)) (70) 10 (0)) (70) 11 (0)) (70) 12 (0)) (70) 7 (0)) I12 from ot14)) (Nat.lt_succ_self _) hM hS (lv_sub hl [0, 1, 2, 3, 4] rfl)
