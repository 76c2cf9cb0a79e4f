set_option maxHeartbeats 4000000 in
set_option maxRecDepth 20000 in
theorem V_X5_restore_t (l : Launch) (D : va_G) (A : Nat → Prop) (ad : Nat → Nat) (ns : List Nat) (I : MI) (L : ML) (G : MG) (hG : SGC ns G) (hI : INV I) : Met l yX5_restore (wd yX5_restore cX5_restore 1 none) ({ frames := 1, cells := 0, slots := 0, locals := 23 }) (va_Pc [.ref (ad (40))] (PM D A ad ns I L G)) (va_Qv (fun u => ∃ I2 L2, u = (ad, ns, I2, L2, G) ∧ INV I2 ∧ Kp [(107, 108)] [] I I2 ∧ (EqV (stV (cF 100 I) 15 (I 40 6).toNatClampNeg (I 40 7)) (cF 100 I2))) (BM D A) A) 0 0 A := by
  refine m_ofW (by decide) (Nat.le_of_ble_eq_true rfl) ?_
  intro p e s m below meth c ls args hC hE hM hA hS hl
  obtain ⟨hx, hb, hml, hown, hts, hr, hlocks, hin⟩ := hC
  have k0 : (0 : Int32).toInt = 0 := by decide
  have k8 : (8 : Int32).toInt = 8 := by decide
  have hK : Kp [(107, 108)] [] I I := Kp.rf
  have hl : lv_has ls 1 [(0, .ref (ad (40)))] := hl
  refine lv_aload_n hx hb dX5_restore_0 rfl (lv_at hl 0 rfl) ?_
  refine m_getr (40) 1 (100) hx hb hts hown hE oc5 hM (hG.1 40 (by decide)) rfl (by decide) rfl (hG.2 (40, 1, 100) (by decide)) (by decide) tb_235 dX5_restore_1 ?_
  refine lv_aload_n hx hb dX5_restore_4 rfl (lv_at hl 0 rfl) ?_
  refine m_geti (40) 6 hx hb hts hown hE oc5 hM (hG.1 40 (by decide)) rfl (by decide) rfl tb_240 dX5_restore_5 ?_
  have g1 := hI.get (40) 6 (lo := 0) (hi := 23) rfl
  refine lv_bipush (v := (8)) hx hb dX5_restore_8 (by decide) ?_
  refine lv_aload_n hx hb dX5_restore_10 rfl (lv_at hl 0 rfl) ?_
  refine m_geti (40) 7 hx hb hts hown hE oc5 hM (hG.1 40 (by decide)) rfl (by decide) rfl tb_241 dX5_restore_11 ?_
  refine m_callv (m_runV (100) (As := [.int (I (40) 6), .int (8), .int (I (40) 7)]) (rest := []) hx hb hml hown hts hE hM hS hA ce_X8_setMirror tb_1019 (V_X8_setMirror_100_t l D A ad ns I L G (I (40) 6) (8) (I (40) 7) hG hI (by first | omega | decide) (by first | omega | decide)) rfl rfl ⟨Nat.le_of_ble_eq_true rfl, Nat.le_of_ble_eq_true rfl⟩ (hG.1 100 (by decide)) rfl rfl (by decide) rfl hl.1 rfl (Nat.le_of_ble_eq_true rfl) dX5_restore_14 ⟨Nat.le_of_ble_eq_true rfl, Nat.le_of_ble_eq_true rfl⟩) hS (fun u H locs hw hM hS => ?_)
  obtain ⟨I2, L3, rfl, hI, hkI2, xI2⟩ := hw
  have hM : Mem D A ad ns I2 L3 G H := hM
  have hK := hK.trans hkI2 rfl
  exact m_vret hx hb hr hlocks hM hS (Nat.le_of_ble_eq_true rfl) (Nat.le_of_ble_eq_true rfl) ⟨_, _, rfl, hI, hK, (EqV.rf.st xI2)⟩ dX5_restore_17
set_option maxHeartbeats 4000000 in
set_option maxRecDepth 20000 in
theorem V_X5_begin_t (l : Launch) (D : va_G) (A : Nat → Prop) (ad : Nat → Nat) (ns : List Nat) (I : MI) (L : ML) (G : MG) (a0 : Int32) (a1 : Int32) (hG : SGC ns G) (hI : INV I) (hlit : Lit 100 I a0) (ha0 : 0 ≤ a0.toInt ∧ a0.toInt ≤ 23) (ha1 : 0 ≤ a1.toInt ∧ a1.toInt ≤ 23) : Met l yX5_begin (wd yX5_begin cX5_begin 4 none) ({ frames := 4, cells := 0, slots := 0, locals := 107 }) (va_Pc [.ref (ad (40)), .int a0, .int a1] (PM D A ad ns I L G)) (va_Qv (fun u => ∃ I2 L2, u = (ad, ns, I2, L2, G) ∧ INV I2 ∧ Kp [(11, 15), (41, 43), (107, 108)] [(10, 2), (10, 3), (10, 4), (10, 5), (10, 6), (10, 7), (10, 11), (10, 12), (40, 5), (40, 6), (40, 7)] I I2 ∧ (I2 40 5 = a0 ∧ I2 40 6 = a1 ∧ I2 40 7 = cF 100 I 15 (a1).toNatClampNeg ∧ EqV (stV (cF 100 I) 15 (a1).toNatClampNeg 1) (cF 100 I2))) (BM D A) A) 0 0 A := by
  refine m_ofW (by decide) (Nat.le_of_ble_eq_true rfl) ?_
  intro p e s m below meth c ls args hC hE hM hA hS hl
  obtain ⟨hx, hb, hml, hown, hts, hr, hlocks, hin⟩ := hC
  have km2 : (-2 : Int32).toInt = -2 := by decide
  have k0 : (0 : Int32).toInt = 0 := by decide
  have k1 : (1 : Int32).toInt = 1 := by decide
  have k2 : (2 : Int32).toInt = 2 := by decide
  have k8 : (8 : Int32).toInt = 8 := by decide
  have hK : Kp [(11, 15), (41, 43), (107, 108)] [(10, 2), (10, 3), (10, 4), (10, 5), (10, 6), (10, 7), (10, 11), (10, 12), (40, 5), (40, 6), (40, 7)] I I := Kp.rf
  have hl : lv_has ls 4 [(0, .ref (ad (40))), (1, .int (a0)), (2, .int (a1))] := hl
  refine lv_aload_n hx hb dX5_begin_0 rfl (lv_at hl 0 rfl) ?_
  refine lv_iload_n hx hb dX5_begin_1 rfl (lv_at hl 1 rfl) ?_
  refine m_puti (40) 5 hx hb hts hown hE oc5 hM hS (hG.1 40 (by decide)) rfl (by decide) rfl rfl rfl rfl tb_239 dX5_begin_2 (fun H locs I1 eI1 hM hS => ?_)
  subst eI1
  have hI := hI.put (n := 40) (k := 5) (v := a0) (lo := 0) (hi := 23) rfl (by first | omega | decide)
  have hK := hK.put (n := 40) (k := 5) (v := a0) (by first | rfl | simp [inR])
  refine lv_aload_n hx hb dX5_begin_5 rfl (lv_at hl 0 rfl) ?_
  refine lv_iload_n hx hb dX5_begin_6 rfl (lv_at hl 2 rfl) ?_
  refine m_puti (40) 6 hx hb hts hown hE oc5 hM hS (hG.1 40 (by decide)) rfl (by decide) rfl rfl rfl rfl tb_240 dX5_begin_7 (fun H locs I2 eI2 hM hS => ?_)
  subst eI2
  have hI := hI.put (n := 40) (k := 6) (v := a1) (lo := 0) (hi := 23) rfl (by first | omega | decide)
  have hK := hK.put (n := 40) (k := 6) (v := a1) (by first | rfl | simp [inR])
  refine lv_aload_n hx hb dX5_begin_10 rfl (lv_at hl 0 rfl) ?_
  refine lv_aload_n hx hb dX5_begin_11 rfl (lv_at hl 0 rfl) ?_
  refine m_getr (40) 1 (100) hx hb hts hown hE oc5 hM (hG.1 40 (by decide)) rfl (by decide) rfl (hG.2 (40, 1, 100) (by decide)) (by decide) tb_235 dX5_begin_12 ?_
  refine lv_iload_n hx hb dX5_begin_15 rfl (lv_at hl 2 rfl) ?_
  refine lv_bipush (v := (8)) hx hb dX5_begin_16 (by decide) ?_
  refine m_calli (m_runV (100) (As := [.int (a1), .int (8)]) (rest := [.ref (ad (40))]) hx hb hml hown hts hE hM hS hA ce_X8_ofMirror tb_1016 (V_X8_ofMirror_100_t l D A ad ns (u2 (u2 I (40) 5 (a0)) (40) 6 (a1)) L G (a1) (8) hG hI (by first | omega | decide) (by first | omega | decide)) rfl rfl ⟨Nat.le_of_ble_eq_true rfl, Nat.le_of_ble_eq_true rfl⟩ (hG.1 100 (by decide)) rfl rfl (by decide) rfl hl.1 rfl (Nat.le_of_ble_eq_true rfl) dX5_begin_18 ⟨Nat.le_of_ble_eq_true rfl, Nat.le_of_ble_eq_true rfl⟩) hS (fun r3 u H locs hw hM hS => ?_)
  obtain ⟨rfl, xr3⟩ := hw
  have hM : Mem D A ad ns (u2 (u2 I (40) 5 (a0)) (40) 6 (a1)) L G H := hM
  have hof : r3 = cF 100 I 15 (a1).toNatClampNeg := xr3.trans (congrFun ((show (u2 (u2 I (40) 5 (a0)) (40) 6 (a1)) 107 = I 107 from by funext zz; simp [u2_v])) _)
  refine m_puti (40) 7 hx hb hts hown hE oc5 hM hS (hG.1 40 (by decide)) rfl (by decide) rfl rfl rfl rfl tb_241 dX5_begin_21 (fun H locs I4 eI4 hM hS => ?_)
  subst eI4
  have hI := hI.putF (n := 40) (k := 7) (v := r3) rfl
  have hK := hK.put (n := 40) (k := 7) (v := r3) (by first | rfl | simp [inR])
  refine lv_aload_n hx hb dX5_begin_24 rfl (lv_at hl 0 rfl) ?_
  refine m_getr (40) 0 (41) hx hb hts hown hE oc5 hM (hG.1 40 (by decide)) rfl (by decide) rfl (hG.2 (40, 0, 41) (by decide)) (by decide) tb_233 dX5_begin_25 ?_
  refine lv_bipush (v := (-2)) hx hb dX5_begin_28 (by decide) ?_
  refine m_callv (m_runS (As := [.ref (ad (41)), .int ((-2 : Int32))]) (rest := []) hx hb hml hown hts hE hM hS hA ce_J7_fill_53178 tb_1017 (C_J7_fill_53178 l D A ad ns (u2 (u2 (u2 I (40) 5 (a0)) (40) 6 (a1)) (40) 7 (r3)) L G (41) 5 ((-2 : Int32)) (hG.1 41 (by decide)) rfl (by decide)) rfl rfl ⟨Nat.le_of_ble_eq_true rfl, Nat.le_of_ble_eq_true rfl⟩  rfl hl.1 rfl (Nat.le_of_ble_eq_true rfl) dX5_begin_30 ⟨Nat.le_of_ble_eq_true rfl, Nat.le_of_ble_eq_true rfl⟩) hS (fun u H locs hw hM hS => ?_)
  subst hw
  obtain ⟨I5, eI5⟩ : ∃ z : MI, z = fillI (u2 (u2 (u2 I (40) 5 (a0)) (40) 6 (a1)) (40) 7 (r3)) 41 5 ((-2 : Int32)) := ⟨_, rfl⟩
  have hM : Mem D A ad ns I5 L G H := by rw [eI5]; exact hM
  have hkI5 : Kp [(41, 42)] [] (u2 (u2 (u2 I (40) 5 (a0)) (40) 6 (a1)) (40) 7 (r3)) I5 := by rw [eI5]; exact Kp.rf.fill rfl
  have hI : INV I5 := by rw [eI5]; exact hI.fill (fun k _ => (by decide : (-2147483648 : Int) ≤ ((-2 : Int32) : Int32).toInt ∧ ((-2 : Int32) : Int32).toInt ≤ (2147483647 : Int)))
  have hK := hK.trans hkI5 rfl
  refine lv_aload_n hx hb dX5_begin_33 rfl (lv_at hl 0 rfl) ?_
  refine m_getr (40) 2 (10) hx hb hts hown hE oc5 hM (hG.1 40 (by decide)) rfl (by decide) rfl (hG.2 (40, 2, 10) (by decide)) (by decide) tb_236 dX5_begin_34 ?_
  refine lv_aload_n hx hb dX5_begin_37 rfl (lv_at hl 0 rfl) ?_
  refine m_getr (40) 1 (100) hx hb hts hown hE oc5 hM (hG.1 40 (by decide)) rfl (by decide) rfl (hG.2 (40, 1, 100) (by decide)) (by decide) tb_235 dX5_begin_38 ?_
  refine lv_aload_n hx hb dX5_begin_41 rfl (lv_at hl 0 rfl) ?_
  refine m_geti (40) 5 hx hb hts hown hE oc5 hM (hG.1 40 (by decide)) rfl (by decide) rfl tb_239 dX5_begin_42 ?_
  have g6 := hI.get (40) 5 (lo := 0) (hi := 23) rfl
  have z7 : I5 (40) 5 = a0 := ((hkI5.get (40) 5 rfl)).trans (show (u2 (u2 (u2 I (40) 5 (a0)) (40) 6 (a1)) (40) 7 (r3)) (40) 5 = a0 from by simp [u2_v])
  rw [z7] at g6 ⊢
  refine m_callv (m_runV (10) (As := [.ref (ad (100)), .int (a0)]) (rest := []) hx hb hml hown hts hE hM hS hA ce_X1_shine tb_1018 (V_X1_shine_100 l D A ad ns I5 L G (a0) hG hI (hlit.kp hK rfl) (by first | omega | decide)) rfl rfl ⟨Nat.le_of_ble_eq_true rfl, Nat.le_of_ble_eq_true rfl⟩ (hG.1 10 (by decide)) rfl rfl (by decide) rfl hl.1 rfl (Nat.le_of_ble_eq_true rfl) dX5_begin_45 ⟨Nat.le_of_ble_eq_true rfl, Nat.le_of_ble_eq_true rfl⟩) hS (fun u H locs hw hM hS => ?_)
  obtain ⟨I8, L9, rfl, hI, hkI8⟩ := hw
  have hM : Mem D A ad ns I8 L9 G H := hM
  have hK := hK.trans hkI8 rfl
  refine lv_iconst (v := (0)) hx hb dX5_begin_48 (by decide) ?_
  refine lv_istore_n (lv' := [(3, .int (0)), (0, .ref (ad (40))), (1, .int (a0)), (2, .int (a1))]) hx hb dX5_begin_49 rfl hl (by decide) rfl (fun ls hl => ?_)
  have loop50 : ∀ (n : Nat) (x3_50 : Int32) (Ia50 : MI) (La50 : ML) (H : Heap) (locs : List Loc) (ls : Array Slot), INV Ia50 → Kp [(11, 15), (41, 43), (107, 108)] [(10, 2), (10, 3), (10, 4), (10, 5), (10, 6), (10, 7), (10, 11), (10, 12), (40, 5), (40, 6), (40, 7)] I Ia50 → (0 ≤ x3_50.toInt ∧ x3_50.toInt ≤ 8) → (Ia50 40 5 = a0) → (Ia50 40 6 = a1) → (Ia50 40 7 = cF 100 I 15 (a1).toNatClampNeg) → (EqV (cF 100 I) (cF 100 Ia50)) → (8 - x3_50.toInt).toNat < n → Mem D A ad ns Ia50 La50 G H → va_S A s.heap H locs → lv_has ls 4 [(3, .int (x3_50)), (0, .ref (ad (40))), (1, .int (a0)), (2, .int (a1))] → W p l e ({ frames := 4, cells := 0, slots := 0, locals := 107 } : Room) s m args below meth c H locs 0 0 (MQ below (va_Qv (fun u => ∃ I2 L2, u = (ad, ns, I2, L2, G) ∧ INV I2 ∧ Kp [(11, 15), (41, 43), (107, 108)] [(10, 2), (10, 3), (10, 4), (10, 5), (10, 6), (10, 7), (10, 11), (10, 12), (40, 5), (40, 6), (40, 7)] I I2 ∧ (I2 40 5 = a0 ∧ I2 40 6 = a1 ∧ I2 40 7 = cF 100 I 15 (a1).toNatClampNeg ∧ EqV (stV (cF 100 I) 15 (a1).toNatClampNeg 1) (cF 100 I2))) (BM D A) A) args s 0 0 A) (F0 m 50 ls []) := by
    intro n
    induction n with
    | zero =>
      intro x3_50 Ia50 La50 H locs ls hI hK hr3_50 hz5 hz6 hz7 hv50 hmu
      exact absurd hmu (Nat.not_lt_zero _)
    | succ n ih50 =>
      intro x3_50 Ia50 La50 H locs ls hI hK hr3_50 hz5 hz6 hz7 hv50 hmu50 hM hS hl
      refine lv_iload_n hx hb dX5_begin_50 rfl (lv_at hl 0 rfl) ?_
      refine lv_bipush (v := (8)) hx hb dX5_begin_51 (by decide) ?_
      refine lv_icmp_ge (tgt := 79) hx hb dX5_begin_53 (by decide) (fun c10 => ?_) (fun c10 => ?_)
      · have hc10 := c10
        have q10 := q_le hc10
        refine lv_aload_n hx hb dX5_begin_79 rfl (lv_at hl 1 rfl) ?_
        refine m_getr (40) 1 (100) hx hb hts hown hE oc5 hM (hG.1 40 (by decide)) rfl (by decide) rfl (hG.2 (40, 1, 100) (by decide)) (by decide) tb_235 dX5_begin_80 ?_
        refine lv_iload_n hx hb dX5_begin_83 rfl (lv_at hl 3 rfl) ?_
        refine lv_bipush (v := (8)) hx hb dX5_begin_84 (by decide) ?_
        refine lv_iconst (v := (1)) hx hb dX5_begin_86 (by decide) ?_
        refine m_callv (m_runV (100) (As := [.int (a1), .int (8), .int (1)]) (rest := []) hx hb hml hown hts hE hM hS hA ce_X8_setMirror tb_1019 (V_X8_setMirror_100_t l D A ad ns Ia50 La50 G (a1) (8) (1) hG hI (by first | omega | decide) (by first | omega | decide)) rfl rfl ⟨Nat.le_of_ble_eq_true rfl, Nat.le_of_ble_eq_true rfl⟩ (hG.1 100 (by decide)) rfl rfl (by decide) rfl hl.1 rfl (Nat.le_of_ble_eq_true rfl) dX5_begin_87 ⟨Nat.le_of_ble_eq_true rfl, Nat.le_of_ble_eq_true rfl⟩) hS (fun u H locs hw hM hS => ?_)
        obtain ⟨I11, L12, rfl, hI, hkI11, xI11⟩ := hw
        have hM : Mem D A ad ns I11 L12 G H := hM
        have hK := hK.trans hkI11 rfl
        exact m_vret hx hb hr hlocks hM hS (Nat.le_of_ble_eq_true rfl) (Nat.le_of_ble_eq_true rfl) ⟨_, _, rfl, hI, hK, ⟨((hkI11.get (40) 5 rfl)).trans hz5, ((hkI11.get (40) 6 rfl)).trans hz6, ((hkI11.get (40) 7 rfl)).trans hz7, (hv50.st xI11)⟩⟩ dX5_begin_90
      · have hc10 := c10
        have q10 := q_nle hc10
        refine lv_aload_n hx hb dX5_begin_56 rfl (lv_at hl 1 rfl) ?_
        refine m_getr (40) 3 (42) hx hb hts hown hE oc5 hM (hG.1 40 (by decide)) rfl (by decide) rfl (hG.2 (40, 3, 42) (by decide)) (by decide) tb_237 dX5_begin_57 ?_
        refine lv_iload_n hx hb dX5_begin_60 rfl (lv_at hl 0 rfl) ?_
        refine lv_aload_n hx hb dX5_begin_61 rfl (lv_at hl 1 rfl) ?_
        refine m_getr (40) 2 (10) hx hb hts hown hE oc5 hM (hG.1 40 (by decide)) rfl (by decide) rfl (hG.2 (40, 2, 10) (by decide)) (by decide) tb_236 dX5_begin_62 ?_
        refine m_getr (10) 0 (11) hx hb hts hown hE oc1 hM (hG.1 10 (by decide)) rfl (by decide) rfl (hG.2 (10, 0, 11) (by decide)) (by decide) tb_130 dX5_begin_65 ?_
        refine lv_iload_n hx hb dX5_begin_68 rfl (lv_at hl 0 rfl) ?_
        refine m_iald (11) hx hb hE hM (hG.1 11 (by decide)) rfl (vp_in_iff.mpr (by omega)) dX5_begin_69 ?_
        refine lv_iconst (v := (2)) hx hb dX5_begin_70 (by decide) ?_
        refine lv_idiv hx hb dX5_begin_71 (by decide) ?_
        refine lv_topi (fun v13 ev13 => ?_)
        refine m_iast (42) hx hb hE hM hS (hG.1 42 (by decide)) rfl (vp_in_iff.mpr (by omega)) dX5_begin_72 (fun H locs I14 eI14 hM hS => ?_)
        subst eI14
        have hI := hI.putF (n := 42) (k := ((x3_50).toNatClampNeg)) (v := v13) rfl
        have hK := hK.put (n := 42) (k := ((x3_50).toNatClampNeg)) (v := v13) (by first | rfl | simp [inR])
        obtain ⟨v15, ev15⟩ : ∃ z : Int32, z = x3_50 + Int32.ofInt (1) := ⟨_, rfl⟩
        have tv15 := a_inc ev15 (by decide) (by omega) (by omega)
        refine lv_iinc (v := v15) (lv' := [(3, .int (v15)), (0, .ref (ad (40))), (1, .int (a0)), (2, .int (a1))]) hx hb dX5_begin_73 hl (k := 0) rfl ev15.symm (by decide) rfl (fun ls hl => ?_)
        refine lv_goto (tgt := 50) hx hb dX5_begin_76 (by decide) ?_
        exact ih50 (v15) (u2 Ia50 (42) ((x3_50).toNatClampNeg) (v13)) La50 _ _ ls hI hK (by first | omega | decide) (((show (u2 Ia50 (42) ((x3_50).toNatClampNeg) (v13)) (40) 5 = Ia50 (40) 5 from by simp [u2_v])).trans hz5) (((show (u2 Ia50 (42) ((x3_50).toNatClampNeg) (v13)) (40) 6 = Ia50 (40) 6 from by simp [u2_v])).trans hz6) (((show (u2 Ia50 (42) ((x3_50).toNatClampNeg) (v13)) (40) 7 = Ia50 (40) 7 from by simp [u2_v])).trans hz7) (hv50.nx (n := 42) (by decide)) (by omega) hM hS (lv_sub hl [0, 1, 2, 3] rfl)
  exact loop50 (_ + 1) (0) I8 L9 _ _ ls hI hK (by first | omega | decide) ((((hkI8.get (40) 5 rfl)).trans (hkI5.get (40) 5 rfl)).trans (show (u2 (u2 (u2 I (40) 5 (a0)) (40) 6 (a1)) (40) 7 (r3)) (40) 5 = a0 from by simp [u2_v])) ((((hkI8.get (40) 6 rfl)).trans (hkI5.get (40) 6 rfl)).trans (show (u2 (u2 (u2 I (40) 5 (a0)) (40) 6 (a1)) (40) 7 (r3)) (40) 6 = a1 from by simp [u2_v])) (((((hkI8.get (40) 7 rfl)).trans (hkI5.get (40) 7 rfl)).trans (show (u2 (u2 (u2 I (40) 5 (a0)) (40) 6 (a1)) (40) 7 (r3)) (40) 7 = r3 from by simp [u2_v])).trans hof) (((((EqV.rf.nx (n := 40) (by decide)).nx (n := 40) (by decide)).nx (n := 40) (by decide)).nk hkI5 rfl).nk hkI8 rfl) (Nat.lt_succ_self _) hM hS (lv_sub hl [0, 1, 2, 3] rfl)
set_option maxHeartbeats 4000000 in
set_option maxRecDepth 20000 in
theorem V_X5_isMendedBy_t (l : Launch) (D : va_G) (A : Nat → Prop) (ad : Nat → Nat) (ns : List Nat) (I : MI) (L : ML) (G : MG) (a0 : Int32) (a1 : Int32) (hG : SGC ns G) (hI : INV I) (hlit : Lit 100 I (I 40 5)) (ha0 : 0 ≤ a0.toInt ∧ a0.toInt ≤ 23) (ha1 : 0 ≤ a1.toInt ∧ a1.toInt ≤ 7) : Met l yX5_isMendedBy (wd yX5_isMendedBy cX5_isMendedBy 5 (some .boolean)) ({ frames := 5, cells := 0, slots := 0, locals := 128 }) (va_Pc [.ref (ad (40)), .int a0, .int a1] (PM D A ad ns I L G)) (va_Qi (fun r u => ∃ I2 L2, u = (ad, ns, I2, L2, G) ∧ INV I2 ∧ Kp [(11, 15), (43, 44), (107, 108)] [(10, 2), (10, 3), (10, 4), (10, 5), (10, 6), (10, 7), (10, 11), (10, 12)] I I2 ∧ ((0 ≤ r.toInt ∧ r.toInt ≤ 1) ∧ KV 100 I I2)) (BM D A) A) 0 0 A := by
  refine m_ofW (by decide) (Nat.le_of_ble_eq_true rfl) ?_
  intro p e s m below meth c ls args hC hE hM hA hS hl
  obtain ⟨hx, hb, hml, hown, hts, hr, hlocks, hin⟩ := hC
  have k0 : (0 : Int32).toInt = 0 := by decide
  have k2 : (2 : Int32).toInt = 2 := by decide
  have k8 : (8 : Int32).toInt = 8 := by decide
  have hK : Kp [(11, 15), (43, 44), (107, 108)] [(10, 2), (10, 3), (10, 4), (10, 5), (10, 6), (10, 7), (10, 11), (10, 12)] I I := Kp.rf
  have hl : lv_has ls 5 [(0, .ref (ad (40))), (1, .int (a0)), (2, .int (a1))] := hl
  refine lv_aload_n hx hb dX5_isMendedBy_0 rfl (lv_at hl 0 rfl) ?_
  refine m_getr (40) 1 (100) hx hb hts hown hE oc5 hM (hG.1 40 (by decide)) rfl (by decide) rfl (hG.2 (40, 1, 100) (by decide)) (by decide) tb_235 dX5_isMendedBy_1 ?_
  refine lv_iload_n hx hb dX5_isMendedBy_4 rfl (lv_at hl 1 rfl) ?_
  refine lv_iconst (v := (2)) hx hb dX5_isMendedBy_5 (by decide) ?_
  refine m_calli (m_runV (100) (As := [.int (a0), .int (2)]) (rest := []) hx hb hml hown hts hE hM hS hA ce_X8_ofMirror tb_1016 (V_X8_ofMirror_100_t l D A ad ns I L G (a0) (2) hG hI (by first | omega | decide) (by first | omega | decide)) rfl rfl ⟨Nat.le_of_ble_eq_true rfl, Nat.le_of_ble_eq_true rfl⟩ (hG.1 100 (by decide)) rfl rfl (by decide) rfl hl.1 rfl (Nat.le_of_ble_eq_true rfl) dX5_isMendedBy_6 ⟨Nat.le_of_ble_eq_true rfl, Nat.le_of_ble_eq_true rfl⟩) hS (fun r1 u H locs hw hM hS => ?_)
  obtain ⟨rfl, xr1⟩ := hw
  have hM : Mem D A ad ns I L G H := hM
  have hof : r1 = cF 100 I (7 + (2 : Int32).toNatClampNeg) (a0).toNatClampNeg := xr1
  refine lv_istore_n (lv' := [(3, .int (r1)), (0, .ref (ad (40))), (1, .int (a0)), (2, .int (a1))]) hx hb dX5_isMendedBy_9 rfl hl (by decide) rfl (fun ls hl => ?_)
  refine lv_aload_n hx hb dX5_isMendedBy_10 rfl (lv_at hl 1 rfl) ?_
  refine m_getr (40) 1 (100) hx hb hts hown hE oc5 hM (hG.1 40 (by decide)) rfl (by decide) rfl (hG.2 (40, 1, 100) (by decide)) (by decide) tb_235 dX5_isMendedBy_11 ?_
  refine lv_iload_n hx hb dX5_isMendedBy_14 rfl (lv_at hl 2 rfl) ?_
  refine lv_iconst (v := (2)) hx hb dX5_isMendedBy_15 (by decide) ?_
  refine lv_iload_n hx hb dX5_isMendedBy_16 rfl (lv_at hl 3 rfl) ?_
  refine m_callv (m_runV (100) (As := [.int (a0), .int (2), .int (a1)]) (rest := []) hx hb hml hown hts hE hM hS hA ce_X8_setMirror tb_1019 (V_X8_setMirror_100_t l D A ad ns I L G (a0) (2) (a1) hG hI (by first | omega | decide) (by first | omega | decide)) rfl rfl ⟨Nat.le_of_ble_eq_true rfl, Nat.le_of_ble_eq_true rfl⟩ (hG.1 100 (by decide)) rfl rfl (by decide) rfl hl.1 rfl (Nat.le_of_ble_eq_true rfl) dX5_isMendedBy_17 ⟨Nat.le_of_ble_eq_true rfl, Nat.le_of_ble_eq_true rfl⟩) hS (fun u H locs hw hM hS => ?_)
  obtain ⟨I2, L3, rfl, hI, hkI2, xI2⟩ := hw
  have hM : Mem D A ad ns I2 L3 G H := hM
  have hK := hK.trans hkI2 rfl
  refine lv_aload_n hx hb dX5_isMendedBy_20 rfl (lv_at hl 1 rfl) ?_
  refine m_calli (m_runV (40) (As := []) (rest := []) hx hb hml hown hts hE hM hS hA ce_X5_isEnough tb_1024 (V_X5_isEnough l D A ad ns I2 L3 G hG hI (by rw [hK.get 40 5 rfl]; exact hlit.kp hK rfl)) rfl rfl ⟨Nat.le_of_ble_eq_true rfl, Nat.le_of_ble_eq_true rfl⟩ (hG.1 40 (by decide)) rfl rfl (by decide) rfl hl.1 rfl (Nat.le_of_ble_eq_true rfl) dX5_isMendedBy_21 ⟨Nat.le_of_ble_eq_true rfl, Nat.le_of_ble_eq_true rfl⟩) hS (fun r4 u H locs hw hM hS => ?_)
  obtain ⟨I5, L6, rfl, hI, hkI5, xr4⟩ := hw
  have hM : Mem D A ad ns I5 L6 G H := hM
  have hK := hK.trans hkI5 rfl
  refine lv_istore (lv' := [(4, .int (r4)), (3, .int (r1)), (0, .ref (ad (40))), (1, .int (a0)), (2, .int (a1))]) hx hb dX5_isMendedBy_24 hl (by decide) rfl (fun ls hl => ?_)
  refine lv_aload_n hx hb dX5_isMendedBy_26 rfl (lv_at hl 2 rfl) ?_
  refine m_getr (40) 4 (43) hx hb hts hown hE oc5 hM (hG.1 40 (by decide)) rfl (by decide) rfl (hG.2 (40, 4, 43) (by decide)) (by decide) tb_238 dX5_isMendedBy_27 ?_
  refine lv_iload_n hx hb dX5_isMendedBy_30 rfl (lv_at hl 3 rfl) ?_
  refine lv_bipush (v := (8)) hx hb dX5_isMendedBy_31 (by decide) ?_
  refine lv_imul hx hb dX5_isMendedBy_33 ?_
  refine lv_topi (fun v7 ev7 => ?_)
  have tv7 := a_mulR (c := 8) ev7 (by decide) (by omega) (by omega)
  refine lv_iload_n hx hb dX5_isMendedBy_34 rfl (lv_at hl 4 rfl) ?_
  refine lv_iadd hx hb dX5_isMendedBy_35 ?_
  refine lv_topi (fun v8 ev8 => ?_)
  have tv8 := a_add ev8 (by omega) (by omega)
  refine lv_aload_n hx hb dX5_isMendedBy_36 rfl (lv_at hl 2 rfl) ?_
  refine m_getr (40) 2 (10) hx hb hts hown hE oc5 hM (hG.1 40 (by decide)) rfl (by decide) rfl (hG.2 (40, 2, 10) (by decide)) (by decide) tb_236 dX5_isMendedBy_37 ?_
  refine m_calli (m_runV (10) (As := []) (rest := [.int (v8), .ref (ad (43))]) hx hb hml hown hts hE hM hS hA ce_X1_touchedSet tb_1028 (V_X1_touchedSet l D A ad ns I5 L6 G hG hI) rfl rfl ⟨Nat.le_of_ble_eq_true rfl, Nat.le_of_ble_eq_true rfl⟩ (hG.1 10 (by decide)) rfl rfl (by decide) rfl hl.1 rfl (Nat.le_of_ble_eq_true rfl) dX5_isMendedBy_40 ⟨Nat.le_of_ble_eq_true rfl, Nat.le_of_ble_eq_true rfl⟩) hS (fun r9 u H locs hw hM hS => ?_)
  obtain ⟨rfl, xr9⟩ := hw
  have hM : Mem D A ad ns I5 L6 G H := hM
  refine m_iast (43) hx hb hE hM hS (hG.1 43 (by decide)) rfl (vp_in_iff.mpr (by omega)) dX5_isMendedBy_43 (fun H locs I10 eI10 hM hS => ?_)
  subst eI10
  have hI := hI.putF (n := 43) (k := ((v8).toNatClampNeg)) (v := r9) rfl
  have hK := hK.put (n := 43) (k := ((v8).toNatClampNeg)) (v := r9) (by first | rfl | simp [inR])
  refine lv_aload_n hx hb dX5_isMendedBy_44 rfl (lv_at hl 2 rfl) ?_
  refine m_getr (40) 1 (100) hx hb hts hown hE oc5 hM (hG.1 40 (by decide)) rfl (by decide) rfl (hG.2 (40, 1, 100) (by decide)) (by decide) tb_235 dX5_isMendedBy_45 ?_
  refine lv_iload_n hx hb dX5_isMendedBy_48 rfl (lv_at hl 3 rfl) ?_
  refine lv_iconst (v := (2)) hx hb dX5_isMendedBy_49 (by decide) ?_
  refine lv_iload_n hx hb dX5_isMendedBy_50 rfl (lv_at hl 1 rfl) ?_
  refine m_callv (m_runV (100) (As := [.int (a0), .int (2), .int (r1)]) (rest := []) hx hb hml hown hts hE hM hS hA ce_X8_setMirror tb_1019 (V_X8_setMirror_100_t l D A ad ns (u2 I5 (43) ((v8).toNatClampNeg) (r9)) L6 G (a0) (2) (r1) hG hI (by first | omega | decide) (by first | omega | decide)) rfl rfl ⟨Nat.le_of_ble_eq_true rfl, Nat.le_of_ble_eq_true rfl⟩ (hG.1 100 (by decide)) rfl rfl (by decide) rfl hl.1 rfl (Nat.le_of_ble_eq_true rfl) dX5_isMendedBy_51 ⟨Nat.le_of_ble_eq_true rfl, Nat.le_of_ble_eq_true rfl⟩) hS (fun u H locs hw hM hS => ?_)
  obtain ⟨I11, L12, rfl, hI, hkI11, xI11⟩ := hw
  have hM : Mem D A ad ns I11 L12 G H := hM
  have hK := hK.trans hkI11 rfl
  refine lv_iload hx hb dX5_isMendedBy_54 (lv_at hl 0 rfl) ?_
  exact m_zret hx hb hr (nar01 (by omega) (by omega)).1 hlocks hM hS (Nat.le_of_ble_eq_true rfl) (Nat.le_of_ble_eq_true rfl) ⟨_, _, rfl, hI, hK, ⟨by omega, (EqV.bk ((((EqV.rf.st xI2).nk hkI5 rfl).nx (n := 43) (by decide)).st xI11) hof)⟩⟩ dX5_isMendedBy_56
set_option maxHeartbeats 4000000 in
set_option maxRecDepth 20000 in
theorem V_X5_findSlants_t (l : Launch) (D : va_G) (A : Nat → Prop) (ad : Nat → Nat) (ns : List Nat) (I : MI) (L : ML) (G : MG) (a0 : Int32) (a1 : Int32) (hG : SGC ns G) (hI : INV I) (hlit : Lit 100 I (I 40 5)) (ha0 : 0 ≤ a0.toInt ∧ a0.toInt ≤ 23) (ha1 : 0 ≤ a1.toInt ∧ a1.toInt ≤ 23) : Met l yX5_findSlants (wd yX5_findSlants cX5_findSlants 9 (some .boolean)) ({ frames := 5, cells := 0, slots := 0, locals := 128 }) (va_Pc [.ref (ad (40)), .int a0, .int a1] (PM D A ad ns I L G)) (va_Qi (fun r u => ∃ I2 L2, u = (ad, ns, I2, L2, G) ∧ INV I2 ∧ Kp [(11, 15), (107, 108)] [(10, 2), (10, 3), (10, 4), (10, 5), (10, 6), (10, 7), (10, 11), (10, 12), (41, 2), (41, 4)] I I2 ∧ ((0 ≤ r.toInt ∧ r.toInt ≤ 1) ∧ KV 100 I I2)) (BM D A) A) 0 0 A := by
  refine m_ofW (by decide) (Nat.le_of_ble_eq_true rfl) ?_
  intro p e s m below meth c ls args hC hE hM hA hS hl
  obtain ⟨hx, hb, hml, hown, hts, hr, hlocks, hin⟩ := hC
  have km2 : (-2 : Int32).toInt = -2 := by decide
  have k0 : (0 : Int32).toInt = 0 := by decide
  have k2 : (2 : Int32).toInt = 2 := by decide
  have k4 : (4 : Int32).toInt = 4 := by decide
  have k8 : (8 : Int32).toInt = 8 := by decide
  have k64 : (64 : Int32).toInt = 64 := by decide
  have hK : Kp [(11, 15), (107, 108)] [(10, 2), (10, 3), (10, 4), (10, 5), (10, 6), (10, 7), (10, 11), (10, 12), (41, 2), (41, 4)] I I := Kp.rf
  have hl : lv_has ls 9 [(0, .ref (ad (40))), (1, .int (a0)), (2, .int (a1))] := hl
  refine lv_aload_n hx hb dX5_findSlants_0 rfl (lv_at hl 0 rfl) ?_
  refine m_getr (40) 1 (100) hx hb hts hown hE oc5 hM (hG.1 40 (by decide)) rfl (by decide) rfl (hG.2 (40, 1, 100) (by decide)) (by decide) tb_235 dX5_findSlants_1 ?_
  refine lv_iload_n hx hb dX5_findSlants_4 rfl (lv_at hl 1 rfl) ?_
  refine lv_iconst (v := (2)) hx hb dX5_findSlants_5 (by decide) ?_
  refine m_calli (m_runV (100) (As := [.int (a0), .int (2)]) (rest := []) hx hb hml hown hts hE hM hS hA ce_X8_ofMirror tb_1016 (V_X8_ofMirror_100_t l D A ad ns I L G (a0) (2) hG hI (by first | omega | decide) (by first | omega | decide)) rfl rfl ⟨Nat.le_of_ble_eq_true rfl, Nat.le_of_ble_eq_true rfl⟩ (hG.1 100 (by decide)) rfl rfl (by decide) rfl hl.1 rfl (Nat.le_of_ble_eq_true rfl) dX5_findSlants_6 ⟨Nat.le_of_ble_eq_true rfl, Nat.le_of_ble_eq_true rfl⟩) hS (fun r1 u H locs hw hM hS => ?_)
  obtain ⟨rfl, xr1⟩ := hw
  have hM : Mem D A ad ns I L G H := hM
  have hof0 : r1 = cF 100 I 9 (a0).toNatClampNeg := xr1
  refine lv_istore_n (lv' := [(3, .int (r1)), (0, .ref (ad (40))), (1, .int (a0)), (2, .int (a1))]) hx hb dX5_findSlants_9 rfl hl (by decide) rfl (fun ls hl => ?_)
  refine lv_aload_n hx hb dX5_findSlants_10 rfl (lv_at hl 1 rfl) ?_
  refine m_getr (40) 1 (100) hx hb hts hown hE oc5 hM (hG.1 40 (by decide)) rfl (by decide) rfl (hG.2 (40, 1, 100) (by decide)) (by decide) tb_235 dX5_findSlants_11 ?_
  refine lv_iload_n hx hb dX5_findSlants_14 rfl (lv_at hl 3 rfl) ?_
  refine lv_iconst (v := (2)) hx hb dX5_findSlants_15 (by decide) ?_
  refine m_calli (m_runV (100) (As := [.int (a1), .int (2)]) (rest := []) hx hb hml hown hts hE hM hS hA ce_X8_ofMirror tb_1016 (V_X8_ofMirror_100_t l D A ad ns I L G (a1) (2) hG hI (by first | omega | decide) (by first | omega | decide)) rfl rfl ⟨Nat.le_of_ble_eq_true rfl, Nat.le_of_ble_eq_true rfl⟩ (hG.1 100 (by decide)) rfl rfl (by decide) rfl hl.1 rfl (Nat.le_of_ble_eq_true rfl) dX5_findSlants_16 ⟨Nat.le_of_ble_eq_true rfl, Nat.le_of_ble_eq_true rfl⟩) hS (fun r2 u H locs hw hM hS => ?_)
  obtain ⟨rfl, xr2⟩ := hw
  have hM : Mem D A ad ns I L G H := hM
  have hof1 : r2 = cF 100 I 9 (a1).toNatClampNeg := xr2
  refine lv_istore (lv' := [(4, .int (r2)), (3, .int (r1)), (0, .ref (ad (40))), (1, .int (a0)), (2, .int (a1))]) hx hb dX5_findSlants_19 hl (by decide) rfl (fun ls hl => ?_)
  refine lv_iconst (v := (0)) hx hb dX5_findSlants_21 (by decide) ?_
  refine lv_istore (lv' := [(5, .int (0)), (4, .int (r2)), (3, .int (r1)), (0, .ref (ad (40))), (1, .int (a0)), (2, .int (a1))]) hx hb dX5_findSlants_22 hl (by decide) rfl (fun ls hl => ?_)
  refine lv_iconst (v := (0)) hx hb dX5_findSlants_24 (by decide) ?_
  refine lv_istore (lv' := [(6, .int (0)), (5, .int (0)), (4, .int (r2)), (3, .int (r1)), (0, .ref (ad (40))), (1, .int (a0)), (2, .int (a1))]) hx hb dX5_findSlants_25 hl (by decide) rfl (fun ls hl => ?_)
  have loop27 : ∀ (n : Nat) (x6_27 : Int32) (x5_27 : Int32) (Ia27 : MI) (La27 : ML) (H : Heap) (locs : List Loc) (ls : Array Slot), INV Ia27 → Kp [(11, 15), (107, 108)] [(10, 2), (10, 3), (10, 4), (10, 5), (10, 6), (10, 7), (10, 11), (10, 12), (41, 2), (41, 4)] I Ia27 → (0 ≤ x6_27.toInt ∧ x6_27.toInt ≤ 64) → (0 ≤ x5_27.toInt ∧ x5_27.toInt ≤ 1) → (TRY2 100 9 (a0).toNatClampNeg (a1).toNatClampNeg I Ia27) → (64 - x6_27.toInt).toNat < n → Mem D A ad ns Ia27 La27 G H → va_S A s.heap H locs → lv_has ls 9 [(6, .int (x6_27)), (5, .int (x5_27)), (4, .int (r2)), (3, .int (r1)), (0, .ref (ad (40))), (1, .int (a0)), (2, .int (a1))] → W p l e ({ frames := 5, cells := 0, slots := 0, locals := 128 } : Room) s m args below meth c H locs 0 0 (MQ below (va_Qi (fun r u => ∃ I2 L2, u = (ad, ns, I2, L2, G) ∧ INV I2 ∧ Kp [(11, 15), (107, 108)] [(10, 2), (10, 3), (10, 4), (10, 5), (10, 6), (10, 7), (10, 11), (10, 12), (41, 2), (41, 4)] I I2 ∧ ((0 ≤ r.toInt ∧ r.toInt ≤ 1) ∧ KV 100 I I2)) (BM D A) A) args s 0 0 A) (F0 m 27 ls []) := by
    intro n
    induction n with
    | zero =>
      intro x6_27 x5_27 Ia27 La27 H locs ls hI hK hr6_27 hr5_27 hd27 hmu
      exact absurd hmu (Nat.not_lt_zero _)
    | succ n ih27 =>
      intro x6_27 x5_27 Ia27 La27 H locs ls hI hK hr6_27 hr5_27 hd27 hmu27 hM hS hl
      refine lv_iload hx hb dX5_findSlants_27 (lv_at hl 0 rfl) ?_
      refine lv_bipush (v := (64)) hx hb dX5_findSlants_29 (by decide) ?_
      refine lv_icmp_ge (tgt := 149) hx hb dX5_findSlants_31 (by decide) (fun c3 => ?_) (fun c3 => ?_)
      · have hc3 := c3
        have q3 := q_le hc3
        refine lv_aload_n hx hb dX5_findSlants_149 rfl (lv_at hl 4 rfl) ?_
        refine m_getr (40) 1 (100) hx hb hts hown hE oc5 hM (hG.1 40 (by decide)) rfl (by decide) rfl (hG.2 (40, 1, 100) (by decide)) (by decide) tb_235 dX5_findSlants_150 ?_
        refine lv_iload_n hx hb dX5_findSlants_153 rfl (lv_at hl 5 rfl) ?_
        refine lv_iconst (v := (2)) hx hb dX5_findSlants_154 (by decide) ?_
        refine lv_iload_n hx hb dX5_findSlants_155 rfl (lv_at hl 3 rfl) ?_
        refine m_callv (m_runV (100) (As := [.int (a0), .int (2), .int (r1)]) (rest := []) hx hb hml hown hts hE hM hS hA ce_X8_setMirror tb_1019 (V_X8_setMirror_100_t l D A ad ns Ia27 La27 G (a0) (2) (r1) hG hI (by first | omega | decide) (by first | omega | decide)) rfl rfl ⟨Nat.le_of_ble_eq_true rfl, Nat.le_of_ble_eq_true rfl⟩ (hG.1 100 (by decide)) rfl rfl (by decide) rfl hl.1 rfl (Nat.le_of_ble_eq_true rfl) dX5_findSlants_156 ⟨Nat.le_of_ble_eq_true rfl, Nat.le_of_ble_eq_true rfl⟩) hS (fun u H locs hw hM hS => ?_)
        obtain ⟨I4, L5, rfl, hI, hkI4, xI4⟩ := hw
        have hM : Mem D A ad ns I4 L5 G H := hM
        have hK := hK.trans hkI4 rfl
        refine lv_aload_n hx hb dX5_findSlants_159 rfl (lv_at hl 4 rfl) ?_
        refine m_getr (40) 1 (100) hx hb hts hown hE oc5 hM (hG.1 40 (by decide)) rfl (by decide) rfl (hG.2 (40, 1, 100) (by decide)) (by decide) tb_235 dX5_findSlants_160 ?_
        refine lv_iload_n hx hb dX5_findSlants_163 rfl (lv_at hl 6 rfl) ?_
        refine lv_iconst (v := (2)) hx hb dX5_findSlants_164 (by decide) ?_
        refine lv_iload hx hb dX5_findSlants_165 (lv_at hl 2 rfl) ?_
        refine m_callv (m_runV (100) (As := [.int (a1), .int (2), .int (r2)]) (rest := []) hx hb hml hown hts hE hM hS hA ce_X8_setMirror tb_1019 (V_X8_setMirror_100_t l D A ad ns I4 L5 G (a1) (2) (r2) hG hI (by first | omega | decide) (by first | omega | decide)) rfl rfl ⟨Nat.le_of_ble_eq_true rfl, Nat.le_of_ble_eq_true rfl⟩ (hG.1 100 (by decide)) rfl rfl (by decide) rfl hl.1 rfl (Nat.le_of_ble_eq_true rfl) dX5_findSlants_167 ⟨Nat.le_of_ble_eq_true rfl, Nat.le_of_ble_eq_true rfl⟩) hS (fun u H locs hw hM hS => ?_)
        obtain ⟨I6, L7, rfl, hI, hkI6, xI6⟩ := hw
        have hM : Mem D A ad ns I6 L7 G H := hM
        have hK := hK.trans hkI6 rfl
        refine lv_iload hx hb dX5_findSlants_170 (lv_at hl 1 rfl) ?_
        exact m_zret hx hb hr (nar01 (by omega) (by omega)).1 hlocks hM hS (Nat.le_of_ble_eq_true rfl) (Nat.le_of_ble_eq_true rfl) ⟨_, _, rfl, hI, hK, ⟨by omega, (TRY2.fin hd27 (EqV.st xI4 xI6) hof0 hof1)⟩⟩ dX5_findSlants_172
      · have hc3 := c3
        have q3 := q_nle hc3
        refine lv_iload hx hb dX5_findSlants_34 (lv_at hl 1 rfl) ?_
        refine lv_if_ne (tgt := 149) hx hb dX5_findSlants_36 (by decide) (fun c8 => ?_) (fun c8 => ?_)
        · have hc8 := c8
          have q8 := q_ne hc8
          refine lv_aload_n hx hb dX5_findSlants_149 rfl (lv_at hl 4 rfl) ?_
          refine m_getr (40) 1 (100) hx hb hts hown hE oc5 hM (hG.1 40 (by decide)) rfl (by decide) rfl (hG.2 (40, 1, 100) (by decide)) (by decide) tb_235 dX5_findSlants_150 ?_
          refine lv_iload_n hx hb dX5_findSlants_153 rfl (lv_at hl 5 rfl) ?_
          refine lv_iconst (v := (2)) hx hb dX5_findSlants_154 (by decide) ?_
          refine lv_iload_n hx hb dX5_findSlants_155 rfl (lv_at hl 3 rfl) ?_
          refine m_callv (m_runV (100) (As := [.int (a0), .int (2), .int (r1)]) (rest := []) hx hb hml hown hts hE hM hS hA ce_X8_setMirror tb_1019 (V_X8_setMirror_100_t l D A ad ns Ia27 La27 G (a0) (2) (r1) hG hI (by first | omega | decide) (by first | omega | decide)) rfl rfl ⟨Nat.le_of_ble_eq_true rfl, Nat.le_of_ble_eq_true rfl⟩ (hG.1 100 (by decide)) rfl rfl (by decide) rfl hl.1 rfl (Nat.le_of_ble_eq_true rfl) dX5_findSlants_156 ⟨Nat.le_of_ble_eq_true rfl, Nat.le_of_ble_eq_true rfl⟩) hS (fun u H locs hw hM hS => ?_)
          obtain ⟨I9, L10, rfl, hI, hkI9, xI9⟩ := hw
          have hM : Mem D A ad ns I9 L10 G H := hM
          have hK := hK.trans hkI9 rfl
          refine lv_aload_n hx hb dX5_findSlants_159 rfl (lv_at hl 4 rfl) ?_
          refine m_getr (40) 1 (100) hx hb hts hown hE oc5 hM (hG.1 40 (by decide)) rfl (by decide) rfl (hG.2 (40, 1, 100) (by decide)) (by decide) tb_235 dX5_findSlants_160 ?_
          refine lv_iload_n hx hb dX5_findSlants_163 rfl (lv_at hl 6 rfl) ?_
          refine lv_iconst (v := (2)) hx hb dX5_findSlants_164 (by decide) ?_
          refine lv_iload hx hb dX5_findSlants_165 (lv_at hl 2 rfl) ?_
          refine m_callv (m_runV (100) (As := [.int (a1), .int (2), .int (r2)]) (rest := []) hx hb hml hown hts hE hM hS hA ce_X8_setMirror tb_1019 (V_X8_setMirror_100_t l D A ad ns I9 L10 G (a1) (2) (r2) hG hI (by first | omega | decide) (by first | omega | decide)) rfl rfl ⟨Nat.le_of_ble_eq_true rfl, Nat.le_of_ble_eq_true rfl⟩ (hG.1 100 (by decide)) rfl rfl (by decide) rfl hl.1 rfl (Nat.le_of_ble_eq_true rfl) dX5_findSlants_167 ⟨Nat.le_of_ble_eq_true rfl, Nat.le_of_ble_eq_true rfl⟩) hS (fun u H locs hw hM hS => ?_)
          obtain ⟨I11, L12, rfl, hI, hkI11, xI11⟩ := hw
          have hM : Mem D A ad ns I11 L12 G H := hM
          have hK := hK.trans hkI11 rfl
          refine lv_iload hx hb dX5_findSlants_170 (lv_at hl 1 rfl) ?_
          exact m_zret hx hb hr (nar01 (by omega) (by omega)).1 hlocks hM hS (Nat.le_of_ble_eq_true rfl) (Nat.le_of_ble_eq_true rfl) ⟨_, _, rfl, hI, hK, ⟨by omega, (TRY2.fin hd27 (EqV.st xI9 xI11) hof0 hof1)⟩⟩ dX5_findSlants_172
        · have hc8 := c8
          have q8 := q_eq hc8
          refine lv_iload hx hb dX5_findSlants_39 (lv_at hl 0 rfl) ?_
          refine lv_bipush (v := (8)) hx hb dX5_findSlants_41 (by decide) ?_
          refine lv_idiv hx hb dX5_findSlants_43 (by decide) ?_
          refine lv_topi (fun v13 ev13 => ?_)
          have tv13 := a_div (c := 8) ev13 (by decide) (by decide) (by omega)
          refine lv_istore (lv' := [(7, .int (v13)), (6, .int (x6_27)), (5, .int (x5_27)), (4, .int (r2)), (3, .int (r1)), (0, .ref (ad (40))), (1, .int (a0)), (2, .int (a1))]) hx hb dX5_findSlants_44 hl (by decide) rfl (fun ls hl => ?_)
          refine lv_iload hx hb dX5_findSlants_46 (lv_at hl 1 rfl) ?_
          refine lv_bipush (v := (8)) hx hb dX5_findSlants_48 (by decide) ?_
          refine lv_irem hx hb dX5_findSlants_50 (by decide) ?_
          refine lv_topi (fun v14 ev14 => ?_)
          have tv14 := a_rem (c := 8) ev14 (by decide) (by decide) (by omega)
          refine lv_istore (lv' := [(8, .int (v14)), (7, .int (v13)), (6, .int (x6_27)), (5, .int (x5_27)), (4, .int (r2)), (3, .int (r1)), (0, .ref (ad (40))), (1, .int (a0)), (2, .int (a1))]) hx hb dX5_findSlants_51 hl (by decide) rfl (fun ls hl => ?_)
          refine lv_iload hx hb dX5_findSlants_53 (lv_at hl 1 rfl) ?_
          refine lv_iload_n hx hb dX5_findSlants_55 rfl (lv_at hl 5 rfl) ?_
          refine lv_icmp_eq (tgt := 143) hx hb dX5_findSlants_56 (by decide) (fun c15 => ?_) (fun c15 => ?_)
          · have hc15 := c15
            have q15 := q_eq hc15
            obtain ⟨v16, ev16⟩ : ∃ z : Int32, z = x6_27 + Int32.ofInt (1) := ⟨_, rfl⟩
            have tv16 := a_inc ev16 (by decide) (by omega) (by omega)
            refine lv_iinc (v := v16) (lv' := [(6, .int (v16)), (8, .int (v14)), (7, .int (v13)), (5, .int (x5_27)), (4, .int (r2)), (3, .int (r1)), (0, .ref (ad (40))), (1, .int (a0)), (2, .int (a1))]) hx hb dX5_findSlants_143 hl (k := 2) rfl ev16.symm (by decide) rfl (fun ls hl => ?_)
            refine lv_goto (tgt := 27) hx hb dX5_findSlants_146 (by decide) ?_
            exact ih27 (v16) (x5_27) Ia27 La27 _ _ ls hI hK (by first | omega | decide) (by first | omega | decide) hd27 (by omega) hM hS (lv_sub hl [0, 3, 4, 5, 6, 7, 8] rfl)
          · have hc15 := c15
            have q15 := q_ne hc15
            refine lv_iload hx hb dX5_findSlants_59 (lv_at hl 0 rfl) ?_
            refine lv_iload hx hb dX5_findSlants_61 (lv_at hl 4 rfl) ?_
            refine lv_icmp_eq (tgt := 143) hx hb dX5_findSlants_63 (by decide) (fun c17 => ?_) (fun c17 => ?_)
            · have hc17 := c17
              have q17 := q_eq hc17
              obtain ⟨v18, ev18⟩ : ∃ z : Int32, z = x6_27 + Int32.ofInt (1) := ⟨_, rfl⟩
              have tv18 := a_inc ev18 (by decide) (by omega) (by omega)
              refine lv_iinc (v := v18) (lv' := [(6, .int (v18)), (8, .int (v14)), (7, .int (v13)), (5, .int (x5_27)), (4, .int (r2)), (3, .int (r1)), (0, .ref (ad (40))), (1, .int (a0)), (2, .int (a1))]) hx hb dX5_findSlants_143 hl (k := 2) rfl ev18.symm (by decide) rfl (fun ls hl => ?_)
              refine lv_goto (tgt := 27) hx hb dX5_findSlants_146 (by decide) ?_
              exact ih27 (v18) (x5_27) Ia27 La27 _ _ ls hI hK (by first | omega | decide) (by first | omega | decide) hd27 (by omega) hM hS (lv_sub hl [0, 3, 4, 5, 6, 7, 8] rfl)
            · have hc17 := c17
              have q17 := q_ne hc17
              refine lv_aload_n hx hb dX5_findSlants_66 rfl (lv_at hl 6 rfl) ?_
              refine lv_iload_n hx hb dX5_findSlants_67 rfl (lv_at hl 7 rfl) ?_
              refine lv_iload hx hb dX5_findSlants_68 (lv_at hl 1 rfl) ?_
              refine lv_iload_n hx hb dX5_findSlants_70 rfl (lv_at hl 8 rfl) ?_
              refine lv_iload hx hb dX5_findSlants_71 (lv_at hl 0 rfl) ?_
              refine m_calli (m_runV (40) (As := [.int (a0), .int (v13), .int (a1), .int (v14)]) (rest := []) hx hb hml hown hts hE hM hS hA ce_X5_doesPairMatter tb_1051 (V_X5_doesPairMatter l D A ad ns Ia27 La27 G (a0) (v13) (a1) (v14) hG hI (by first | omega | decide) (by first | omega | decide) (by first | omega | decide) (by first | omega | decide)) rfl rfl ⟨Nat.le_of_ble_eq_true rfl, Nat.le_of_ble_eq_true rfl⟩ (hG.1 40 (by decide)) rfl rfl (by decide) rfl hl.1 rfl (Nat.le_of_ble_eq_true rfl) dX5_findSlants_73 ⟨Nat.le_of_ble_eq_true rfl, Nat.le_of_ble_eq_true rfl⟩) hS (fun r19 u H locs hw hM hS => ?_)
              obtain ⟨rfl, xr19⟩ := hw
              have hM : Mem D A ad ns Ia27 La27 G H := hM
              refine lv_if_eq (tgt := 143) hx hb dX5_findSlants_76 (by decide) (fun c20 => ?_) (fun c20 => ?_)
              · have hc20 := c20
                have q20 := q_eq hc20
                obtain ⟨v21, ev21⟩ : ∃ z : Int32, z = x6_27 + Int32.ofInt (1) := ⟨_, rfl⟩
                have tv21 := a_inc ev21 (by decide) (by omega) (by omega)
                refine lv_iinc (v := v21) (lv' := [(6, .int (v21)), (8, .int (v14)), (7, .int (v13)), (5, .int (x5_27)), (4, .int (r2)), (3, .int (r1)), (0, .ref (ad (40))), (1, .int (a0)), (2, .int (a1))]) hx hb dX5_findSlants_143 hl (k := 2) rfl ev21.symm (by decide) rfl (fun ls hl => ?_)
                refine lv_goto (tgt := 27) hx hb dX5_findSlants_146 (by decide) ?_
                exact ih27 (v21) (x5_27) Ia27 La27 _ _ ls hI hK (by first | omega | decide) (by first | omega | decide) hd27 (by omega) hM hS (lv_sub hl [0, 3, 4, 5, 6, 7, 8] rfl)
              · have hc20 := c20
                have q20 := q_ne hc20
                refine lv_aload_n hx hb dX5_findSlants_79 rfl (lv_at hl 6 rfl) ?_
                refine m_getr (40) 1 (100) hx hb hts hown hE oc5 hM (hG.1 40 (by decide)) rfl (by decide) rfl (hG.2 (40, 1, 100) (by decide)) (by decide) tb_235 dX5_findSlants_80 ?_
                refine lv_iload_n hx hb dX5_findSlants_83 rfl (lv_at hl 7 rfl) ?_
                refine lv_iconst (v := (2)) hx hb dX5_findSlants_84 (by decide) ?_
                refine lv_iload hx hb dX5_findSlants_85 (lv_at hl 1 rfl) ?_
                refine m_callv (m_runV (100) (As := [.int (a0), .int (2), .int (v13)]) (rest := []) hx hb hml hown hts hE hM hS hA ce_X8_setMirror tb_1019 (V_X8_setMirror_100_t l D A ad ns Ia27 La27 G (a0) (2) (v13) hG hI (by first | omega | decide) (by first | omega | decide)) rfl rfl ⟨Nat.le_of_ble_eq_true rfl, Nat.le_of_ble_eq_true rfl⟩ (hG.1 100 (by decide)) rfl rfl (by decide) rfl hl.1 rfl (Nat.le_of_ble_eq_true rfl) dX5_findSlants_87 ⟨Nat.le_of_ble_eq_true rfl, Nat.le_of_ble_eq_true rfl⟩) hS (fun u H locs hw hM hS => ?_)
                obtain ⟨I22, L23, rfl, hI, hkI22, xI22⟩ := hw
                have hM : Mem D A ad ns I22 L23 G H := hM
                have hK := hK.trans hkI22 rfl
                refine lv_aload_n hx hb dX5_findSlants_90 rfl (lv_at hl 6 rfl) ?_
                refine m_getr (40) 1 (100) hx hb hts hown hE oc5 hM (hG.1 40 (by decide)) rfl (by decide) rfl (hG.2 (40, 1, 100) (by decide)) (by decide) tb_235 dX5_findSlants_91 ?_
                refine lv_iload_n hx hb dX5_findSlants_94 rfl (lv_at hl 8 rfl) ?_
                refine lv_iconst (v := (2)) hx hb dX5_findSlants_95 (by decide) ?_
                refine lv_iload hx hb dX5_findSlants_96 (lv_at hl 0 rfl) ?_
                refine m_callv (m_runV (100) (As := [.int (a1), .int (2), .int (v14)]) (rest := []) hx hb hml hown hts hE hM hS hA ce_X8_setMirror tb_1019 (V_X8_setMirror_100_t l D A ad ns I22 L23 G (a1) (2) (v14) hG hI (by first | omega | decide) (by first | omega | decide)) rfl rfl ⟨Nat.le_of_ble_eq_true rfl, Nat.le_of_ble_eq_true rfl⟩ (hG.1 100 (by decide)) rfl rfl (by decide) rfl hl.1 rfl (Nat.le_of_ble_eq_true rfl) dX5_findSlants_98 ⟨Nat.le_of_ble_eq_true rfl, Nat.le_of_ble_eq_true rfl⟩) hS (fun u H locs hw hM hS => ?_)
                obtain ⟨I24, L25, rfl, hI, hkI24, xI24⟩ := hw
                have hM : Mem D A ad ns I24 L25 G H := hM
                have hK := hK.trans hkI24 rfl
                refine lv_aload_n hx hb dX5_findSlants_101 rfl (lv_at hl 6 rfl) ?_
                refine m_calli (m_runV (40) (As := []) (rest := []) hx hb hml hown hts hE hM hS hA ce_X5_isEnough tb_1024 (V_X5_isEnough l D A ad ns I24 L25 G hG hI (by rw [hK.get 40 5 rfl]; exact hlit.kp hK rfl)) rfl rfl ⟨Nat.le_of_ble_eq_true rfl, Nat.le_of_ble_eq_true rfl⟩ (hG.1 40 (by decide)) rfl rfl (by decide) rfl hl.1 rfl (Nat.le_of_ble_eq_true rfl) dX5_findSlants_102 ⟨Nat.le_of_ble_eq_true rfl, Nat.le_of_ble_eq_true rfl⟩) hS (fun r26 u H locs hw hM hS => ?_)
                obtain ⟨I27, L28, rfl, hI, hkI27, xr26⟩ := hw
                have hM : Mem D A ad ns I27 L28 G H := hM
                have hK := hK.trans hkI27 rfl
                refine lv_istore (lv' := [(5, .int (r26)), (8, .int (v14)), (7, .int (v13)), (6, .int (x6_27)), (4, .int (r2)), (3, .int (r1)), (0, .ref (ad (40))), (1, .int (a0)), (2, .int (a1))]) hx hb dX5_findSlants_105 hl (by decide) rfl (fun ls hl => ?_)
                refine lv_aload_n hx hb dX5_findSlants_107 rfl (lv_at hl 6 rfl) ?_
                refine m_getr (40) 0 (41) hx hb hts hown hE oc5 hM (hG.1 40 (by decide)) rfl (by decide) rfl (hG.2 (40, 0, 41) (by decide)) (by decide) tb_233 dX5_findSlants_108 ?_
                refine lv_iconst (v := (2)) hx hb dX5_findSlants_111 (by decide) ?_
                refine lv_iload hx hb dX5_findSlants_112 (lv_at hl 0 rfl) ?_
                refine lv_if_eq (tgt := 122) hx hb dX5_findSlants_114 (by decide) (fun c29 => ?_) (fun c29 => ?_)
                · have hc29 := c29
                  have q29 := q_eq hc29
                  refine lv_bipush (v := (-2)) hx hb dX5_findSlants_122 (by decide) ?_
                  refine m_iast (41) hx hb hE hM hS (hG.1 41 (by decide)) rfl (vp_in_iff.mpr (by decide)) dX5_findSlants_124 (fun H locs I30 eI30 hM hS => ?_)
                  rw [show (2 : Int32).toNatClampNeg = 2 from rfl] at eI30
                  subst eI30
                  have hI := hI.putF (n := 41) (k := 2) (v := (-2 : Int32)) rfl
                  have hK := hK.put (n := 41) (k := 2) (v := (-2 : Int32)) (by first | rfl | simp [inR])
                  refine lv_aload_n hx hb dX5_findSlants_125 rfl (lv_at hl 6 rfl) ?_
                  refine m_getr (40) 0 (41) hx hb hts hown hE oc5 hM (hG.1 40 (by decide)) rfl (by decide) rfl (hG.2 (40, 0, 41) (by decide)) (by decide) tb_233 dX5_findSlants_126 ?_
                  refine lv_iconst (v := (4)) hx hb dX5_findSlants_129 (by decide) ?_
                  refine lv_iload hx hb dX5_findSlants_130 (lv_at hl 0 rfl) ?_
                  refine lv_if_eq (tgt := 140) hx hb dX5_findSlants_132 (by decide) (fun c31 => ?_) (fun c31 => ?_)
                  · have hc31 := c31
                    have q31 := q_eq hc31
                    refine lv_bipush (v := (-2)) hx hb dX5_findSlants_140 (by decide) ?_
                    refine m_iast (41) hx hb hE hM hS (hG.1 41 (by decide)) rfl (vp_in_iff.mpr (by decide)) dX5_findSlants_142 (fun H locs I32 eI32 hM hS => ?_)
                    rw [show (4 : Int32).toNatClampNeg = 4 from rfl] at eI32
                    subst eI32
                    have hI := hI.putF (n := 41) (k := 4) (v := (-2 : Int32)) rfl
                    have hK := hK.put (n := 41) (k := 4) (v := (-2 : Int32)) (by first | rfl | simp [inR])
                    obtain ⟨v33, ev33⟩ : ∃ z : Int32, z = x6_27 + Int32.ofInt (1) := ⟨_, rfl⟩
                    have tv33 := a_inc ev33 (by decide) (by omega) (by omega)
                    refine lv_iinc (v := v33) (lv' := [(6, .int (v33)), (5, .int (r26)), (8, .int (v14)), (7, .int (v13)), (4, .int (r2)), (3, .int (r1)), (0, .ref (ad (40))), (1, .int (a0)), (2, .int (a1))]) hx hb dX5_findSlants_143 hl (k := 3) rfl ev33.symm (by decide) rfl (fun ls hl => ?_)
                    refine lv_goto (tgt := 27) hx hb dX5_findSlants_146 (by decide) ?_
                    exact ih27 (v33) (r26) (u2 (u2 I27 (41) 2 ((-2 : Int32))) (41) 4 ((-2 : Int32))) L28 _ _ ls hI hK (by first | omega | decide) (by first | omega | decide) ((((hd27.step (EqV.st xI22 xI24)).nk hkI27 rfl).nk (show Kp [(41, 42)] [] _ _ from Kp.rf.put rfl) rfl).nk (show Kp [(41, 42)] [] _ _ from Kp.rf.put rfl) rfl) (by omega) hM hS (lv_sub hl [0, 1, 4, 5, 6, 7, 8] rfl)
                  · have hc31 := c31
                    have q31 := q_ne hc31
                    refine lv_iload hx hb dX5_findSlants_135 (lv_at hl 1 rfl) ?_
                    refine lv_goto (tgt := 142) hx hb dX5_findSlants_137 (by decide) ?_
                    refine m_iast (41) hx hb hE hM hS (hG.1 41 (by decide)) rfl (vp_in_iff.mpr (by decide)) dX5_findSlants_142 (fun H locs I34 eI34 hM hS => ?_)
                    rw [show (4 : Int32).toNatClampNeg = 4 from rfl] at eI34
                    subst eI34
                    have hI := hI.putF (n := 41) (k := 4) (v := v14) rfl
                    have hK := hK.put (n := 41) (k := 4) (v := v14) (by first | rfl | simp [inR])
                    obtain ⟨v35, ev35⟩ : ∃ z : Int32, z = x6_27 + Int32.ofInt (1) := ⟨_, rfl⟩
                    have tv35 := a_inc ev35 (by decide) (by omega) (by omega)
                    refine lv_iinc (v := v35) (lv' := [(6, .int (v35)), (5, .int (r26)), (8, .int (v14)), (7, .int (v13)), (4, .int (r2)), (3, .int (r1)), (0, .ref (ad (40))), (1, .int (a0)), (2, .int (a1))]) hx hb dX5_findSlants_143 hl (k := 3) rfl ev35.symm (by decide) rfl (fun ls hl => ?_)
                    refine lv_goto (tgt := 27) hx hb dX5_findSlants_146 (by decide) ?_
                    exact ih27 (v35) (r26) (u2 (u2 I27 (41) 2 ((-2 : Int32))) (41) 4 (v14)) L28 _ _ ls hI hK (by first | omega | decide) (by first | omega | decide) ((((hd27.step (EqV.st xI22 xI24)).nk hkI27 rfl).nk (show Kp [(41, 42)] [] _ _ from Kp.rf.put rfl) rfl).nk (show Kp [(41, 42)] [] _ _ from Kp.rf.put rfl) rfl) (by omega) hM hS (lv_sub hl [0, 1, 4, 5, 6, 7, 8] rfl)
                · have hc29 := c29
                  have q29 := q_ne hc29
                  refine lv_iload hx hb dX5_findSlants_117 (lv_at hl 2 rfl) ?_
                  refine lv_goto (tgt := 124) hx hb dX5_findSlants_119 (by decide) ?_
                  refine m_iast (41) hx hb hE hM hS (hG.1 41 (by decide)) rfl (vp_in_iff.mpr (by decide)) dX5_findSlants_124 (fun H locs I36 eI36 hM hS => ?_)
                  rw [show (2 : Int32).toNatClampNeg = 2 from rfl] at eI36
                  subst eI36
                  have hI := hI.putF (n := 41) (k := 2) (v := v13) rfl
                  have hK := hK.put (n := 41) (k := 2) (v := v13) (by first | rfl | simp [inR])
                  refine lv_aload_n hx hb dX5_findSlants_125 rfl (lv_at hl 6 rfl) ?_
                  refine m_getr (40) 0 (41) hx hb hts hown hE oc5 hM (hG.1 40 (by decide)) rfl (by decide) rfl (hG.2 (40, 0, 41) (by decide)) (by decide) tb_233 dX5_findSlants_126 ?_
                  refine lv_iconst (v := (4)) hx hb dX5_findSlants_129 (by decide) ?_
                  refine lv_iload hx hb dX5_findSlants_130 (lv_at hl 0 rfl) ?_
                  refine lv_if_eq (tgt := 140) hx hb dX5_findSlants_132 (by decide) (fun c37 => ?_) (fun c37 => ?_)
                  · have hc37 := c37
                    have q37 := q_eq hc37
                    refine lv_bipush (v := (-2)) hx hb dX5_findSlants_140 (by decide) ?_
                    refine m_iast (41) hx hb hE hM hS (hG.1 41 (by decide)) rfl (vp_in_iff.mpr (by decide)) dX5_findSlants_142 (fun H locs I38 eI38 hM hS => ?_)
                    rw [show (4 : Int32).toNatClampNeg = 4 from rfl] at eI38
                    subst eI38
                    have hI := hI.putF (n := 41) (k := 4) (v := (-2 : Int32)) rfl
                    have hK := hK.put (n := 41) (k := 4) (v := (-2 : Int32)) (by first | rfl | simp [inR])
                    obtain ⟨v39, ev39⟩ : ∃ z : Int32, z = x6_27 + Int32.ofInt (1) := ⟨_, rfl⟩
                    have tv39 := a_inc ev39 (by decide) (by omega) (by omega)
                    refine lv_iinc (v := v39) (lv' := [(6, .int (v39)), (5, .int (r26)), (8, .int (v14)), (7, .int (v13)), (4, .int (r2)), (3, .int (r1)), (0, .ref (ad (40))), (1, .int (a0)), (2, .int (a1))]) hx hb dX5_findSlants_143 hl (k := 3) rfl ev39.symm (by decide) rfl (fun ls hl => ?_)
                    refine lv_goto (tgt := 27) hx hb dX5_findSlants_146 (by decide) ?_
                    exact ih27 (v39) (r26) (u2 (u2 I27 (41) 2 (v13)) (41) 4 ((-2 : Int32))) L28 _ _ ls hI hK (by first | omega | decide) (by first | omega | decide) ((((hd27.step (EqV.st xI22 xI24)).nk hkI27 rfl).nk (show Kp [(41, 42)] [] _ _ from Kp.rf.put rfl) rfl).nk (show Kp [(41, 42)] [] _ _ from Kp.rf.put rfl) rfl) (by omega) hM hS (lv_sub hl [0, 1, 4, 5, 6, 7, 8] rfl)
                  · have hc37 := c37
                    have q37 := q_ne hc37
                    refine lv_iload hx hb dX5_findSlants_135 (lv_at hl 1 rfl) ?_
                    refine lv_goto (tgt := 142) hx hb dX5_findSlants_137 (by decide) ?_
                    refine m_iast (41) hx hb hE hM hS (hG.1 41 (by decide)) rfl (vp_in_iff.mpr (by decide)) dX5_findSlants_142 (fun H locs I40 eI40 hM hS => ?_)
                    rw [show (4 : Int32).toNatClampNeg = 4 from rfl] at eI40
                    subst eI40
                    have hI := hI.putF (n := 41) (k := 4) (v := v14) rfl
                    have hK := hK.put (n := 41) (k := 4) (v := v14) (by first | rfl | simp [inR])
                    obtain ⟨v41, ev41⟩ : ∃ z : Int32, z = x6_27 + Int32.ofInt (1) := ⟨_, rfl⟩
                    have tv41 := a_inc ev41 (by decide) (by omega) (by omega)
                    refine lv_iinc (v := v41) (lv' := [(6, .int (v41)), (5, .int (r26)), (8, .int (v14)), (7, .int (v13)), (4, .int (r2)), (3, .int (r1)), (0, .ref (ad (40))), (1, .int (a0)), (2, .int (a1))]) hx hb dX5_findSlants_143 hl (k := 3) rfl ev41.symm (by decide) rfl (fun ls hl => ?_)
                    refine lv_goto (tgt := 27) hx hb dX5_findSlants_146 (by decide) ?_
                    exact ih27 (v41) (r26) (u2 (u2 I27 (41) 2 (v13)) (41) 4 (v14)) L28 _ _ ls hI hK (by first | omega | decide) (by first | omega | decide) ((((hd27.step (EqV.st xI22 xI24)).nk hkI27 rfl).nk (show Kp [(41, 42)] [] _ _ from Kp.rf.put rfl) rfl).nk (show Kp [(41, 42)] [] _ _ from Kp.rf.put rfl) rfl) (by omega) hM hS (lv_sub hl [0, 1, 4, 5, 6, 7, 8] rfl)
  exact loop27 (_ + 1) (0) (0) I L _ _ ls hI hK (by first | omega | decide) (by first | omega | decide) TRY2.rf (Nat.lt_succ_self _) hM hS (lv_sub hl [0, 1, 2, 3, 4, 5, 6] rfl)
set_option maxHeartbeats 4000000 in
set_option maxRecDepth 20000 in
theorem V_X5_findOne_t (l : Launch) (D : va_G) (A : Nat → Prop) (ad : Nat → Nat) (ns : List Nat) (I : MI) (L : ML) (G : MG) (hG : SGC ns G) (hI : INV I) (hlit : Lit 100 I (I 40 5)) : Met l yX5_findOne (wd yX5_findOne cX5_findOne 4 (some .boolean)) ({ frames := 6, cells := 0, slots := 0, locals := 152 }) (va_Pc [.ref (ad (40))] (PM D A ad ns I L G)) (va_Qi (fun r u => ∃ I2 L2, u = (ad, ns, I2, L2, G) ∧ INV I2 ∧ Kp [(11, 15), (43, 44), (107, 108)] [(10, 2), (10, 3), (10, 4), (10, 5), (10, 6), (10, 7), (10, 11), (10, 12), (41, 0), (41, 1), (41, 2)] I I2 ∧ ((0 ≤ r.toInt ∧ r.toInt ≤ 1) ∧ KV 100 I I2)) (BM D A) A) 0 0 A := by
  refine m_ofW (by decide) (Nat.le_of_ble_eq_true rfl) ?_
  intro p e s m below meth c ls args hC hE hM hA hS hl
  obtain ⟨hx, hb, hml, hown, hts, hr, hlocks, hin⟩ := hC
  have k0 : (0 : Int32).toInt = 0 := by decide
  have k1 : (1 : Int32).toInt = 1 := by decide
  have k2 : (2 : Int32).toInt = 2 := by decide
  have k8 : (8 : Int32).toInt = 8 := by decide
  have hK : Kp [(11, 15), (43, 44), (107, 108)] [(10, 2), (10, 3), (10, 4), (10, 5), (10, 6), (10, 7), (10, 11), (10, 12), (41, 0), (41, 1), (41, 2)] I I := Kp.rf
  have hl : lv_has ls 4 [(0, .ref (ad (40)))] := hl
  refine lv_iconst (v := (0)) hx hb dX5_findOne_0 (by decide) ?_
  refine lv_istore_n (lv' := [(1, .int (0)), (0, .ref (ad (40)))]) hx hb dX5_findOne_1 rfl hl (by decide) rfl (fun ls hl => ?_)
  have loop2 : ∀ (n : Nat) (x1_2 : Int32) (Ia2 : MI) (La2 : ML) (H : Heap) (locs : List Loc) (ls : Array Slot), INV Ia2 → Kp [(11, 15), (43, 44), (107, 108)] [(10, 2), (10, 3), (10, 4), (10, 5), (10, 6), (10, 7), (10, 11), (10, 12), (41, 0), (41, 1), (41, 2)] I Ia2 → (0 ≤ x1_2.toInt ∧ x1_2.toInt ≤ 24) → (EqV (cF 100 I) (cF 100 Ia2)) → (24 - x1_2.toInt).toNat < n → Mem D A ad ns Ia2 La2 G H → va_S A s.heap H locs → lv_has ls 4 [(1, .int (x1_2)), (0, .ref (ad (40)))] → W p l e ({ frames := 6, cells := 0, slots := 0, locals := 152 } : Room) s m args below meth c H locs 0 0 (MQ below (va_Qi (fun r u => ∃ I2 L2, u = (ad, ns, I2, L2, G) ∧ INV I2 ∧ Kp [(11, 15), (43, 44), (107, 108)] [(10, 2), (10, 3), (10, 4), (10, 5), (10, 6), (10, 7), (10, 11), (10, 12), (41, 0), (41, 1), (41, 2)] I I2 ∧ ((0 ≤ r.toInt ∧ r.toInt ≤ 1) ∧ KV 100 I I2)) (BM D A) A) args s 0 0 A) (F0 m 2 ls []) := by
    intro n
    induction n with
    | zero =>
      intro x1_2 Ia2 La2 H locs ls hI hK hr1_2 hv2 hmu
      exact absurd hmu (Nat.not_lt_zero _)
    | succ n ih2 =>
      intro x1_2 Ia2 La2 H locs ls hI hK hr1_2 hv2 hmu2 hM hS hl
      refine lv_iload_n hx hb dX5_findOne_2 rfl (lv_at hl 0 rfl) ?_
      refine lv_aload_n hx hb dX5_findOne_3 rfl (lv_at hl 1 rfl) ?_
      refine m_getr (40) 1 (100) hx hb hts hown hE oc5 hM (hG.1 40 (by decide)) rfl (by decide) rfl (hG.2 (40, 1, 100) (by decide)) (by decide) tb_235 dX5_findOne_4 ?_
      refine m_geti (100) 8 hx hb hts hown hE oc8 hM (hG.1 100 (by decide)) rfl (by decide) rfl tb_61 dX5_findOne_7 ?_
      have g1 := hI.get (100) 8 (lo := 0) (hi := 24) rfl
      refine lv_icmp_ge (tgt := 106) hx hb dX5_findOne_10 (by decide) (fun c2 => ?_) (fun c2 => ?_)
      · have hc2 := c2
        have q2 := q_le hc2
        refine lv_iconst (v := (0)) hx hb dX5_findOne_106 (by decide) ?_
        exact m_zret hx hb hr rfl hlocks hM hS (Nat.le_of_ble_eq_true rfl) (Nat.le_of_ble_eq_true rfl) ⟨_, _, rfl, hI, hK, ⟨by first | omega | decide, hv2⟩⟩ dX5_findOne_107
      · have hc2 := c2
        have q2 := q_nle hc2
        refine lv_aload_n hx hb dX5_findOne_13 rfl (lv_at hl 1 rfl) ?_
        refine m_getr (40) 1 (100) hx hb hts hown hE oc5 hM (hG.1 40 (by decide)) rfl (by decide) rfl (hG.2 (40, 1, 100) (by decide)) (by decide) tb_235 dX5_findOne_14 ?_
        refine lv_iload_n hx hb dX5_findOne_17 rfl (lv_at hl 0 rfl) ?_
        refine lv_iconst (v := (2)) hx hb dX5_findOne_18 (by decide) ?_
        refine m_calli (m_runV (100) (As := [.int (x1_2), .int (2)]) (rest := []) hx hb hml hown hts hE hM hS hA ce_X8_ofMirror tb_1016 (V_X8_ofMirror_100_t l D A ad ns Ia2 La2 G (x1_2) (2) hG hI (by first | omega | decide) (by first | omega | decide)) rfl rfl ⟨Nat.le_of_ble_eq_true rfl, Nat.le_of_ble_eq_true rfl⟩ (hG.1 100 (by decide)) rfl rfl (by decide) rfl hl.1 rfl (Nat.le_of_ble_eq_true rfl) dX5_findOne_19 ⟨Nat.le_of_ble_eq_true rfl, Nat.le_of_ble_eq_true rfl⟩) hS (fun r3 u H locs hw hM hS => ?_)
        obtain ⟨rfl, xr3⟩ := hw
        have hM : Mem D A ad ns Ia2 La2 G H := hM
        refine lv_istore_n (lv' := [(2, .int (r3)), (1, .int (x1_2)), (0, .ref (ad (40)))]) hx hb dX5_findOne_22 rfl hl (by decide) rfl (fun ls hl => ?_)
        refine lv_iconst (v := (0)) hx hb dX5_findOne_23 (by decide) ?_
        refine lv_istore_n (lv' := [(3, .int (0)), (2, .int (r3)), (1, .int (x1_2)), (0, .ref (ad (40)))]) hx hb dX5_findOne_24 rfl hl (by decide) rfl (fun ls hl => ?_)
        have loop25 : ∀ (n : Nat) (x3_25 : Int32) (Ia25 : MI) (La25 : ML) (H : Heap) (locs : List Loc) (ls : Array Slot), INV Ia25 → Kp [(11, 15), (43, 44), (107, 108)] [(10, 2), (10, 3), (10, 4), (10, 5), (10, 6), (10, 7), (10, 11), (10, 12), (41, 0), (41, 1), (41, 2)] I Ia25 → (0 ≤ x3_25.toInt ∧ x3_25.toInt ≤ 8) → (EqV (cF 100 I) (cF 100 Ia25)) → (8 - x3_25.toInt).toNat < n → Mem D A ad ns Ia25 La25 G H → va_S A s.heap H locs → lv_has ls 4 [(3, .int (x3_25)), (2, .int (r3)), (1, .int (x1_2)), (0, .ref (ad (40)))] → W p l e ({ frames := 6, cells := 0, slots := 0, locals := 152 } : Room) s m args below meth c H locs 0 0 (MQ below (va_Qi (fun r u => ∃ I2 L2, u = (ad, ns, I2, L2, G) ∧ INV I2 ∧ Kp [(11, 15), (43, 44), (107, 108)] [(10, 2), (10, 3), (10, 4), (10, 5), (10, 6), (10, 7), (10, 11), (10, 12), (41, 0), (41, 1), (41, 2)] I I2 ∧ ((0 ≤ r.toInt ∧ r.toInt ≤ 1) ∧ KV 100 I I2)) (BM D A) A) args s 0 0 A) (F0 m 25 ls []) := by
          intro n
          induction n with
          | zero =>
            intro x3_25 Ia25 La25 H locs ls hI hK hr3_25 hv25 hmu
            exact absurd hmu (Nat.not_lt_zero _)
          | succ n ih25 =>
            intro x3_25 Ia25 La25 H locs ls hI hK hr3_25 hv25 hmu25 hM hS hl
            refine lv_iload_n hx hb dX5_findOne_25 rfl (lv_at hl 0 rfl) ?_
            refine lv_bipush (v := (8)) hx hb dX5_findOne_26 (by decide) ?_
            refine lv_icmp_ge (tgt := 100) hx hb dX5_findOne_28 (by decide) (fun c4 => ?_) (fun c4 => ?_)
            · have hc4 := c4
              have q4 := q_le hc4
              obtain ⟨v5, ev5⟩ : ∃ z : Int32, z = x1_2 + Int32.ofInt (1) := ⟨_, rfl⟩
              have tv5 := a_inc ev5 (by decide) (by omega) (by omega)
              refine lv_iinc (v := v5) (lv' := [(1, .int (v5)), (3, .int (x3_25)), (2, .int (r3)), (0, .ref (ad (40)))]) hx hb dX5_findOne_100 hl (k := 2) rfl ev5.symm (by decide) rfl (fun ls hl => ?_)
              refine lv_goto (tgt := 2) hx hb dX5_findOne_103 (by decide) ?_
              exact ih2 (v5) Ia25 La25 _ _ ls hI hK (by first | omega | decide) hv25 (by omega) hM hS (lv_sub hl [0, 3] rfl)
            · have hc4 := c4
              have q4 := q_nle hc4
              refine lv_aload_n hx hb dX5_findOne_31 rfl (lv_at hl 3 rfl) ?_
              refine m_getr (40) 4 (43) hx hb hts hown hE oc5 hM (hG.1 40 (by decide)) rfl (by decide) rfl (hG.2 (40, 4, 43) (by decide)) (by decide) tb_238 dX5_findOne_32 ?_
              refine lv_iload_n hx hb dX5_findOne_35 rfl (lv_at hl 2 rfl) ?_
              refine lv_bipush (v := (8)) hx hb dX5_findOne_36 (by decide) ?_
              refine lv_imul hx hb dX5_findOne_38 ?_
              refine lv_topi (fun v6 ev6 => ?_)
              have tv6 := a_mulR (c := 8) ev6 (by decide) (by omega) (by omega)
              refine lv_iload_n hx hb dX5_findOne_39 rfl (lv_at hl 0 rfl) ?_
              refine lv_iadd hx hb dX5_findOne_40 ?_
              refine lv_topi (fun v7 ev7 => ?_)
              have tv7 := a_add ev7 (by omega) (by omega)
              refine lv_aload_n hx hb dX5_findOne_41 rfl (lv_at hl 3 rfl) ?_
              refine m_geti (40) 8 hx hb hts hown hE oc5 hM (hG.1 40 (by decide)) rfl (by decide) rfl tb_242 dX5_findOne_42 ?_
              refine m_iast (43) hx hb hE hM hS (hG.1 43 (by decide)) rfl (vp_in_iff.mpr (by omega)) dX5_findOne_45 (fun H locs I8 eI8 hM hS => ?_)
              subst eI8
              have hI := hI.putF (n := 43) (k := ((v7).toNatClampNeg)) (v := Ia25 (40) 8) rfl
              have hK := hK.put (n := 43) (k := ((v7).toNatClampNeg)) (v := Ia25 (40) 8) (by first | rfl | simp [inR])
              refine lv_aload_n hx hb dX5_findOne_46 rfl (lv_at hl 3 rfl) ?_
              refine m_geti (40) 8 hx hb hts hown hE oc5 hM (hG.1 40 (by decide)) rfl (by decide) rfl tb_242 dX5_findOne_47 ?_
              have z9 : (u2 Ia25 (43) ((v7).toNatClampNeg) (Ia25 (40) 8)) (40) 8 = Ia25 (40) 8 := (show (u2 Ia25 (43) ((v7).toNatClampNeg) (Ia25 (40) 8)) (40) 8 = Ia25 (40) 8 from by simp [u2_v])
              rw [z9]
              refine lv_iload_n hx hb dX5_findOne_50 rfl (lv_at hl 2 rfl) ?_
              refine m_calli (m_runS (As := [.int (Ia25 (40) 8), .int (x1_2)]) (rest := []) hx hb hml hown hts hE hM hS hA ce_X5_isIn tb_1036 (V_X5_isIn l D A ad ns (u2 Ia25 (43) ((v7).toNatClampNeg) (Ia25 (40) 8)) La25 G (Ia25 (40) 8) (x1_2) hI) rfl rfl ⟨Nat.le_of_ble_eq_true rfl, Nat.le_of_ble_eq_true rfl⟩  rfl hl.1 rfl (Nat.le_of_ble_eq_true rfl) dX5_findOne_51 ⟨Nat.le_of_ble_eq_true rfl, Nat.le_of_ble_eq_true rfl⟩) hS (fun r10 u H locs hw hM hS => ?_)
              obtain ⟨rfl, xr10⟩ := hw
              have hM : Mem D A ad ns (u2 Ia25 (43) ((v7).toNatClampNeg) (Ia25 (40) 8)) La25 G H := hM
              refine lv_if_eq (tgt := 94) hx hb dX5_findOne_54 (by decide) (fun c11 => ?_) (fun c11 => ?_)
              · have hc11 := c11
                have q11 := q_eq hc11
                obtain ⟨v12, ev12⟩ : ∃ z : Int32, z = x3_25 + Int32.ofInt (1) := ⟨_, rfl⟩
                have tv12 := a_inc ev12 (by decide) (by omega) (by omega)
                refine lv_iinc (v := v12) (lv' := [(3, .int (v12)), (2, .int (r3)), (1, .int (x1_2)), (0, .ref (ad (40)))]) hx hb dX5_findOne_94 hl (k := 0) rfl ev12.symm (by decide) rfl (fun ls hl => ?_)
                refine lv_goto (tgt := 25) hx hb dX5_findOne_97 (by decide) ?_
                exact ih25 (v12) (u2 Ia25 (43) ((v7).toNatClampNeg) (Ia25 (40) 8)) La25 _ _ ls hI hK (by first | omega | decide) (hv25.nx (n := 43) (by decide)) (by omega) hM hS (lv_sub hl [0, 1, 2, 3] rfl)
              · have hc11 := c11
                have q11 := q_ne hc11
                refine lv_iload_n hx hb dX5_findOne_57 rfl (lv_at hl 0 rfl) ?_
                refine lv_iload_n hx hb dX5_findOne_58 rfl (lv_at hl 1 rfl) ?_
                refine lv_icmp_eq (tgt := 94) hx hb dX5_findOne_59 (by decide) (fun c13 => ?_) (fun c13 => ?_)
                · have hc13 := c13
                  have q13 := q_eq hc13
                  obtain ⟨v14, ev14⟩ : ∃ z : Int32, z = x3_25 + Int32.ofInt (1) := ⟨_, rfl⟩
                  have tv14 := a_inc ev14 (by decide) (by omega) (by omega)
                  refine lv_iinc (v := v14) (lv' := [(3, .int (v14)), (2, .int (r3)), (1, .int (x1_2)), (0, .ref (ad (40)))]) hx hb dX5_findOne_94 hl (k := 0) rfl ev14.symm (by decide) rfl (fun ls hl => ?_)
                  refine lv_goto (tgt := 25) hx hb dX5_findOne_97 (by decide) ?_
                  exact ih25 (v14) (u2 Ia25 (43) ((v7).toNatClampNeg) (Ia25 (40) 8)) La25 _ _ ls hI hK (by first | omega | decide) (hv25.nx (n := 43) (by decide)) (by omega) hM hS (lv_sub hl [0, 1, 2, 3] rfl)
                · have hc13 := c13
                  have q13 := q_ne hc13
                  refine lv_aload_n hx hb dX5_findOne_62 rfl (lv_at hl 3 rfl) ?_
                  refine lv_iload_n hx hb dX5_findOne_63 rfl (lv_at hl 2 rfl) ?_
                  refine lv_iload_n hx hb dX5_findOne_64 rfl (lv_at hl 0 rfl) ?_
                  refine m_calli (m_runV (40) (As := [.int (x1_2), .int (x3_25)]) (rest := []) hx hb hml hown hts hE hM hS hA ce_X5_isMendedBy tb_1039 (V_X5_isMendedBy_t l D A ad ns (u2 Ia25 (43) ((v7).toNatClampNeg) (Ia25 (40) 8)) La25 G (x1_2) (x3_25) hG hI (by rw [hK.get 40 5 rfl]; exact hlit.kp hK rfl) (by first | omega | decide) (by first | omega | decide)) rfl rfl ⟨Nat.le_of_ble_eq_true rfl, Nat.le_of_ble_eq_true rfl⟩ (hG.1 40 (by decide)) rfl rfl (by decide) rfl hl.1 rfl (Nat.le_of_ble_eq_true rfl) dX5_findOne_65 ⟨Nat.le_of_ble_eq_true rfl, Nat.le_of_ble_eq_true rfl⟩) hS (fun r15 u H locs hw hM hS => ?_)
                  obtain ⟨I16, L17, rfl, hI, hkI16, xr15⟩ := hw
                  have hM : Mem D A ad ns I16 L17 G H := hM
                  have hK := hK.trans hkI16 rfl
                  refine lv_if_eq (tgt := 94) hx hb dX5_findOne_68 (by decide) (fun c18 => ?_) (fun c18 => ?_)
                  · have hc18 := c18
                    have q18 := q_eq hc18
                    obtain ⟨v19, ev19⟩ : ∃ z : Int32, z = x3_25 + Int32.ofInt (1) := ⟨_, rfl⟩
                    have tv19 := a_inc ev19 (by decide) (by omega) (by omega)
                    refine lv_iinc (v := v19) (lv' := [(3, .int (v19)), (2, .int (r3)), (1, .int (x1_2)), (0, .ref (ad (40)))]) hx hb dX5_findOne_94 hl (k := 0) rfl ev19.symm (by decide) rfl (fun ls hl => ?_)
                    refine lv_goto (tgt := 25) hx hb dX5_findOne_97 (by decide) ?_
                    exact ih25 (v19) I16 L17 _ _ ls hI hK (by first | omega | decide) ((hv25.nx (n := 43) (by decide)).tr xr15.2) (by omega) hM hS (lv_sub hl [0, 1, 2, 3] rfl)
                  · have hc18 := c18
                    have q18 := q_ne hc18
                    refine lv_aload_n hx hb dX5_findOne_71 rfl (lv_at hl 3 rfl) ?_
                    refine m_getr (40) 0 (41) hx hb hts hown hE oc5 hM (hG.1 40 (by decide)) rfl (by decide) rfl (hG.2 (40, 0, 41) (by decide)) (by decide) tb_233 dX5_findOne_72 ?_
                    refine lv_iconst (v := (0)) hx hb dX5_findOne_75 (by decide) ?_
                    refine lv_iconst (v := (1)) hx hb dX5_findOne_76 (by decide) ?_
                    refine m_iast (41) hx hb hE hM hS (hG.1 41 (by decide)) rfl (vp_in_iff.mpr (by decide)) dX5_findOne_77 (fun H locs I20 eI20 hM hS => ?_)
                    rw [show (0 : Int32).toNatClampNeg = 0 from rfl] at eI20
                    subst eI20
                    have hI := hI.putF (n := 41) (k := 0) (v := 1) rfl
                    have hK := hK.put (n := 41) (k := 0) (v := 1) (by first | rfl | simp [inR])
                    refine lv_aload_n hx hb dX5_findOne_78 rfl (lv_at hl 3 rfl) ?_
                    refine m_getr (40) 0 (41) hx hb hts hown hE oc5 hM (hG.1 40 (by decide)) rfl (by decide) rfl (hG.2 (40, 0, 41) (by decide)) (by decide) tb_233 dX5_findOne_79 ?_
                    refine lv_iconst (v := (1)) hx hb dX5_findOne_82 (by decide) ?_
                    refine lv_iload_n hx hb dX5_findOne_83 rfl (lv_at hl 2 rfl) ?_
                    refine m_iast (41) hx hb hE hM hS (hG.1 41 (by decide)) rfl (vp_in_iff.mpr (by decide)) dX5_findOne_84 (fun H locs I21 eI21 hM hS => ?_)
                    rw [show (1 : Int32).toNatClampNeg = 1 from rfl] at eI21
                    subst eI21
                    have hI := hI.putF (n := 41) (k := 1) (v := x1_2) rfl
                    have hK := hK.put (n := 41) (k := 1) (v := x1_2) (by first | rfl | simp [inR])
                    refine lv_aload_n hx hb dX5_findOne_85 rfl (lv_at hl 3 rfl) ?_
                    refine m_getr (40) 0 (41) hx hb hts hown hE oc5 hM (hG.1 40 (by decide)) rfl (by decide) rfl (hG.2 (40, 0, 41) (by decide)) (by decide) tb_233 dX5_findOne_86 ?_
                    refine lv_iconst (v := (2)) hx hb dX5_findOne_89 (by decide) ?_
                    refine lv_iload_n hx hb dX5_findOne_90 rfl (lv_at hl 0 rfl) ?_
                    refine m_iast (41) hx hb hE hM hS (hG.1 41 (by decide)) rfl (vp_in_iff.mpr (by decide)) dX5_findOne_91 (fun H locs I22 eI22 hM hS => ?_)
                    rw [show (2 : Int32).toNatClampNeg = 2 from rfl] at eI22
                    subst eI22
                    have hI := hI.putF (n := 41) (k := 2) (v := x3_25) rfl
                    have hK := hK.put (n := 41) (k := 2) (v := x3_25) (by first | rfl | simp [inR])
                    refine lv_iconst (v := (1)) hx hb dX5_findOne_92 (by decide) ?_
                    exact m_zret hx hb hr rfl hlocks hM hS (Nat.le_of_ble_eq_true rfl) (Nat.le_of_ble_eq_true rfl) ⟨_, _, rfl, hI, hK, ⟨by first | omega | decide, (((((hv25.nx (n := 43) (by decide)).tr xr15.2).nx (n := 41) (by decide)).nx (n := 41) (by decide)).nx (n := 41) (by decide))⟩⟩ dX5_findOne_93
        exact loop25 (_ + 1) (0) Ia2 La2 _ _ ls hI hK (by first | omega | decide) hv2 (Nat.lt_succ_self _) hM hS (lv_sub hl [0, 1, 2, 3] rfl)
  exact loop2 (_ + 1) (0) I L _ _ ls hI hK (by first | omega | decide) EqV.rf (Nat.lt_succ_self _) hM hS (lv_sub hl [0, 1] rfl)
set_option maxHeartbeats 4000000 in
set_option maxRecDepth 20000 in
theorem V_X5_findTwo_t (l : Launch) (D : va_G) (A : Nat → Prop) (ad : Nat → Nat) (ns : List Nat) (I : MI) (L : ML) (G : MG) (hG : SGC ns G) (hI : INV I) (hlit : Lit 100 I (I 40 5)) : Met l yX5_findTwo (wd yX5_findTwo cX5_findTwo 3 none) ({ frames := 6, cells := 0, slots := 0, locals := 156 }) (va_Pc [.ref (ad (40))] (PM D A ad ns I L G)) (va_Qv (fun u => ∃ I2 L2, u = (ad, ns, I2, L2, G) ∧ INV I2 ∧ Kp [(11, 15), (107, 108)] [(10, 2), (10, 3), (10, 4), (10, 5), (10, 6), (10, 7), (10, 11), (10, 12), (41, 0), (41, 1), (41, 2), (41, 3), (41, 4)] I I2 ∧ (KV 100 I I2)) (BM D A) A) 0 0 A := by
  refine m_ofW (by decide) (Nat.le_of_ble_eq_true rfl) ?_
  intro p e s m below meth c ls args hC hE hM hA hS hl
  obtain ⟨hx, hb, hml, hown, hts, hr, hlocks, hin⟩ := hC
  have k0 : (0 : Int32).toInt = 0 := by decide
  have k1 : (1 : Int32).toInt = 1 := by decide
  have k2 : (2 : Int32).toInt = 2 := by decide
  have k3 : (3 : Int32).toInt = 3 := by decide
  have hK : Kp [(11, 15), (107, 108)] [(10, 2), (10, 3), (10, 4), (10, 5), (10, 6), (10, 7), (10, 11), (10, 12), (41, 0), (41, 1), (41, 2), (41, 3), (41, 4)] I I := Kp.rf
  have hl : lv_has ls 3 [(0, .ref (ad (40)))] := hl
  refine lv_iconst (v := (0)) hx hb dX5_findTwo_0 (by decide) ?_
  refine lv_istore_n (lv' := [(1, .int (0)), (0, .ref (ad (40)))]) hx hb dX5_findTwo_1 rfl hl (by decide) rfl (fun ls hl => ?_)
  have loop2 : ∀ (n : Nat) (x1_2 : Int32) (Ia2 : MI) (La2 : ML) (H : Heap) (locs : List Loc) (ls : Array Slot), INV Ia2 → Kp [(11, 15), (107, 108)] [(10, 2), (10, 3), (10, 4), (10, 5), (10, 6), (10, 7), (10, 11), (10, 12), (41, 0), (41, 1), (41, 2), (41, 3), (41, 4)] I Ia2 → (0 ≤ x1_2.toInt ∧ x1_2.toInt ≤ 24) → (EqV (cF 100 I) (cF 100 Ia2)) → (24 - x1_2.toInt).toNat < n → Mem D A ad ns Ia2 La2 G H → va_S A s.heap H locs → lv_has ls 3 [(1, .int (x1_2)), (0, .ref (ad (40)))] → W p l e ({ frames := 6, cells := 0, slots := 0, locals := 156 } : Room) s m args below meth c H locs 0 0 (MQ below (va_Qv (fun u => ∃ I2 L2, u = (ad, ns, I2, L2, G) ∧ INV I2 ∧ Kp [(11, 15), (107, 108)] [(10, 2), (10, 3), (10, 4), (10, 5), (10, 6), (10, 7), (10, 11), (10, 12), (41, 0), (41, 1), (41, 2), (41, 3), (41, 4)] I I2 ∧ (KV 100 I I2)) (BM D A) A) args s 0 0 A) (F0 m 2 ls []) := by
    intro n
    induction n with
    | zero =>
      intro x1_2 Ia2 La2 H locs ls hI hK hr1_2 hv2 hmu
      exact absurd hmu (Nat.not_lt_zero _)
    | succ n ih2 =>
      intro x1_2 Ia2 La2 H locs ls hI hK hr1_2 hv2 hmu2 hM hS hl
      refine lv_iload_n hx hb dX5_findTwo_2 rfl (lv_at hl 0 rfl) ?_
      refine lv_aload_n hx hb dX5_findTwo_3 rfl (lv_at hl 1 rfl) ?_
      refine m_getr (40) 1 (100) hx hb hts hown hE oc5 hM (hG.1 40 (by decide)) rfl (by decide) rfl (hG.2 (40, 1, 100) (by decide)) (by decide) tb_235 dX5_findTwo_4 ?_
      refine m_geti (100) 8 hx hb hts hown hE oc8 hM (hG.1 100 (by decide)) rfl (by decide) rfl tb_61 dX5_findTwo_7 ?_
      have g1 := hI.get (100) 8 (lo := 0) (hi := 24) rfl
      refine lv_icmp_ge (tgt := 71) hx hb dX5_findTwo_10 (by decide) (fun c2 => ?_) (fun c2 => ?_)
      · have hc2 := c2
        have q2 := q_le hc2
        exact m_vret hx hb hr hlocks hM hS (Nat.le_of_ble_eq_true rfl) (Nat.le_of_ble_eq_true rfl) ⟨_, _, rfl, hI, hK, hv2⟩ dX5_findTwo_71
      · have hc2 := c2
        have q2 := q_nle hc2
        refine lv_iload_n hx hb dX5_findTwo_13 rfl (lv_at hl 0 rfl) ?_
        refine lv_iconst (v := (1)) hx hb dX5_findTwo_14 (by decide) ?_
        refine lv_iadd hx hb dX5_findTwo_15 ?_
        refine lv_topi (fun v3 ev3 => ?_)
        have tv3 := a_add ev3 (by omega) (by omega)
        refine lv_istore_n (lv' := [(2, .int (v3)), (1, .int (x1_2)), (0, .ref (ad (40)))]) hx hb dX5_findTwo_16 rfl hl (by decide) rfl (fun ls hl => ?_)
        have loop17 : ∀ (n : Nat) (x2_17 : Int32) (Ia17 : MI) (La17 : ML) (H : Heap) (locs : List Loc) (ls : Array Slot), INV Ia17 → Kp [(11, 15), (107, 108)] [(10, 2), (10, 3), (10, 4), (10, 5), (10, 6), (10, 7), (10, 11), (10, 12), (41, 0), (41, 1), (41, 2), (41, 3), (41, 4)] I Ia17 → (0 ≤ x2_17.toInt ∧ x2_17.toInt ≤ 24) → (EqV (cF 100 I) (cF 100 Ia17)) → (24 - x2_17.toInt).toNat < n → Mem D A ad ns Ia17 La17 G H → va_S A s.heap H locs → lv_has ls 3 [(2, .int (x2_17)), (1, .int (x1_2)), (0, .ref (ad (40)))] → W p l e ({ frames := 6, cells := 0, slots := 0, locals := 156 } : Room) s m args below meth c H locs 0 0 (MQ below (va_Qv (fun u => ∃ I2 L2, u = (ad, ns, I2, L2, G) ∧ INV I2 ∧ Kp [(11, 15), (107, 108)] [(10, 2), (10, 3), (10, 4), (10, 5), (10, 6), (10, 7), (10, 11), (10, 12), (41, 0), (41, 1), (41, 2), (41, 3), (41, 4)] I I2 ∧ (KV 100 I I2)) (BM D A) A) args s 0 0 A) (F0 m 17 ls []) := by
          intro n
          induction n with
          | zero =>
            intro x2_17 Ia17 La17 H locs ls hI hK hr2_17 hv17 hmu
            exact absurd hmu (Nat.not_lt_zero _)
          | succ n ih17 =>
            intro x2_17 Ia17 La17 H locs ls hI hK hr2_17 hv17 hmu17 hM hS hl
            refine lv_iload_n hx hb dX5_findTwo_17 rfl (lv_at hl 0 rfl) ?_
            refine lv_aload_n hx hb dX5_findTwo_18 rfl (lv_at hl 2 rfl) ?_
            refine m_getr (40) 1 (100) hx hb hts hown hE oc5 hM (hG.1 40 (by decide)) rfl (by decide) rfl (hG.2 (40, 1, 100) (by decide)) (by decide) tb_235 dX5_findTwo_19 ?_
            refine m_geti (100) 8 hx hb hts hown hE oc8 hM (hG.1 100 (by decide)) rfl (by decide) rfl tb_61 dX5_findTwo_22 ?_
            have g4 := hI.get (100) 8 (lo := 0) (hi := 24) rfl
            refine lv_icmp_ge (tgt := 65) hx hb dX5_findTwo_25 (by decide) (fun c5 => ?_) (fun c5 => ?_)
            · have hc5 := c5
              have q5 := q_le hc5
              obtain ⟨v6, ev6⟩ : ∃ z : Int32, z = x1_2 + Int32.ofInt (1) := ⟨_, rfl⟩
              have tv6 := a_inc ev6 (by decide) (by omega) (by omega)
              refine lv_iinc (v := v6) (lv' := [(1, .int (v6)), (2, .int (x2_17)), (0, .ref (ad (40)))]) hx hb dX5_findTwo_65 hl (k := 1) rfl ev6.symm (by decide) rfl (fun ls hl => ?_)
              refine lv_goto (tgt := 2) hx hb dX5_findTwo_68 (by decide) ?_
              exact ih2 (v6) Ia17 La17 _ _ ls hI hK (by first | omega | decide) hv17 (by omega) hM hS (lv_sub hl [0, 2] rfl)
            · have hc5 := c5
              have q5 := q_nle hc5
              refine lv_aload_n hx hb dX5_findTwo_28 rfl (lv_at hl 2 rfl) ?_
              refine lv_iload_n hx hb dX5_findTwo_29 rfl (lv_at hl 1 rfl) ?_
              refine lv_iload_n hx hb dX5_findTwo_30 rfl (lv_at hl 0 rfl) ?_
              refine m_calli (m_runV (40) (As := [.int (x1_2), .int (x2_17)]) (rest := []) hx hb hml hown hts hE hM hS hA ce_X5_findSlants tb_1047 (V_X5_findSlants_t l D A ad ns Ia17 La17 G (x1_2) (x2_17) hG hI (by rw [hK.get 40 5 rfl]; exact hlit.kp hK rfl) (by first | omega | decide) (by first | omega | decide)) rfl rfl ⟨Nat.le_of_ble_eq_true rfl, Nat.le_of_ble_eq_true rfl⟩ (hG.1 40 (by decide)) rfl rfl (by decide) rfl hl.1 rfl (Nat.le_of_ble_eq_true rfl) dX5_findTwo_31 ⟨Nat.le_of_ble_eq_true rfl, Nat.le_of_ble_eq_true rfl⟩) hS (fun r7 u H locs hw hM hS => ?_)
              obtain ⟨I8, L9, rfl, hI, hkI8, xr7⟩ := hw
              have hM : Mem D A ad ns I8 L9 G H := hM
              have hK := hK.trans hkI8 rfl
              refine lv_if_eq (tgt := 59) hx hb dX5_findTwo_34 (by decide) (fun c10 => ?_) (fun c10 => ?_)
              · have hc10 := c10
                have q10 := q_eq hc10
                obtain ⟨v11, ev11⟩ : ∃ z : Int32, z = x2_17 + Int32.ofInt (1) := ⟨_, rfl⟩
                have tv11 := a_inc ev11 (by decide) (by omega) (by omega)
                refine lv_iinc (v := v11) (lv' := [(2, .int (v11)), (1, .int (x1_2)), (0, .ref (ad (40)))]) hx hb dX5_findTwo_59 hl (k := 0) rfl ev11.symm (by decide) rfl (fun ls hl => ?_)
                refine lv_goto (tgt := 17) hx hb dX5_findTwo_62 (by decide) ?_
                exact ih17 (v11) I8 L9 _ _ ls hI hK (by first | omega | decide) (hv17.tr xr7.2) (by omega) hM hS (lv_sub hl [0, 1, 2] rfl)
              · have hc10 := c10
                have q10 := q_ne hc10
                refine lv_aload_n hx hb dX5_findTwo_37 rfl (lv_at hl 2 rfl) ?_
                refine m_getr (40) 0 (41) hx hb hts hown hE oc5 hM (hG.1 40 (by decide)) rfl (by decide) rfl (hG.2 (40, 0, 41) (by decide)) (by decide) tb_233 dX5_findTwo_38 ?_
                refine lv_iconst (v := (0)) hx hb dX5_findTwo_41 (by decide) ?_
                refine lv_iconst (v := (2)) hx hb dX5_findTwo_42 (by decide) ?_
                refine m_iast (41) hx hb hE hM hS (hG.1 41 (by decide)) rfl (vp_in_iff.mpr (by decide)) dX5_findTwo_43 (fun H locs I12 eI12 hM hS => ?_)
                rw [show (0 : Int32).toNatClampNeg = 0 from rfl] at eI12
                subst eI12
                have hI := hI.putF (n := 41) (k := 0) (v := 2) rfl
                have hK := hK.put (n := 41) (k := 0) (v := 2) (by first | rfl | simp [inR])
                refine lv_aload_n hx hb dX5_findTwo_44 rfl (lv_at hl 2 rfl) ?_
                refine m_getr (40) 0 (41) hx hb hts hown hE oc5 hM (hG.1 40 (by decide)) rfl (by decide) rfl (hG.2 (40, 0, 41) (by decide)) (by decide) tb_233 dX5_findTwo_45 ?_
                refine lv_iconst (v := (1)) hx hb dX5_findTwo_48 (by decide) ?_
                refine lv_iload_n hx hb dX5_findTwo_49 rfl (lv_at hl 1 rfl) ?_
                refine m_iast (41) hx hb hE hM hS (hG.1 41 (by decide)) rfl (vp_in_iff.mpr (by decide)) dX5_findTwo_50 (fun H locs I13 eI13 hM hS => ?_)
                rw [show (1 : Int32).toNatClampNeg = 1 from rfl] at eI13
                subst eI13
                have hI := hI.putF (n := 41) (k := 1) (v := x1_2) rfl
                have hK := hK.put (n := 41) (k := 1) (v := x1_2) (by first | rfl | simp [inR])
                refine lv_aload_n hx hb dX5_findTwo_51 rfl (lv_at hl 2 rfl) ?_
                refine m_getr (40) 0 (41) hx hb hts hown hE oc5 hM (hG.1 40 (by decide)) rfl (by decide) rfl (hG.2 (40, 0, 41) (by decide)) (by decide) tb_233 dX5_findTwo_52 ?_
                refine lv_iconst (v := (3)) hx hb dX5_findTwo_55 (by decide) ?_
                refine lv_iload_n hx hb dX5_findTwo_56 rfl (lv_at hl 0 rfl) ?_
                refine m_iast (41) hx hb hE hM hS (hG.1 41 (by decide)) rfl (vp_in_iff.mpr (by decide)) dX5_findTwo_57 (fun H locs I14 eI14 hM hS => ?_)
                rw [show (3 : Int32).toNatClampNeg = 3 from rfl] at eI14
                subst eI14
                have hI := hI.putF (n := 41) (k := 3) (v := x2_17) rfl
                have hK := hK.put (n := 41) (k := 3) (v := x2_17) (by first | rfl | simp [inR])
                exact m_vret hx hb hr hlocks hM hS (Nat.le_of_ble_eq_true rfl) (Nat.le_of_ble_eq_true rfl) ⟨_, _, rfl, hI, hK, ((((hv17.tr xr7.2).nx (n := 41) (by decide)).nx (n := 41) (by decide)).nx (n := 41) (by decide))⟩ dX5_findTwo_58
        exact loop17 (_ + 1) (v3) Ia2 La2 _ _ ls hI hK (by first | omega | decide) hv2 (Nat.lt_succ_self _) hM hS (lv_sub hl [0, 1, 2] rfl)
  exact loop2 (_ + 1) (0) I L _ _ ls hI hK (by first | omega | decide) EqV.rf (Nat.lt_succ_self _) hM hS (lv_sub hl [0, 1] rfl)
set_option maxHeartbeats 4000000 in
set_option maxRecDepth 20000 in
theorem V_X9_mends_t (l : Launch) (D : va_G) (A : Nat → Prop) (ad : Nat → Nat) (ns : List Nat) (I : MI) (L : ML) (G : MG) (a0 : Int32) (a1 : Int32) (a2 : Int32) (hG : SGC ns G) (hI : INV I) : Met l yX9_mends (wd yX9_mends cX9_mends 4 (some .int)) ({ frames := 7, cells := 0, slots := 0, locals := 178 }) (va_Pc [.ref (ad (0)), .int a0, .int a1, .int a2] (PM D A ad ns I L G)) (va_Qi (fun r u => ∃ I2 L2, u = (ad, ns, I2, L2, G) ∧ INV I2 ∧ Kp [(11, 15), (41, 44), (107, 108)] [(10, 2), (10, 3), (10, 4), (10, 5), (10, 6), (10, 7), (10, 11), (10, 12), (40, 5), (40, 6), (40, 7), (40, 8)] I I2 ∧ (KV 100 I I2)) (BM D A) A) 0 0 A := by
  refine m_ofW (by decide) (Nat.le_of_ble_eq_true rfl) ?_
  intro p e s m below meth c ls args hC hE hM hA hS hl
  obtain ⟨hx, hb, hml, hown, hts, hr, hlocks, hin⟩ := hC
  have km1 : (-1 : Int32).toInt = -1 := by decide
  have k0 : (0 : Int32).toInt = 0 := by decide
  have k4 : (4 : Int32).toInt = 4 := by decide
  have hK : Kp [(11, 15), (41, 44), (107, 108)] [(10, 2), (10, 3), (10, 4), (10, 5), (10, 6), (10, 7), (10, 11), (10, 12), (40, 5), (40, 6), (40, 7), (40, 8)] I I := Kp.rf
  have hl : lv_has ls 4 [(0, .ref (ad (0))), (1, .int (a0)), (2, .int (a1)), (3, .int (a2))] := hl
  refine lv_aload_n hx hb dX9_mends_0 rfl (lv_at hl 0 rfl) ?_
  refine m_getr (0) 0 (100) hx hb hts hown hE oc9 hM (hG.1 0 (by decide)) rfl (by decide) rfl (hG.2 (0, 0, 100) (by decide)) (by decide) tb_398 dX9_mends_1 ?_
  refine lv_iload_n hx hb dX9_mends_4 rfl (lv_at hl 1 rfl) ?_
  refine m_calli (m_runV (100) (As := [.int (a0)]) (rest := []) hx hb hml hown hts hE hM hS hA ce_X8_isLit tb_906 (V_X8_isLit_100 l D A ad ns I L G (a0) hG hI) rfl rfl ⟨Nat.le_of_ble_eq_true rfl, Nat.le_of_ble_eq_true rfl⟩ (hG.1 100 (by decide)) rfl rfl (by decide) rfl hl.1 rfl (Nat.le_of_ble_eq_true rfl) dX9_mends_5 ⟨Nat.le_of_ble_eq_true rfl, Nat.le_of_ble_eq_true rfl⟩) hS (fun r1 u H locs hw hM hS => ?_)
  obtain ⟨rfl, xr1⟩ := hw
  have hM : Mem D A ad ns I L G H := hM
  have yr1 := bo01 xr1
  refine lv_if_eq (tgt := 31) hx hb dX9_mends_8 (by decide) (fun c2 => ?_) (fun c2 => ?_)
  · have hc2 := c2
    have q2 := xr1.f hc2
    refine lv_iconst (v := (-1)) hx hb dX9_mends_31 (by decide) ?_
    exact m_iret hx hb hr hlocks hM hS (Nat.le_of_ble_eq_true rfl) (Nat.le_of_ble_eq_true rfl) ⟨_, _, rfl, hI, hK, EqV.rf⟩ dX9_mends_32
  · have hc2 := c2
    have q2 := xr1.t hc2
    have lh2 := q2.2.1
    refine lv_aload_n hx hb dX9_mends_11 rfl (lv_at hl 0 rfl) ?_
    refine m_getr (0) 0 (100) hx hb hts hown hE oc9 hM (hG.1 0 (by decide)) rfl (by decide) rfl (hG.2 (0, 0, 100) (by decide)) (by decide) tb_398 dX9_mends_12 ?_
    refine lv_iload_n hx hb dX9_mends_15 rfl (lv_at hl 2 rfl) ?_
    refine m_calli (m_runV (100) (As := [.int (a1)]) (rest := []) hx hb hml hown hts hE hM hS hA ce_X8_hasMirror tb_508 (V_X8_hasMirror_100 l D A ad ns I L G (a1) hG hI) rfl rfl ⟨Nat.le_of_ble_eq_true rfl, Nat.le_of_ble_eq_true rfl⟩ (hG.1 100 (by decide)) rfl rfl (by decide) rfl hl.1 rfl (Nat.le_of_ble_eq_true rfl) dX9_mends_16 ⟨Nat.le_of_ble_eq_true rfl, Nat.le_of_ble_eq_true rfl⟩) hS (fun r3 u H locs hw hM hS => ?_)
    obtain ⟨rfl, xr3⟩ := hw
    have hM : Mem D A ad ns I L G H := hM
    have yr3 := bo01 xr3
    have g4 := hI.get 100 8 (lo := 0) (hi := 24) rfl
    refine lv_if_eq (tgt := 31) hx hb dX9_mends_19 (by decide) (fun c5 => ?_) (fun c5 => ?_)
    · have hc5 := c5
      have q5 := xr3.f hc5
      refine lv_iconst (v := (-1)) hx hb dX9_mends_31 (by decide) ?_
      exact m_iret hx hb hr hlocks hM hS (Nat.le_of_ble_eq_true rfl) (Nat.le_of_ble_eq_true rfl) ⟨_, _, rfl, hI, hK, EqV.rf⟩ dX9_mends_32
    · have hc5 := c5
      have q5 := xr3.t hc5
      refine lv_iload_n hx hb dX9_mends_22 rfl (lv_at hl 3 rfl) ?_
      refine lv_iconst (v := (0)) hx hb dX9_mends_23 (by decide) ?_
      refine lv_iconst (v := (4)) hx hb dX9_mends_24 (by decide) ?_
      refine m_calli (m_runS (As := [.int (a2), .int (0), .int (4)]) (rest := []) hx hb hml hown hts hE hM hS hA ce_X9_isWithin tb_451 (V_X9_isWithin l D A ad ns I L G (a2) (0) (4) hI) rfl rfl ⟨Nat.le_of_ble_eq_true rfl, Nat.le_of_ble_eq_true rfl⟩  rfl hl.1 rfl (Nat.le_of_ble_eq_true rfl) dX9_mends_25 ⟨Nat.le_of_ble_eq_true rfl, Nat.le_of_ble_eq_true rfl⟩) hS (fun r6 u H locs hw hM hS => ?_)
      obtain ⟨rfl, xr6⟩ := hw
      have hM : Mem D A ad ns I L G H := hM
      have yr6 := bo01 xr6
      refine lv_if_ne (tgt := 33) hx hb dX9_mends_28 (by decide) (fun c7 => ?_) (fun c7 => ?_)
      · have hc7 := c7
        have q7 := xr6.t hc7
        refine lv_aload_n hx hb dX9_mends_33 rfl (lv_at hl 0 rfl) ?_
        refine m_getr (0) 6 (40) hx hb hts hown hE oc9 hM (hG.1 0 (by decide)) rfl (by decide) rfl (hG.2 (0, 6, 40) (by decide)) (by decide) tb_404 dX9_mends_34 ?_
        refine lv_iload_n hx hb dX9_mends_37 rfl (lv_at hl 1 rfl) ?_
        refine lv_iload_n hx hb dX9_mends_38 rfl (lv_at hl 2 rfl) ?_
        refine m_callv (m_runV (40) (As := [.int (a0), .int (a1)]) (rest := []) hx hb hml hown hts hE hM hS hA ce_X5_begin tb_1012 (V_X5_begin_t l D A ad ns I L G (a0) (a1) hG hI (q2.2) (by first | omega | decide) (by first | omega | decide)) rfl rfl ⟨Nat.le_of_ble_eq_true rfl, Nat.le_of_ble_eq_true rfl⟩ (hG.1 40 (by decide)) rfl rfl (by decide) rfl hl.1 rfl (Nat.le_of_ble_eq_true rfl) dX9_mends_39 ⟨Nat.le_of_ble_eq_true rfl, Nat.le_of_ble_eq_true rfl⟩) hS (fun u H locs hw hM hS => ?_)
        obtain ⟨I8, L9, rfl, hI, hkI8, xI8⟩ := hw
        have hM : Mem D A ad ns I8 L9 G H := hM
        have hK := hK.trans hkI8 rfl
        refine lv_aload_n hx hb dX9_mends_42 rfl (lv_at hl 0 rfl) ?_
        refine m_getr (0) 6 (40) hx hb hts hown hE oc9 hM (hG.1 0 (by decide)) rfl (by decide) rfl (hG.2 (0, 6, 40) (by decide)) (by decide) tb_404 dX9_mends_43 ?_
        refine m_calli (m_runV (40) (As := []) (rest := []) hx hb hml hown hts hE hM hS hA ce_X5_needsNone tb_1020 (V_X5_needsNone l D A ad ns I8 L9 G hG hI (by rw [xI8.1]; exact (q2.2).kp hK rfl)) rfl rfl ⟨Nat.le_of_ble_eq_true rfl, Nat.le_of_ble_eq_true rfl⟩ (hG.1 40 (by decide)) rfl rfl (by decide) rfl hl.1 rfl (Nat.le_of_ble_eq_true rfl) dX9_mends_46 ⟨Nat.le_of_ble_eq_true rfl, Nat.le_of_ble_eq_true rfl⟩) hS (fun r10 u H locs hw hM hS => ?_)
        obtain ⟨I11, L12, rfl, hI, hkI11, xr10⟩ := hw
        have hM : Mem D A ad ns I11 L12 G H := hM
        have hK := hK.trans hkI11 rfl
        refine lv_if_ne (tgt := 69) hx hb dX9_mends_49 (by decide) (fun c13 => ?_) (fun c13 => ?_)
        · have hc13 := c13
          have q13 := q_ne hc13
          refine lv_aload_n hx hb dX9_mends_69 rfl (lv_at hl 0 rfl) ?_
          refine m_getr (0) 6 (40) hx hb hts hown hE oc9 hM (hG.1 0 (by decide)) rfl (by decide) rfl (hG.2 (0, 6, 40) (by decide)) (by decide) tb_404 dX9_mends_70 ?_
          refine m_callv (m_runV (40) (As := []) (rest := []) hx hb hml hown hts hE hM hS hA ce_X5_restore tb_1055 (V_X5_restore_t l D A ad ns I11 L12 G hG hI) rfl rfl ⟨Nat.le_of_ble_eq_true rfl, Nat.le_of_ble_eq_true rfl⟩ (hG.1 40 (by decide)) rfl rfl (by decide) rfl hl.1 rfl (Nat.le_of_ble_eq_true rfl) dX9_mends_73 ⟨Nat.le_of_ble_eq_true rfl, Nat.le_of_ble_eq_true rfl⟩) hS (fun u H locs hw hM hS => ?_)
          obtain ⟨I14, L15, rfl, hI, hkI14, xI14⟩ := hw
          have hM : Mem D A ad ns I14 L15 G H := hM
          have hK := hK.trans hkI14 rfl
          have hre := xI14
          rw [show I11 40 6 = a1 from ((hkI11.get (40) 6 rfl)).trans xI8.2.1, show I11 40 7 = cF 100 I 15 (a1).toNatClampNeg from ((hkI11.get (40) 7 rfl)).trans xI8.2.2.1] at hre
          refine lv_aload_n hx hb dX9_mends_76 rfl (lv_at hl 0 rfl) ?_
          refine m_getr (0) 6 (40) hx hb hts hown hE oc9 hM (hG.1 0 (by decide)) rfl (by decide) rfl (hG.2 (0, 6, 40) (by decide)) (by decide) tb_404 dX9_mends_77 ?_
          refine m_getr (40) 0 (41) hx hb hts hown hE oc5 hM (hG.1 40 (by decide)) rfl (by decide) rfl (hG.2 (40, 0, 41) (by decide)) (by decide) tb_234 dX9_mends_80 ?_
          refine lv_iload_n hx hb dX9_mends_83 rfl (lv_at hl 3 rfl) ?_
          refine m_iald (41) hx hb hE hM (hG.1 41 (by decide)) rfl (vp_in_iff.mpr (by omega)) dX9_mends_84 ?_
          have z16 : I14 (41) (a2).toNatClampNeg = I11 (41) ((a2).toNatClampNeg) := (congrFun (hkI14.getA (41) rfl) ((a2).toNatClampNeg))
          rw [z16]
          exact m_iret hx hb hr hlocks hM hS (Nat.le_of_ble_eq_true rfl) (Nat.le_of_ble_eq_true rfl) ⟨_, _, rfl, hI, hK, (EqV.bk (EqV.st (xI8.2.2.2.nk hkI11 rfl) hre) rfl)⟩ dX9_mends_85
        · have hc13 := c13
          have q13 := q_eq hc13
          refine lv_aload_n hx hb dX9_mends_52 rfl (lv_at hl 0 rfl) ?_
          refine m_getr (0) 6 (40) hx hb hts hown hE oc9 hM (hG.1 0 (by decide)) rfl (by decide) rfl (hG.2 (0, 6, 40) (by decide)) (by decide) tb_404 dX9_mends_53 ?_
          refine m_calli (m_runV (40) (As := []) (rest := []) hx hb hml hown hts hE hM hS hA ce_X5_findOne tb_1032 (V_X5_findOne_t l D A ad ns I11 L12 G hG hI (by rw [(hkI11.get (40) 5 rfl), xI8.1]; exact (q2.2).kp hK rfl)) rfl rfl ⟨Nat.le_of_ble_eq_true rfl, Nat.le_of_ble_eq_true rfl⟩ (hG.1 40 (by decide)) rfl rfl (by decide) rfl hl.1 rfl (Nat.le_of_ble_eq_true rfl) dX9_mends_56 ⟨Nat.le_of_ble_eq_true rfl, Nat.le_of_ble_eq_true rfl⟩) hS (fun r17 u H locs hw hM hS => ?_)
          obtain ⟨I18, L19, rfl, hI, hkI18, xr17⟩ := hw
          have hM : Mem D A ad ns I18 L19 G H := hM
          have hK := hK.trans hkI18 rfl
          refine lv_if_ne (tgt := 69) hx hb dX9_mends_59 (by decide) (fun c20 => ?_) (fun c20 => ?_)
          · have hc20 := c20
            have q20 := q_ne hc20
            refine lv_aload_n hx hb dX9_mends_69 rfl (lv_at hl 0 rfl) ?_
            refine m_getr (0) 6 (40) hx hb hts hown hE oc9 hM (hG.1 0 (by decide)) rfl (by decide) rfl (hG.2 (0, 6, 40) (by decide)) (by decide) tb_404 dX9_mends_70 ?_
            refine m_callv (m_runV (40) (As := []) (rest := []) hx hb hml hown hts hE hM hS hA ce_X5_restore tb_1055 (V_X5_restore_t l D A ad ns I18 L19 G hG hI) rfl rfl ⟨Nat.le_of_ble_eq_true rfl, Nat.le_of_ble_eq_true rfl⟩ (hG.1 40 (by decide)) rfl rfl (by decide) rfl hl.1 rfl (Nat.le_of_ble_eq_true rfl) dX9_mends_73 ⟨Nat.le_of_ble_eq_true rfl, Nat.le_of_ble_eq_true rfl⟩) hS (fun u H locs hw hM hS => ?_)
            obtain ⟨I21, L22, rfl, hI, hkI21, xI21⟩ := hw
            have hM : Mem D A ad ns I21 L22 G H := hM
            have hK := hK.trans hkI21 rfl
            have hre := xI21
            rw [show I18 40 6 = a1 from (((hkI18.get (40) 6 rfl)).trans (hkI11.get (40) 6 rfl)).trans xI8.2.1, show I18 40 7 = cF 100 I 15 (a1).toNatClampNeg from (((hkI18.get (40) 7 rfl)).trans (hkI11.get (40) 7 rfl)).trans xI8.2.2.1] at hre
            refine lv_aload_n hx hb dX9_mends_76 rfl (lv_at hl 0 rfl) ?_
            refine m_getr (0) 6 (40) hx hb hts hown hE oc9 hM (hG.1 0 (by decide)) rfl (by decide) rfl (hG.2 (0, 6, 40) (by decide)) (by decide) tb_404 dX9_mends_77 ?_
            refine m_getr (40) 0 (41) hx hb hts hown hE oc5 hM (hG.1 40 (by decide)) rfl (by decide) rfl (hG.2 (40, 0, 41) (by decide)) (by decide) tb_234 dX9_mends_80 ?_
            refine lv_iload_n hx hb dX9_mends_83 rfl (lv_at hl 3 rfl) ?_
            refine m_iald (41) hx hb hE hM (hG.1 41 (by decide)) rfl (vp_in_iff.mpr (by omega)) dX9_mends_84 ?_
            have z23 : I21 (41) (a2).toNatClampNeg = I18 (41) ((a2).toNatClampNeg) := (congrFun (hkI21.getA (41) rfl) ((a2).toNatClampNeg))
            rw [z23]
            exact m_iret hx hb hr hlocks hM hS (Nat.le_of_ble_eq_true rfl) (Nat.le_of_ble_eq_true rfl) ⟨_, _, rfl, hI, hK, (EqV.bk (EqV.st ((xI8.2.2.2.nk hkI11 rfl).tr xr17.2) hre) rfl)⟩ dX9_mends_85
          · have hc20 := c20
            have q20 := q_eq hc20
            refine lv_aload_n hx hb dX9_mends_62 rfl (lv_at hl 0 rfl) ?_
            refine m_getr (0) 6 (40) hx hb hts hown hE oc9 hM (hG.1 0 (by decide)) rfl (by decide) rfl (hG.2 (0, 6, 40) (by decide)) (by decide) tb_404 dX9_mends_63 ?_
            refine m_callv (m_runV (40) (As := []) (rest := []) hx hb hml hown hts hE hM hS hA ce_X5_findTwo tb_1043 (V_X5_findTwo_t l D A ad ns I18 L19 G hG hI (by rw [((hkI18.get (40) 5 rfl)).trans (hkI11.get (40) 5 rfl), xI8.1]; exact (q2.2).kp hK rfl)) rfl rfl ⟨Nat.le_of_ble_eq_true rfl, Nat.le_of_ble_eq_true rfl⟩ (hG.1 40 (by decide)) rfl rfl (by decide) rfl hl.1 rfl (Nat.le_of_ble_eq_true rfl) dX9_mends_66 ⟨Nat.le_of_ble_eq_true rfl, Nat.le_of_ble_eq_true rfl⟩) hS (fun u H locs hw hM hS => ?_)
            obtain ⟨I24, L25, rfl, hI, hkI24, xI24⟩ := hw
            have hM : Mem D A ad ns I24 L25 G H := hM
            have hK := hK.trans hkI24 rfl
            refine lv_aload_n hx hb dX9_mends_69 rfl (lv_at hl 0 rfl) ?_
            refine m_getr (0) 6 (40) hx hb hts hown hE oc9 hM (hG.1 0 (by decide)) rfl (by decide) rfl (hG.2 (0, 6, 40) (by decide)) (by decide) tb_404 dX9_mends_70 ?_
            refine m_callv (m_runV (40) (As := []) (rest := []) hx hb hml hown hts hE hM hS hA ce_X5_restore tb_1055 (V_X5_restore_t l D A ad ns I24 L25 G hG hI) rfl rfl ⟨Nat.le_of_ble_eq_true rfl, Nat.le_of_ble_eq_true rfl⟩ (hG.1 40 (by decide)) rfl rfl (by decide) rfl hl.1 rfl (Nat.le_of_ble_eq_true rfl) dX9_mends_73 ⟨Nat.le_of_ble_eq_true rfl, Nat.le_of_ble_eq_true rfl⟩) hS (fun u H locs hw hM hS => ?_)
            obtain ⟨I26, L27, rfl, hI, hkI26, xI26⟩ := hw
            have hM : Mem D A ad ns I26 L27 G H := hM
            have hK := hK.trans hkI26 rfl
            have hre := xI26
            rw [show I24 40 6 = a1 from ((((hkI24.get (40) 6 rfl)).trans (hkI18.get (40) 6 rfl)).trans (hkI11.get (40) 6 rfl)).trans xI8.2.1, show I24 40 7 = cF 100 I 15 (a1).toNatClampNeg from ((((hkI24.get (40) 7 rfl)).trans (hkI18.get (40) 7 rfl)).trans (hkI11.get (40) 7 rfl)).trans xI8.2.2.1] at hre
            refine lv_aload_n hx hb dX9_mends_76 rfl (lv_at hl 0 rfl) ?_
            refine m_getr (0) 6 (40) hx hb hts hown hE oc9 hM (hG.1 0 (by decide)) rfl (by decide) rfl (hG.2 (0, 6, 40) (by decide)) (by decide) tb_404 dX9_mends_77 ?_
            refine m_getr (40) 0 (41) hx hb hts hown hE oc5 hM (hG.1 40 (by decide)) rfl (by decide) rfl (hG.2 (40, 0, 41) (by decide)) (by decide) tb_234 dX9_mends_80 ?_
            refine lv_iload_n hx hb dX9_mends_83 rfl (lv_at hl 3 rfl) ?_
            refine m_iald (41) hx hb hE hM (hG.1 41 (by decide)) rfl (vp_in_iff.mpr (by omega)) dX9_mends_84 ?_
            have z28 : I26 (41) (a2).toNatClampNeg = I24 (41) ((a2).toNatClampNeg) := (congrFun (hkI26.getA (41) rfl) ((a2).toNatClampNeg))
            rw [z28]
            exact m_iret hx hb hr hlocks hM hS (Nat.le_of_ble_eq_true rfl) (Nat.le_of_ble_eq_true rfl) ⟨_, _, rfl, hI, hK, (EqV.bk (EqV.st (((xI8.2.2.2.nk hkI11 rfl).tr xr17.2).tr xI24) hre) rfl)⟩ dX9_mends_85
      · have hc7 := c7
        have q7 := xr6.f hc7
        refine lv_iconst (v := (-1)) hx hb dX9_mends_31 (by decide) ?_
        exact m_iret hx hb hr hlocks hM hS (Nat.le_of_ble_eq_true rfl) (Nat.le_of_ble_eq_true rfl) ⟨_, _, rfl, hI, hK, EqV.rf⟩ dX9_mends_32
