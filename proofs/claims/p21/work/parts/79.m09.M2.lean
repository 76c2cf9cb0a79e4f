set_option maxHeartbeats 4000000 in
set_option maxRecDepth 20000 in
theorem V_X10_goes_l (l : Launch) (D : va_G) (A : Nat → Prop) (ad : Nat → Nat) (ns : List Nat) (I : MI) (L : ML) (G : MG) (a0 : Int32) (a1 : Int32) (a2 : Int32) (a3 : Int32) (hJ : SGM ns G) (hI : INV I) (hTR : TRk (twM I)) (htn : (I 1001 0).toInt = 1) (hsk : (I 1000 59).toInt = 0) (ha2 : 0 ≤ a2.toInt ∧ a2.toInt ≤ 7) (ha3 : 0 ≤ a3.toInt ∧ a3.toInt ≤ 99999) : Met l yX10_goes (wd yX10_goes cX10_goes 15 none) ({ frames := 2, cells := 0, slots := 0, locals := 48 }) (va_Pc [.ref (ad (1000)), .int a0, .int a1, .int a2, .int a3] (PM D A ad ns I L G)) (va_Qv (fun u => ∃ I2 L2, u = (ad, ns, I2, L2, G) ∧ INV I2 ∧ Kp [(1045, 1051)] [(1000, 52), (1000, 53), (1000, 54), (1000, 55), (1000, 56)] I I2 ∧ ((2 * (2000 - (I2 1000 55).toInt) + (I2 1000 52).toInt ≤ 2 * (2000 - (I 1000 55).toInt) + (I 1000 52).toInt) ∧ BMM (twM I) I I2 a0 a1 a2 a3)) (BM D A) A) 0 0 A := by
  refine m_ofW (by decide) (Nat.le_of_ble_eq_true rfl) ?_
  intro p e s m below meth c ls args hC hE hM hA hS hl
  obtain ⟨hx, hb, hml, hown, hts, hr, hlocks, hin⟩ := hC
  have km1 : (-1 : Int32).toInt = -1 := by decide
  have k0 : (0 : Int32).toInt = 0 := by decide
  have k1 : (1 : Int32).toInt = 1 := by decide
  have k4 : (4 : Int32).toInt = 4 := by decide
  have k8 : (8 : Int32).toInt = 8 := by decide
  have k24 : (24 : Int32).toInt = 24 := by decide
  have k1000 : (1000 : Int32).toInt = 1000 := by decide
  have k2000 : (2000 : Int32).toInt = 2000 := by decide
  have kl1000 : (1000 : Int64).toInt = 1000 := by decide
  have hK : Kp [(1045, 1051)] [(1000, 52), (1000, 53), (1000, 54), (1000, 55), (1000, 56)] I I := Kp.rf
  have hl : lv_has ls 15 [(0, .ref (ad (1000))), (1, .int (a0)), (2, .int (a1)), (3, .int (a2)), (4, .int (a3))] := hl
  refine lv_iload_n hx hb dX10_goes_0 rfl (lv_at hl 1 rfl) ?_
  refine lv_istore (lv' := [(5, .int (a0)), (0, .ref (ad (1000))), (1, .int (a0)), (2, .int (a1)), (3, .int (a2)), (4, .int (a3))]) hx hb dX10_goes_1 hl (by decide) rfl (fun ls hl => ?_)
  refine lv_iload_n hx hb dX10_goes_3 rfl (lv_at hl 3 rfl) ?_
  refine lv_istore (lv' := [(6, .int (a1)), (5, .int (a0)), (0, .ref (ad (1000))), (1, .int (a0)), (2, .int (a1)), (3, .int (a2)), (4, .int (a3))]) hx hb dX10_goes_4 hl (by decide) rfl (fun ls hl => ?_)
  refine lv_iload_n hx hb dX10_goes_6 rfl (lv_at hl 5 rfl) ?_
  refine lv_istore (lv' := [(7, .int (a2)), (6, .int (a1)), (5, .int (a0)), (0, .ref (ad (1000))), (1, .int (a0)), (2, .int (a1)), (3, .int (a2)), (4, .int (a3))]) hx hb dX10_goes_7 hl (by decide) rfl (fun ls hl => ?_)
  refine lv_iload hx hb dX10_goes_9 (lv_at hl 7 rfl) ?_
  refine lv_istore (lv' := [(8, .int (a3)), (7, .int (a2)), (6, .int (a1)), (5, .int (a0)), (0, .ref (ad (1000))), (1, .int (a0)), (2, .int (a1)), (3, .int (a2)), (4, .int (a3))]) hx hb dX10_goes_11 hl (by decide) rfl (fun ls hl => ?_)
  have loop13 : ∀ (n : Nat) (x8_13 : Int32) (x7_13 : Int32) (x6_13 : Int32) (x5_13 : Int32) (Ia13 : MI) (La13 : ML) (H : Heap) (locs : List Loc) (ls : Array Slot), INV Ia13 → Kp [(1045, 1051)] [(1000, 52), (1000, 53), (1000, 54), (1000, 55), (1000, 56)] I Ia13 → (0 ≤ x8_13.toInt ∧ x8_13.toInt ≤ 99999) → (0 ≤ x7_13.toInt ∧ x7_13.toInt ≤ 7) → (2 * (2000 - (Ia13 1000 55).toInt) + (Ia13 1000 52).toInt ≤ 2 * (2000 - (I 1000 55).toInt) + (I 1000 52).toInt) → (FXM (twM I) I Ia13 x5_13 x6_13 x7_13 x8_13 a0 a1 a2 a3) → (2000 - (Ia13 1000 55).toInt).toNat < n → Mem D A ad ns Ia13 La13 G H → va_S A s.heap H locs → lv_has ls 15 [(8, .int (x8_13)), (7, .int (x7_13)), (6, .int (x6_13)), (5, .int (x5_13)), (0, .ref (ad (1000))), (1, .int (a0)), (2, .int (a1)), (3, .int (a2)), (4, .int (a3))] → W p l e ({ frames := 2, cells := 0, slots := 0, locals := 48 } : Room) s m args below meth c H locs 0 0 (MQ below (va_Qv (fun u => ∃ I2 L2, u = (ad, ns, I2, L2, G) ∧ INV I2 ∧ Kp [(1045, 1051)] [(1000, 52), (1000, 53), (1000, 54), (1000, 55), (1000, 56)] I I2 ∧ ((2 * (2000 - (I2 1000 55).toInt) + (I2 1000 52).toInt ≤ 2 * (2000 - (I 1000 55).toInt) + (I 1000 52).toInt) ∧ BMM (twM I) I I2 a0 a1 a2 a3)) (BM D A) A) args s 0 0 A) (F0 m 13 ls []) := by
    intro n
    induction n with
    | zero =>
      intro x8_13 x7_13 x6_13 x5_13 Ia13 La13 H locs ls hI hK hr8_13 hr7_13 hx2 hF13 hmu
      exact absurd hmu (Nat.not_lt_zero _)
    | succ n ih13 =>
      intro x8_13 x7_13 x6_13 x5_13 Ia13 La13 H locs ls hI hK hr8_13 hr7_13 hx2 hF13 hmu13 hM hS hl
      have tw13 : twM Ia13 = twM I := twM_kp hK rfl
      have hTR3 : TRk (twM Ia13) := by rw [tw13]; exact hTR
      have hair : 0 ≤ (Ia13 1001 4).toInt ∧ (Ia13 1001 4).toInt ≤ 1000 := hTR3.1
      rw [← tw13] at hF13
      have g13 := hI.get 1000 55 (lo := 0) (hi := 2000) rfl
      have htn3 : (Ia13 1001 0).toInt = 1 := by rw [hK.apm rfl 1001 (by decide) (by decide)]; exact htn
      refine lv_iload hx hb dX10_goes_13 (lv_at hl 0 rfl) ?_
      refine lv_if_le (tgt := 428) hx hb dX10_goes_15 (by decide) (fun c1 => ?_) (fun c1 => ?_)
      · have hc1 := c1
        have q1 := q_le hc1
        exact m_vret hx hb hr hlocks hM hS (Nat.le_of_ble_eq_true rfl) (Nat.le_of_ble_eq_true rfl) ⟨_, _, rfl, hI, hK, ⟨(by omega), (by rw [← tw13]; exact FXM.fin hF13 (by omega))⟩⟩ dX10_goes_428
      · have hc1 := c1
        have q1 := q_nle hc1
        refine lv_aload_n hx hb dX10_goes_18 rfl (lv_at hl 4 rfl) ?_
        refine m_geti (1000) 55 hx hb hts hown hE oc10 hM hJ.1 rfl (by decide) rfl tb_1232 dX10_goes_19 ?_
        have g2 := hI.get (1000) 55 (lo := 0) (hi := 2000) rfl
        refine lv_sipush (v := (2000)) hx hb dX10_goes_22 (by decide) ?_
        refine lv_icmp_ne (tgt := 40) hx hb dX10_goes_25 (by decide) (fun c3 => ?_) (fun c3 => ?_)
        · have hc3 := c3
          have q3 := q_ne hc3
          refine lv_aload_n hx hb dX10_goes_40 rfl (lv_at hl 4 rfl) ?_
          refine lv_dup hx hb dX10_goes_41 rfl ?_
          refine m_geti (1000) 55 hx hb hts hown hE oc10 hM hJ.1 rfl (by decide) rfl tb_1232 dX10_goes_42 ?_
          refine lv_iconst (v := (1)) hx hb dX10_goes_45 (by decide) ?_
          refine lv_iadd hx hb dX10_goes_46 ?_
          refine lv_topi (fun v4 ev4 => ?_)
          have tv4 := a_add ev4 (by omega) (by omega)
          refine m_puti (1000) 55 hx hb hts hown hE oc10 hM hS hJ.1 rfl (by decide) rfl rfl rfl rfl tb_1232 dX10_goes_47 (fun H locs I5 eI5 hM hS => ?_)
          subst eI5
          have hI := hI.put (n := 1000) (k := 55) (v := v4) (lo := 0) (hi := 2000) rfl (by first | omega | decide)
          have hK := hK.put (n := 1000) (k := 55) (v := v4) (by first | rfl | simp [inR])
          refine lv_aload_n hx hb dX10_goes_50 rfl (lv_at hl 4 rfl) ?_
          refine lv_iload hx hb dX10_goes_51 (lv_at hl 3 rfl) ?_
          refine lv_iload hx hb dX10_goes_53 (lv_at hl 2 rfl) ?_
          have tw6 : twM (u2 Ia13 (1000) 55 (v4)) = twM I := twM_kp hK rfl
          refine m_calli (m_runV (1000) (As := [.int (x5_13), .int (x6_13)]) (rest := []) hx hb hml hown hts hE hM hS hA ce_X10_isCell tb_1437 (V_X10_isCell l D A ad ns (u2 Ia13 (1000) 55 (v4)) La13 G (x5_13) (x6_13) hJ hI) rfl rfl ⟨Nat.le_of_ble_eq_true rfl, Nat.le_of_ble_eq_true rfl⟩ hJ.1 rfl rfl (by decide) rfl hl.1 rfl (Nat.le_of_ble_eq_true rfl) dX10_goes_55 ⟨Nat.le_of_ble_eq_true rfl, Nat.le_of_ble_eq_true rfl⟩) hS (fun r7 u H locs hw hM hS => ?_)
          obtain ⟨rfl, xr7⟩ := hw
          have hM : Mem D A ad ns (u2 Ia13 (1000) 55 (v4)) La13 G H := hM
          have yr7 := bo01 xr7
          have g8 := hI.get 1001 1 (lo := 0) (hi := 24) rfl
          have g9 := hI.get 1001 2 (lo := 0) (hi := 24) rfl
          refine lv_if_eq (tgt := 78) hx hb dX10_goes_58 (by decide) (fun c10 => ?_) (fun c10 => ?_)
          · have hc10 := c10
            have q10 := xr7.f hc10
            refine lv_aload_n hx hb dX10_goes_78 rfl (lv_at hl 4 rfl) ?_
            refine lv_dup hx hb dX10_goes_79 rfl ?_
            refine m_geti (1000) 54 hx hb hts hown hE oc10 hM hJ.1 rfl (by decide) rfl tb_1231 dX10_goes_80 ?_
            have z11 : (u2 Ia13 (1000) 55 (v4)) (1000) 54 = Ia13 (1000) 54 := (show (u2 Ia13 (1000) 55 (v4)) (1000) 54 = Ia13 (1000) 54 from by simp [u2_v])
            rw [z11]
            refine lv_iload hx hb dX10_goes_83 (lv_at hl 0 rfl) ?_
            refine lv_iadd hx hb dX10_goes_85 ?_
            refine lv_topi (fun v12 ev12 => ?_)
            refine m_puti (1000) 54 hx hb hts hown hE oc10 hM hS hJ.1 rfl (by decide) rfl rfl rfl rfl tb_1231 dX10_goes_86 (fun H locs I13 eI13 hM hS => ?_)
            subst eI13
            have hI := hI.putF (n := 1000) (k := 54) (v := v12) rfl
            have hK := hK.put (n := 1000) (k := 54) (v := v12) (by first | rfl | simp [inR])
            exact m_vret hx hb hr hlocks hM hS (Nat.le_of_ble_eq_true rfl) (Nat.le_of_ble_eq_true rfl) ⟨_, _, rfl, hI, hK, ⟨(by have := congrArg Int32.toInt ((show (u2 (u2 Ia13 (1000) 55 (v4)) (1000) 54 (v12)) (1000) 55 = v4 from by simp [u2_v])); have := congrArg Int32.toInt ((show (u2 (u2 Ia13 (1000) 55 (v4)) (1000) 54 (v12)) (1000) 52 = Ia13 (1000) 52 from by simp [u2_v])); omega), (by rw [← tw13]; subst ev12; exact FXM.shut hF13 (by omega) (by omega) (by omega) (by omega) (fun z => q10 ⟨htn3, z.1⟩))⟩⟩ dX10_goes_89
          · have hc10 := c10
            have q10 := xr7.t hc10
            refine lv_aload_n hx hb dX10_goes_61 rfl (lv_at hl 4 rfl) ?_
            refine m_getr (1000) 2 (1002) hx hb hts hown hE oc10 hM hJ.1 rfl (by decide) rfl (hJ.2 2 (by decide)).2 (by decide) tb_1179 dX10_goes_62 ?_
            refine lv_bipush (v := (24)) hx hb dX10_goes_65 (by decide) ?_
            refine lv_iload hx hb dX10_goes_67 (lv_at hl 2 rfl) ?_
            refine lv_imul hx hb dX10_goes_69 ?_
            refine lv_topi (fun v14 ev14 => ?_)
            have tv14 := a_mulL (c := 24) ev14 (by decide) (by omega) (by omega)
            refine lv_iload hx hb dX10_goes_70 (lv_at hl 3 rfl) ?_
            refine lv_iadd hx hb dX10_goes_72 ?_
            refine lv_topi (fun v15 ev15 => ?_)
            have tv15 := a_add ev15 (by omega) (by omega)
            refine m_iald (1002) hx hb hE hM (hJ.2 2 (by decide)).1 rfl (vp_in_iff.mpr (by omega)) dX10_goes_73 ?_
            have z16 : (u2 Ia13 (1000) 55 (v4)) (1002) (v15).toNatClampNeg = Ia13 (1002) ((v15).toNatClampNeg) := (show (u2 Ia13 (1000) 55 (v4)) (1002) ((v15).toNatClampNeg) = Ia13 (1002) ((v15).toNatClampNeg) from by simp [u2_v])
            rw [z16]
            refine lv_iconst (v := (1)) hx hb dX10_goes_74 (by decide) ?_
            refine lv_icmp_ne (tgt := 90) hx hb dX10_goes_75 (by decide) (fun c17 => ?_) (fun c17 => ?_)
            · have hc17 := c17
              have q17 := q_ne hc17
              have hcl0 : (v15).toNatClampNeg = clN x5_13 x6_13 := by have z0 := tn (i := v15) (by omega); have z1 := tn (i := x5_13) (by omega); have z2 := tn (i := x6_13) (by omega); unfold clN; omega
              have hcn : clN x5_13 x6_13 < 576 := by have z1 := tn (i := x5_13) (by omega); have z2 := tn (i := x6_13) (by omega); unfold clN; omega
              have hrk : (Ia13 1002 (clN x5_13 x6_13)).toInt = 0 ∨ (Ia13 1002 (clN x5_13 x6_13)).toInt = 1 := hTR3.2.1 _ hcn
              rw [← hcl0] at hrk
              have hop : opn (twM Ia13) x5_13 x6_13 := ⟨⟨by omega, q10.2.2.1, by omega, q10.2.2.2.2⟩, by show (Ia13 1002 (clN x5_13 x6_13)).toInt = 0; rw [← hcl0]; omega⟩
              refine lv_bipush (v := (24)) hx hb dX10_goes_90 (by decide) ?_
              refine lv_iload hx hb dX10_goes_92 (lv_at hl 2 rfl) ?_
              refine lv_imul hx hb dX10_goes_94 ?_
              refine lv_topi (fun v18 ev18 => ?_)
              have tv18 := a_mulL (c := 24) ev18 (by decide) (by omega) (by omega)
              refine lv_iload hx hb dX10_goes_95 (lv_at hl 3 rfl) ?_
              refine lv_iadd hx hb dX10_goes_97 ?_
              refine lv_topi (fun v19 ev19 => ?_)
              have tv19 := a_add ev19 (by omega) (by omega)
              refine lv_istore (lv' := [(9, .int (v19)), (8, .int (x8_13)), (7, .int (x7_13)), (6, .int (x6_13)), (5, .int (x5_13)), (0, .ref (ad (1000))), (1, .int (a0)), (2, .int (a1)), (3, .int (a2)), (4, .int (a3))]) hx hb dX10_goes_98 hl (by decide) rfl (fun ls hl => ?_)
              refine lv_iload hx hb dX10_goes_100 (lv_at hl 1 rfl) ?_
              refine lv_i2l hx hb dX10_goes_102 rfl ?_
              refine lv_topl (fun v20 ev20 => ?_)
              have tv20 := q_i2l ev20
              refine lv_aload_n hx hb dX10_goes_103 rfl (lv_at hl 5 rfl) ?_
              refine m_getr (1000) 1 (1001) hx hb hts hown hE oc10 hM hJ.1 rfl (by decide) rfl (hJ.2 1 (by decide)).2 (by decide) tb_1178 dX10_goes_104 ?_
              refine lv_iconst (v := (4)) hx hb dX10_goes_107 (by decide) ?_
              refine m_iald (1001) hx hb hE hM (hJ.2 1 (by decide)).1 rfl (vp_in_iff.mpr (by decide)) dX10_goes_108 ?_
              rw [show (4 : Int32).toNatClampNeg = 4 from rfl]
              have z21 : (u2 Ia13 (1000) 55 (v4)) (1001) 4 = Ia13 (1001) 4 := (show (u2 Ia13 (1000) 55 (v4)) (1001) 4 = Ia13 (1001) 4 from by simp [u2_v])
              rw [z21]
              refine lv_i2l hx hb dX10_goes_109 rfl ?_
              refine lv_topl (fun v22 ev22 => ?_)
              have tv22 := q_i2l ev22
              refine lv_lmul hx hb dX10_goes_110 ?_
              refine lv_topl (fun v23 ev23 => ?_)
              refine lv_ldc2 (v := (1000)) hx hb hown (hts _ tb_1428) dX10_goes_111 ?_
              refine lv_ldiv hx hb dX10_goes_114 (by decide) ?_
              refine lv_topl (fun v24 ev24 => ?_)
              refine lv_l2i hx hb dX10_goes_115 rfl ?_
              refine lv_topi (fun v25 ev25 => ?_)
              have shv25 : v25 = shr (x8_13) (Ia13 (1001) 4) := shr_l ev20 ev22 ev23 ev24 ev25 (by omega) hair
              have sbv25 := shr_b (s := x8_13) (t := Ia13 (1001) 4) (by omega) hair
              rw [← shv25] at sbv25
              refine lv_istore (lv' := [(10, .int (v25)), (9, .int (v19)), (8, .int (x8_13)), (7, .int (x7_13)), (6, .int (x6_13)), (5, .int (x5_13)), (0, .ref (ad (1000))), (1, .int (a0)), (2, .int (a1)), (3, .int (a2)), (4, .int (a3))]) hx hb dX10_goes_116 hl (by decide) rfl (fun ls hl => ?_)
              refine lv_aload_n hx hb dX10_goes_118 rfl (lv_at hl 6 rfl) ?_
              refine lv_dup hx hb dX10_goes_119 rfl ?_
              refine m_geti (1000) 53 hx hb hts hown hE oc10 hM hJ.1 rfl (by decide) rfl tb_1230 dX10_goes_120 ?_
              have z26 : (u2 Ia13 (1000) 55 (v4)) (1000) 53 = Ia13 (1000) 53 := (show (u2 Ia13 (1000) 55 (v4)) (1000) 53 = Ia13 (1000) 53 from by simp [u2_v])
              rw [z26]
              refine lv_iload hx hb dX10_goes_123 (lv_at hl 0 rfl) ?_
              refine lv_iadd hx hb dX10_goes_125 ?_
              refine lv_topi (fun v27 ev27 => ?_)
              refine m_puti (1000) 53 hx hb hts hown hE oc10 hM hS hJ.1 rfl (by decide) rfl rfl rfl rfl tb_1230 dX10_goes_126 (fun H locs I28 eI28 hM hS => ?_)
              subst eI28
              have hI := hI.putF (n := 1000) (k := 53) (v := v27) rfl
              have hK := hK.put (n := 1000) (k := 53) (v := v27) (by first | rfl | simp [inR])
              refine lv_iload hx hb dX10_goes_129 (lv_at hl 2 rfl) ?_
              refine lv_iload hx hb dX10_goes_131 (lv_at hl 0 rfl) ?_
              refine lv_isub hx hb dX10_goes_133 ?_
              refine lv_topi (fun v29 ev29 => ?_)
              have tv29 := a_sub ev29 (by omega) (by omega)
              refine lv_istore (lv' := [(8, .int (v29)), (10, .int (v25)), (9, .int (v19)), (7, .int (x7_13)), (6, .int (x6_13)), (5, .int (x5_13)), (0, .ref (ad (1000))), (1, .int (a0)), (2, .int (a1)), (3, .int (a2)), (4, .int (a3))]) hx hb dX10_goes_134 hl (by decide) rfl (fun ls hl => ?_)
              have hcl : (v19).toNatClampNeg = clN x5_13 x6_13 := by have z0 := tn (i := v19) (by omega); have z1 := tn (i := x5_13) (by omega); have z2 := tn (i := x6_13) (by omega); unfold clN; omega
              have hl1 : v29 = airL (twM Ia13) x8_13 := by rw [ev29, shv25]; rfl
              refine lv_aload_n hx hb dX10_goes_136 rfl (lv_at hl 6 rfl) ?_
              refine m_getr (1000) 49 (1049) hx hb hts hown hE oc10 hM hJ.1 rfl (by decide) rfl (hJ.2 49 (by decide)).2 (by decide) tb_1226 dX10_goes_137 ?_
              refine lv_iload hx hb dX10_goes_140 (lv_at hl 2 rfl) ?_
              refine lv_iload hx hb dX10_goes_142 (lv_at hl 0 rfl) ?_
              refine lv_aload_n hx hb dX10_goes_144 rfl (lv_at hl 6 rfl) ?_
              refine m_getr (1000) 49 (1049) hx hb hts hown hE oc10 hM hJ.1 rfl (by decide) rfl (hJ.2 49 (by decide)).2 (by decide) tb_1226 dX10_goes_145 ?_
              refine lv_iload hx hb dX10_goes_148 (lv_at hl 2 rfl) ?_
              refine m_iald (1049) hx hb hE hM (hJ.2 49 (by decide)).1 rfl (vp_in_iff.mpr (by omega)) dX10_goes_150 ?_
              have z30 : (u2 (u2 Ia13 (1000) 55 (v4)) (1000) 53 (v27)) (1049) (v19).toNatClampNeg = Ia13 (1049) ((v19).toNatClampNeg) := (show (u2 (u2 Ia13 (1000) 55 (v4)) (1000) 53 (v27)) (1049) ((v19).toNatClampNeg) = Ia13 (1049) ((v19).toNatClampNeg) from by simp [u2_v])
              rw [z30]
              refine lv_icmp_le (tgt := 159) hx hb dX10_goes_151 (by decide) (fun c31 => ?_) (fun c31 => ?_)
              · have hc31 := c31
                have q31 := q_le hc31
                refine lv_aload_n hx hb dX10_goes_159 rfl (lv_at hl 6 rfl) ?_
                refine m_getr (1000) 49 (1049) hx hb hts hown hE oc10 hM hJ.1 rfl (by decide) rfl (hJ.2 49 (by decide)).2 (by decide) tb_1226 dX10_goes_160 ?_
                refine lv_iload hx hb dX10_goes_163 (lv_at hl 2 rfl) ?_
                refine m_iald (1049) hx hb hE hM (hJ.2 49 (by decide)).1 rfl (vp_in_iff.mpr (by omega)) dX10_goes_165 ?_
                have z32 : (u2 (u2 Ia13 (1000) 55 (v4)) (1000) 53 (v27)) (1049) (v19).toNatClampNeg = Ia13 (1049) ((v19).toNatClampNeg) := (show (u2 (u2 Ia13 (1000) 55 (v4)) (1000) 53 (v27)) (1049) ((v19).toNatClampNeg) = Ia13 (1049) ((v19).toNatClampNeg) from by simp [u2_v])
                rw [z32]
                refine m_iast (1049) hx hb hE hM hS (hJ.2 49 (by decide)).1 rfl (vp_in_iff.mpr (by omega)) dX10_goes_166 (fun H locs I33 eI33 hM hS => ?_)
                subst eI33
                have hI := hI.putF (n := 1049) (k := ((v19).toNatClampNeg)) (v := Ia13 (1049) ((v19).toNatClampNeg)) rfl
                have hK := hK.put (n := 1049) (k := ((v19).toNatClampNeg)) (v := Ia13 (1049) ((v19).toNatClampNeg)) (by first | rfl | simp [inR])
                have hv53 : v27 = Ia13 1000 53 + shr x8_13 (twM Ia13).air := by rw [ev27, shv25]; rfl
                have ha1 : AIM (twM Ia13) (clN x5_13 x6_13) x8_13 Ia13 (u2 (u2 (u2 Ia13 (1000) 55 (v4)) (1000) 53 (v27)) (1049) ((v19).toNatClampNeg) (Ia13 (1049) ((v19).toNatClampNeg))) := by rw [← hcl, hv53]; exact AIM.of v4 (by omega) (by rw [← hl1, if_neg (by omega)])
                refine lv_aload_n hx hb dX10_goes_167 rfl (lv_at hl 6 rfl) ?_
                refine lv_iload hx hb dX10_goes_168 (lv_at hl 5 rfl) ?_
                refine lv_iload hx hb dX10_goes_170 (lv_at hl 4 rfl) ?_
                have tw34 : twM (u2 (u2 (u2 Ia13 (1000) 55 (v4)) (1000) 53 (v27)) (1049) ((v19).toNatClampNeg) (Ia13 (1049) ((v19).toNatClampNeg))) = twM I := twM_kp hK rfl
                refine m_calli (m_runV (1000) (As := [.int (x5_13), .int (x6_13)]) (rest := []) hx hb hml hown hts hE hM hS hA ce_X10_yardOf tb_1652 (V_X10_yardOf_l l D A ad ns (u2 (u2 (u2 Ia13 (1000) 55 (v4)) (1000) 53 (v27)) (1049) ((v19).toNatClampNeg) (Ia13 (1049) ((v19).toNatClampNeg))) La13 G (x5_13) (x6_13) hJ hI (by first | omega | decide) (by first | omega | decide)) rfl rfl ⟨Nat.le_of_ble_eq_true rfl, Nat.le_of_ble_eq_true rfl⟩ hJ.1 rfl rfl (by decide) rfl hl.1 rfl (Nat.le_of_ble_eq_true rfl) dX10_goes_172 ⟨Nat.le_of_ble_eq_true rfl, Nat.le_of_ble_eq_true rfl⟩) hS (fun r35 u H locs hw hM hS => ?_)
                obtain ⟨rfl, xr35⟩ := hw
                have hM : Mem D A ad ns (u2 (u2 (u2 Ia13 (1000) 55 (v4)) (1000) 53 (v27)) (1049) ((v19).toNatClampNeg) (Ia13 (1049) ((v19).toNatClampNeg))) La13 G H := hM
                have hyv : r35 = (twM Ia13).yat (clN x5_13 x6_13) := by rw [tw13, ← tw34]; exact xr35.1
                refine lv_istore (lv' := [(11, .int (r35)), (8, .int (v29)), (10, .int (v25)), (9, .int (v19)), (7, .int (x7_13)), (6, .int (x6_13)), (5, .int (x5_13)), (0, .ref (ad (1000))), (1, .int (a0)), (2, .int (a1)), (3, .int (a2)), (4, .int (a3))]) hx hb dX10_goes_175 hl (by decide) rfl (fun ls hl => ?_)
                refine lv_iload hx hb dX10_goes_177 (lv_at hl 0 rfl) ?_
                refine lv_iconst (v := (-1)) hx hb dX10_goes_179 (by decide) ?_
                refine lv_icmp_eq (tgt := 221) hx hb dX10_goes_180 (by decide) (fun c36 => ?_) (fun c36 => ?_)
                · have hc36 := c36
                  have q36 := q_eq hc36
                  have hyn : ((twM Ia13).yat (clN x5_13 x6_13)).toInt = -1 := by rw [← hyv]; omega
                  have hcL : v29 = cellL (twM Ia13) x5_13 x6_13 x8_13 := cellL_n hyn hl1
                  have hcS : CEm (twM Ia13) x5_13 x6_13 x8_13 Ia13 (u2 (u2 (u2 Ia13 (1000) 55 (v4)) (1000) 53 (v27)) (1049) ((v19).toNatClampNeg) (Ia13 (1049) ((v19).toNatClampNeg))) := CEm.n ha1 hyn
                  refine lv_aload_n hx hb dX10_goes_221 rfl (lv_at hl 7 rfl) ?_
                  refine m_getr (1000) 6 (1006) hx hb hts hown hE oc10 hM hJ.1 rfl (by decide) rfl (hJ.2 6 (by decide)).2 (by decide) tb_1183 dX10_goes_222 ?_
                  refine lv_iload hx hb dX10_goes_225 (lv_at hl 3 rfl) ?_
                  refine m_iald (1006) hx hb hE hM (hJ.2 6 (by decide)).1 rfl (vp_in_iff.mpr (by omega)) dX10_goes_227 ?_
                  have g37 := hI.get (1006) ((v19).toNatClampNeg) (lo := -1) (hi := 23) rfl
                  have z38 : (u2 (u2 (u2 Ia13 (1000) 55 (v4)) (1000) 53 (v27)) (1049) ((v19).toNatClampNeg) (Ia13 (1049) ((v19).toNatClampNeg))) (1006) (v19).toNatClampNeg = Ia13 (1006) ((v19).toNatClampNeg) := (show (u2 (u2 (u2 Ia13 (1000) 55 (v4)) (1000) 53 (v27)) (1049) ((v19).toNatClampNeg) (Ia13 (1049) ((v19).toNatClampNeg))) (1006) ((v19).toNatClampNeg) = Ia13 (1006) ((v19).toNatClampNeg) from by simp [u2_v])
                  rw [z38] at g37 ⊢
                  refine lv_istore (lv' := [(12, .int (Ia13 (1006) ((v19).toNatClampNeg))), (11, .int (r35)), (8, .int (v29)), (10, .int (v25)), (9, .int (v19)), (7, .int (x7_13)), (6, .int (x6_13)), (5, .int (x5_13)), (0, .ref (ad (1000))), (1, .int (a0)), (2, .int (a1)), (3, .int (a2)), (4, .int (a3))]) hx hb dX10_goes_228 hl (by decide) rfl (fun ls hl => ?_)
                  refine lv_iload hx hb dX10_goes_230 (lv_at hl 0 rfl) ?_
                  refine lv_iconst (v := (-1)) hx hb dX10_goes_232 (by decide) ?_
                  refine lv_icmp_eq (tgt := 405) hx hb dX10_goes_233 (by decide) (fun c39 => ?_) (fun c39 => ?_)
                  · have hc39 := c39
                    have q39 := q_eq hc39
                    refine lv_iload hx hb dX10_goes_405 (lv_at hl 7 rfl) ?_
                    refine lv_iload hx hb dX10_goes_407 (lv_at hl 5 rfl) ?_
                    refine m_calli (m_runS (As := [.int (x7_13)]) (rest := [.int (x5_13)]) hx hb hml hown hts hE hM hS hA ce_X10_stepX tb_1660 (V_X10_stepX_l l D A ad ns (u2 (u2 (u2 Ia13 (1000) 55 (v4)) (1000) 53 (v27)) (1049) ((v19).toNatClampNeg) (Ia13 (1049) ((v19).toNatClampNeg))) La13 G (x7_13) hI (by first | omega | decide)) rfl rfl ⟨Nat.le_of_ble_eq_true rfl, Nat.le_of_ble_eq_true rfl⟩  rfl hl.1 rfl (Nat.le_of_ble_eq_true rfl) dX10_goes_409 ⟨Nat.le_of_ble_eq_true rfl, Nat.le_of_ble_eq_true rfl⟩) hS (fun r40 u H locs hw hM hS => ?_)
                    obtain ⟨rfl, xr40⟩ := hw
                    have hM : Mem D A ad ns (u2 (u2 (u2 Ia13 (1000) 55 (v4)) (1000) 53 (v27)) (1049) ((v19).toNatClampNeg) (Ia13 (1049) ((v19).toNatClampNeg))) La13 G H := hM
                    refine lv_iadd hx hb dX10_goes_412 ?_
                    refine lv_topi (fun v41 ev41 => ?_)
                    have tv41 := a_add ev41 (by omega) (by omega)
                    refine lv_istore (lv' := [(5, .int (v41)), (12, .int (Ia13 (1006) ((v19).toNatClampNeg))), (11, .int (r35)), (8, .int (v29)), (10, .int (v25)), (9, .int (v19)), (7, .int (x7_13)), (6, .int (x6_13)), (0, .ref (ad (1000))), (1, .int (a0)), (2, .int (a1)), (3, .int (a2)), (4, .int (a3))]) hx hb dX10_goes_413 hl (by decide) rfl (fun ls hl => ?_)
                    refine lv_iload hx hb dX10_goes_415 (lv_at hl 7 rfl) ?_
                    refine lv_iload hx hb dX10_goes_417 (lv_at hl 6 rfl) ?_
                    refine m_calli (m_runS (As := [.int (x7_13)]) (rest := [.int (x6_13)]) hx hb hml hown hts hE hM hS hA ce_X10_stepY tb_1663 (V_X10_stepY_l l D A ad ns (u2 (u2 (u2 Ia13 (1000) 55 (v4)) (1000) 53 (v27)) (1049) ((v19).toNatClampNeg) (Ia13 (1049) ((v19).toNatClampNeg))) La13 G (x7_13) hI (by first | omega | decide)) rfl rfl ⟨Nat.le_of_ble_eq_true rfl, Nat.le_of_ble_eq_true rfl⟩  rfl hl.1 rfl (Nat.le_of_ble_eq_true rfl) dX10_goes_419 ⟨Nat.le_of_ble_eq_true rfl, Nat.le_of_ble_eq_true rfl⟩) hS (fun r42 u H locs hw hM hS => ?_)
                    obtain ⟨rfl, xr42⟩ := hw
                    have hM : Mem D A ad ns (u2 (u2 (u2 Ia13 (1000) 55 (v4)) (1000) 53 (v27)) (1049) ((v19).toNatClampNeg) (Ia13 (1049) ((v19).toNatClampNeg))) La13 G H := hM
                    refine lv_iadd hx hb dX10_goes_422 ?_
                    refine lv_topi (fun v43 ev43 => ?_)
                    have tv43 := a_add ev43 (by omega) (by omega)
                    refine lv_istore (lv' := [(6, .int (v43)), (5, .int (v41)), (12, .int (Ia13 (1006) ((v19).toNatClampNeg))), (11, .int (r35)), (8, .int (v29)), (10, .int (v25)), (9, .int (v19)), (7, .int (x7_13)), (0, .ref (ad (1000))), (1, .int (a0)), (2, .int (a1)), (3, .int (a2)), (4, .int (a3))]) hx hb dX10_goes_423 hl (by decide) rfl (fun ls hl => ?_)
                    refine lv_goto (tgt := 13) hx hb dX10_goes_425 (by decide) ?_
                    have tr100055 : ((u2 (u2 (u2 Ia13 (1000) 55 (v4)) (1000) 53 (v27)) (1049) ((v19).toNatClampNeg) (Ia13 (1049) ((v19).toNatClampNeg))) (1000) 55).toInt = (v4 : Int32).toInt := congrArg Int32.toInt ((show (u2 (u2 (u2 Ia13 (1000) 55 (v4)) (1000) 53 (v27)) (1049) ((v19).toNatClampNeg) (Ia13 (1049) ((v19).toNatClampNeg))) (1000) 55 = v4 from by simp [u2_v]))
                    have tr100052 : ((u2 (u2 (u2 Ia13 (1000) 55 (v4)) (1000) 53 (v27)) (1049) ((v19).toNatClampNeg) (Ia13 (1049) ((v19).toNatClampNeg))) (1000) 52).toInt = (Ia13 (1000) 52 : Int32).toInt := congrArg Int32.toInt ((show (u2 (u2 (u2 Ia13 (1000) 55 (v4)) (1000) 53 (v27)) (1049) ((v19).toNatClampNeg) (Ia13 (1049) ((v19).toNatClampNeg))) (1000) 52 = Ia13 (1000) 52 from by simp [u2_v]))
                    have h55n : ((u2 (u2 (u2 Ia13 (1000) 55 (v4)) (1000) 53 (v27)) (1049) ((v19).toNatClampNeg) (Ia13 (1049) ((v19).toNatClampNeg))) (1000) 55).toInt = (v4 : Int32).toInt := congrArg Int32.toInt ((show (u2 (u2 (u2 Ia13 (1000) 55 (v4)) (1000) 53 (v27)) (1049) ((v19).toNatClampNeg) (Ia13 (1049) ((v19).toNatClampNeg))) (1000) 55 = v4 from by simp [u2_v]))
                    have hmv : Ia13 (1006) ((v19).toNatClampNeg) = (twM Ia13).mat (clN x5_13 x6_13) := by rw [← hcl]; rfl
                    have hnm : ¬ isM (twM Ia13) (clN x5_13 x6_13) := fun z => z.1 (by rw [← hmv]; omega)
                    exact ih13 (v29) (x7_13) (v43) (v41) (u2 (u2 (u2 Ia13 (1000) 55 (v4)) (1000) 53 (v27)) (1049) ((v19).toNatClampNeg) (Ia13 (1049) ((v19).toNatClampNeg))) La13 _ _ ls hI hK (by first | omega | decide) (by first | omega | decide) (by omega) (by rw [← tw13]; exact FXM.step hF13 (by omega) (by omega) (by omega) (by omega) hop (STM.n hcS hnm) (by unfold stpW; rw [if_neg hnm]) (by unfold stpL; rw [if_neg hnm]; exact hcL) (by rw [ev41, xr40.1]) (by rw [ev43, xr42.1])) (by omega) hM hS (lv_sub hl [4, 7, 0, 1, 8, 9, 10, 11, 12] rfl)
                  · have hc39 := c39
                    have q39 := q_ne hc39
                    refine lv_aload_n hx hb dX10_goes_236 rfl (lv_at hl 8 rfl) ?_
                    refine m_getr (1000) 15 (1015) hx hb hts hown hE oc10 hM hJ.1 rfl (by decide) rfl (hJ.2 15 (by decide)).2 (by decide) tb_1192 dX10_goes_237 ?_
                    refine lv_iload hx hb dX10_goes_240 (lv_at hl 0 rfl) ?_
                    refine m_iald (1015) hx hb hE hM (hJ.2 15 (by decide)).1 rfl (vp_in_iff.mpr (by omega)) dX10_goes_242 ?_
                    have z44 : (u2 (u2 (u2 Ia13 (1000) 55 (v4)) (1000) 53 (v27)) (1049) ((v19).toNatClampNeg) (Ia13 (1049) ((v19).toNatClampNeg))) (1015) (Ia13 (1006) ((v19).toNatClampNeg)).toNatClampNeg = Ia13 (1015) ((Ia13 (1006) ((v19).toNatClampNeg)).toNatClampNeg) := (show (u2 (u2 (u2 Ia13 (1000) 55 (v4)) (1000) 53 (v27)) (1049) ((v19).toNatClampNeg) (Ia13 (1049) ((v19).toNatClampNeg))) (1015) ((Ia13 (1006) ((v19).toNatClampNeg)).toNatClampNeg) = Ia13 (1015) ((Ia13 (1006) ((v19).toNatClampNeg)).toNatClampNeg) from by simp [u2_v])
                    rw [z44]
                    refine lv_if_ne (tgt := 405) hx hb dX10_goes_243 (by decide) (fun c45 => ?_) (fun c45 => ?_)
                    · have hc45 := c45
                      have q45 := q_ne hc45
                      refine lv_iload hx hb dX10_goes_405 (lv_at hl 7 rfl) ?_
                      refine lv_iload hx hb dX10_goes_407 (lv_at hl 5 rfl) ?_
                      refine m_calli (m_runS (As := [.int (x7_13)]) (rest := [.int (x5_13)]) hx hb hml hown hts hE hM hS hA ce_X10_stepX tb_1660 (V_X10_stepX_l l D A ad ns (u2 (u2 (u2 Ia13 (1000) 55 (v4)) (1000) 53 (v27)) (1049) ((v19).toNatClampNeg) (Ia13 (1049) ((v19).toNatClampNeg))) La13 G (x7_13) hI (by first | omega | decide)) rfl rfl ⟨Nat.le_of_ble_eq_true rfl, Nat.le_of_ble_eq_true rfl⟩  rfl hl.1 rfl (Nat.le_of_ble_eq_true rfl) dX10_goes_409 ⟨Nat.le_of_ble_eq_true rfl, Nat.le_of_ble_eq_true rfl⟩) hS (fun r46 u H locs hw hM hS => ?_)
                      obtain ⟨rfl, xr46⟩ := hw
                      have hM : Mem D A ad ns (u2 (u2 (u2 Ia13 (1000) 55 (v4)) (1000) 53 (v27)) (1049) ((v19).toNatClampNeg) (Ia13 (1049) ((v19).toNatClampNeg))) La13 G H := hM
                      refine lv_iadd hx hb dX10_goes_412 ?_
                      refine lv_topi (fun v47 ev47 => ?_)
                      have tv47 := a_add ev47 (by omega) (by omega)
                      refine lv_istore (lv' := [(5, .int (v47)), (12, .int (Ia13 (1006) ((v19).toNatClampNeg))), (11, .int (r35)), (8, .int (v29)), (10, .int (v25)), (9, .int (v19)), (7, .int (x7_13)), (6, .int (x6_13)), (0, .ref (ad (1000))), (1, .int (a0)), (2, .int (a1)), (3, .int (a2)), (4, .int (a3))]) hx hb dX10_goes_413 hl (by decide) rfl (fun ls hl => ?_)
                      refine lv_iload hx hb dX10_goes_415 (lv_at hl 7 rfl) ?_
                      refine lv_iload hx hb dX10_goes_417 (lv_at hl 6 rfl) ?_
                      refine m_calli (m_runS (As := [.int (x7_13)]) (rest := [.int (x6_13)]) hx hb hml hown hts hE hM hS hA ce_X10_stepY tb_1663 (V_X10_stepY_l l D A ad ns (u2 (u2 (u2 Ia13 (1000) 55 (v4)) (1000) 53 (v27)) (1049) ((v19).toNatClampNeg) (Ia13 (1049) ((v19).toNatClampNeg))) La13 G (x7_13) hI (by first | omega | decide)) rfl rfl ⟨Nat.le_of_ble_eq_true rfl, Nat.le_of_ble_eq_true rfl⟩  rfl hl.1 rfl (Nat.le_of_ble_eq_true rfl) dX10_goes_419 ⟨Nat.le_of_ble_eq_true rfl, Nat.le_of_ble_eq_true rfl⟩) hS (fun r48 u H locs hw hM hS => ?_)
                      obtain ⟨rfl, xr48⟩ := hw
                      have hM : Mem D A ad ns (u2 (u2 (u2 Ia13 (1000) 55 (v4)) (1000) 53 (v27)) (1049) ((v19).toNatClampNeg) (Ia13 (1049) ((v19).toNatClampNeg))) La13 G H := hM
                      refine lv_iadd hx hb dX10_goes_422 ?_
                      refine lv_topi (fun v49 ev49 => ?_)
                      have tv49 := a_add ev49 (by omega) (by omega)
                      refine lv_istore (lv' := [(6, .int (v49)), (5, .int (v47)), (12, .int (Ia13 (1006) ((v19).toNatClampNeg))), (11, .int (r35)), (8, .int (v29)), (10, .int (v25)), (9, .int (v19)), (7, .int (x7_13)), (0, .ref (ad (1000))), (1, .int (a0)), (2, .int (a1)), (3, .int (a2)), (4, .int (a3))]) hx hb dX10_goes_423 hl (by decide) rfl (fun ls hl => ?_)
                      refine lv_goto (tgt := 13) hx hb dX10_goes_425 (by decide) ?_
                      have tr100055 : ((u2 (u2 (u2 Ia13 (1000) 55 (v4)) (1000) 53 (v27)) (1049) ((v19).toNatClampNeg) (Ia13 (1049) ((v19).toNatClampNeg))) (1000) 55).toInt = (v4 : Int32).toInt := congrArg Int32.toInt ((show (u2 (u2 (u2 Ia13 (1000) 55 (v4)) (1000) 53 (v27)) (1049) ((v19).toNatClampNeg) (Ia13 (1049) ((v19).toNatClampNeg))) (1000) 55 = v4 from by simp [u2_v]))
                      have tr100052 : ((u2 (u2 (u2 Ia13 (1000) 55 (v4)) (1000) 53 (v27)) (1049) ((v19).toNatClampNeg) (Ia13 (1049) ((v19).toNatClampNeg))) (1000) 52).toInt = (Ia13 (1000) 52 : Int32).toInt := congrArg Int32.toInt ((show (u2 (u2 (u2 Ia13 (1000) 55 (v4)) (1000) 53 (v27)) (1049) ((v19).toNatClampNeg) (Ia13 (1049) ((v19).toNatClampNeg))) (1000) 52 = Ia13 (1000) 52 from by simp [u2_v]))
                      have h55n : ((u2 (u2 (u2 Ia13 (1000) 55 (v4)) (1000) 53 (v27)) (1049) ((v19).toNatClampNeg) (Ia13 (1049) ((v19).toNatClampNeg))) (1000) 55).toInt = (v4 : Int32).toInt := congrArg Int32.toInt ((show (u2 (u2 (u2 Ia13 (1000) 55 (v4)) (1000) 53 (v27)) (1049) ((v19).toNatClampNeg) (Ia13 (1049) ((v19).toNatClampNeg))) (1000) 55 = v4 from by simp [u2_v]))
                      have hmv : Ia13 (1006) ((v19).toNatClampNeg) = (twM Ia13).mat (clN x5_13 x6_13) := by rw [← hcl]; rfl
                      have hnm : ¬ isM (twM Ia13) (clN x5_13 x6_13) := fun z => by have z2 := z.2; rw [← hmv] at z2; exact q45 z2
                      exact ih13 (v29) (x7_13) (v49) (v47) (u2 (u2 (u2 Ia13 (1000) 55 (v4)) (1000) 53 (v27)) (1049) ((v19).toNatClampNeg) (Ia13 (1049) ((v19).toNatClampNeg))) La13 _ _ ls hI hK (by first | omega | decide) (by first | omega | decide) (by omega) (by rw [← tw13]; exact FXM.step hF13 (by omega) (by omega) (by omega) (by omega) hop (STM.n hcS hnm) (by unfold stpW; rw [if_neg hnm]) (by unfold stpL; rw [if_neg hnm]; exact hcL) (by rw [ev47, xr46.1]) (by rw [ev49, xr48.1])) (by omega) hM hS (lv_sub hl [4, 7, 0, 1, 8, 9, 10, 11, 12] rfl)
                    · have hc45 := c45
                      have q45 := q_eq hc45
                      have hm24 : (Ia13 (1006) ((v19).toNatClampNeg)).toNatClampNeg < 24 := by have z := tn (i := Ia13 (1006) ((v19).toNatClampNeg)) (by omega); omega
                      obtain ⟨hr1, hr2, hth, hr4⟩ := hTR3.2.2.2 _ hm24
                      have hr1 : 0 ≤ (Ia13 1010 (Ia13 (1006) ((v19).toNatClampNeg)).toNatClampNeg).toInt ∧ (Ia13 1010 (Ia13 (1006) ((v19).toNatClampNeg)).toNatClampNeg).toInt ≤ 1000 := hr1
                      have hr2 : 0 ≤ (Ia13 1014 (Ia13 (1006) ((v19).toNatClampNeg)).toNatClampNeg).toInt ∧ (Ia13 1014 (Ia13 (1006) ((v19).toNatClampNeg)).toNatClampNeg).toInt ≤ 1000 := hr2
                      have hth : 0 ≤ (Ia13 1011 (Ia13 (1006) ((v19).toNatClampNeg)).toNatClampNeg).toInt ∧ (Ia13 1011 (Ia13 (1006) ((v19).toNatClampNeg)).toNatClampNeg).toInt ≤ 1000 := hth
                      have hr4 : 0 ≤ (Ia13 1009 (Ia13 (1006) ((v19).toNatClampNeg)).toNatClampNeg).toInt ∧ (Ia13 1009 (Ia13 (1006) ((v19).toNatClampNeg)).toNatClampNeg).toInt ≤ 7 := hr4
                      have hmv : Ia13 (1006) ((v19).toNatClampNeg) = (twM Ia13).mat (clN x5_13 x6_13) := by rw [← hcl]; rfl
                      have hym : isM (twM Ia13) (clN x5_13 x6_13) := ⟨by rw [← hmv]; omega, by rw [← hmv]; exact q45⟩
                      refine lv_aload_n hx hb dX10_goes_246 rfl (lv_at hl 8 rfl) ?_
                      refine lv_iload hx hb dX10_goes_247 (lv_at hl 0 rfl) ?_
                      refine lv_iload hx hb dX10_goes_249 (lv_at hl 2 rfl) ?_
                      refine m_calli (m_runV (1000) (As := [.int (Ia13 (1006) ((v19).toNatClampNeg)), .int (v29)]) (rest := []) hx hb hml hown hts hE hM hS hA ce_X10_told tb_1656 (V_X10_told_l l D A ad ns (u2 (u2 (u2 Ia13 (1000) 55 (v4)) (1000) 53 (v27)) (1049) ((v19).toNatClampNeg) (Ia13 (1049) ((v19).toNatClampNeg))) La13 G (Ia13 (1006) ((v19).toNatClampNeg)) (v29) hJ hI (by rw [hK.get 1000 59 rfl]; exact hsk) (by first | omega | decide)) rfl rfl ⟨Nat.le_of_ble_eq_true rfl, Nat.le_of_ble_eq_true rfl⟩ hJ.1 rfl rfl (by decide) rfl hl.1 rfl (Nat.le_of_ble_eq_true rfl) dX10_goes_251 ⟨Nat.le_of_ble_eq_true rfl, Nat.le_of_ble_eq_true rfl⟩) hS (fun r50 u H locs hw hM hS => ?_)
                      obtain ⟨rfl, xr50⟩ := hw
                      have hM : Mem D A ad ns (u2 (u2 (u2 Ia13 (1000) 55 (v4)) (1000) 53 (v27)) (1049) ((v19).toNatClampNeg) (Ia13 (1049) ((v19).toNatClampNeg))) La13 G H := hM
                      have hrr50 := congrArg Int32.toInt xr50
                      refine lv_istore (lv' := [(8, .int (r50)), (12, .int (Ia13 (1006) ((v19).toNatClampNeg))), (11, .int (r35)), (10, .int (v25)), (9, .int (v19)), (7, .int (x7_13)), (6, .int (x6_13)), (5, .int (x5_13)), (0, .ref (ad (1000))), (1, .int (a0)), (2, .int (a1)), (3, .int (a2)), (4, .int (a3))]) hx hb dX10_goes_254 hl (by decide) rfl (fun ls hl => ?_)
                      refine lv_aload_n hx hb dX10_goes_256 rfl (lv_at hl 8 rfl) ?_
                      refine m_getr (1000) 10 (1010) hx hb hts hown hE oc10 hM hJ.1 rfl (by decide) rfl (hJ.2 10 (by decide)).2 (by decide) tb_1187 dX10_goes_257 ?_
                      refine lv_iload hx hb dX10_goes_260 (lv_at hl 1 rfl) ?_
                      refine m_iald (1010) hx hb hE hM (hJ.2 10 (by decide)).1 rfl (vp_in_iff.mpr (by omega)) dX10_goes_262 ?_
                      have z51 : (u2 (u2 (u2 Ia13 (1000) 55 (v4)) (1000) 53 (v27)) (1049) ((v19).toNatClampNeg) (Ia13 (1049) ((v19).toNatClampNeg))) (1010) (Ia13 (1006) ((v19).toNatClampNeg)).toNatClampNeg = Ia13 (1010) ((Ia13 (1006) ((v19).toNatClampNeg)).toNatClampNeg) := (show (u2 (u2 (u2 Ia13 (1000) 55 (v4)) (1000) 53 (v27)) (1049) ((v19).toNatClampNeg) (Ia13 (1049) ((v19).toNatClampNeg))) (1010) ((Ia13 (1006) ((v19).toNatClampNeg)).toNatClampNeg) = Ia13 (1010) ((Ia13 (1006) ((v19).toNatClampNeg)).toNatClampNeg) from by simp [u2_v])
                      rw [z51]
                      refine lv_aload_n hx hb dX10_goes_263 rfl (lv_at hl 8 rfl) ?_
                      refine m_getr (1000) 14 (1014) hx hb hts hown hE oc10 hM hJ.1 rfl (by decide) rfl (hJ.2 14 (by decide)).2 (by decide) tb_1191 dX10_goes_264 ?_
                      refine lv_iload hx hb dX10_goes_267 (lv_at hl 1 rfl) ?_
                      refine m_iald (1014) hx hb hE hM (hJ.2 14 (by decide)).1 rfl (vp_in_iff.mpr (by omega)) dX10_goes_269 ?_
                      have z52 : (u2 (u2 (u2 Ia13 (1000) 55 (v4)) (1000) 53 (v27)) (1049) ((v19).toNatClampNeg) (Ia13 (1049) ((v19).toNatClampNeg))) (1014) (Ia13 (1006) ((v19).toNatClampNeg)).toNatClampNeg = Ia13 (1014) ((Ia13 (1006) ((v19).toNatClampNeg)).toNatClampNeg) := (show (u2 (u2 (u2 Ia13 (1000) 55 (v4)) (1000) 53 (v27)) (1049) ((v19).toNatClampNeg) (Ia13 (1049) ((v19).toNatClampNeg))) (1014) ((Ia13 (1006) ((v19).toNatClampNeg)).toNatClampNeg) = Ia13 (1014) ((Ia13 (1006) ((v19).toNatClampNeg)).toNatClampNeg) from by simp [u2_v])
                      rw [z52]
                      refine lv_iadd hx hb dX10_goes_270 ?_
                      refine lv_topi (fun v53 ev53 => ?_)
                      have tv53 := a_add ev53 (by omega) (by omega)
                      refine lv_sipush (v := (1000)) hx hb dX10_goes_271 (by decide) ?_
                      refine lv_icmp_le (tgt := 283) hx hb dX10_goes_274 (by decide) (fun c54 => ?_) (fun c54 => ?_)
                      · have hc54 := c54
                        have q54 := q_le hc54
                        refine lv_aload_n hx hb dX10_goes_283 rfl (lv_at hl 8 rfl) ?_
                        refine m_getr (1000) 10 (1010) hx hb hts hown hE oc10 hM hJ.1 rfl (by decide) rfl (hJ.2 10 (by decide)).2 (by decide) tb_1187 dX10_goes_284 ?_
                        refine lv_iload hx hb dX10_goes_287 (lv_at hl 1 rfl) ?_
                        refine m_iald (1010) hx hb hE hM (hJ.2 10 (by decide)).1 rfl (vp_in_iff.mpr (by omega)) dX10_goes_289 ?_
                        have z55 : (u2 (u2 (u2 Ia13 (1000) 55 (v4)) (1000) 53 (v27)) (1049) ((v19).toNatClampNeg) (Ia13 (1049) ((v19).toNatClampNeg))) (1010) (Ia13 (1006) ((v19).toNatClampNeg)).toNatClampNeg = Ia13 (1010) ((Ia13 (1006) ((v19).toNatClampNeg)).toNatClampNeg) := (show (u2 (u2 (u2 Ia13 (1000) 55 (v4)) (1000) 53 (v27)) (1049) ((v19).toNatClampNeg) (Ia13 (1049) ((v19).toNatClampNeg))) (1010) ((Ia13 (1006) ((v19).toNatClampNeg)).toNatClampNeg) = Ia13 (1010) ((Ia13 (1006) ((v19).toNatClampNeg)).toNatClampNeg) from by simp [u2_v])
                        rw [z55]
                        refine lv_aload_n hx hb dX10_goes_290 rfl (lv_at hl 8 rfl) ?_
                        refine m_getr (1000) 14 (1014) hx hb hts hown hE oc10 hM hJ.1 rfl (by decide) rfl (hJ.2 14 (by decide)).2 (by decide) tb_1191 dX10_goes_291 ?_
                        refine lv_iload hx hb dX10_goes_294 (lv_at hl 1 rfl) ?_
                        refine m_iald (1014) hx hb hE hM (hJ.2 14 (by decide)).1 rfl (vp_in_iff.mpr (by omega)) dX10_goes_296 ?_
                        have z56 : (u2 (u2 (u2 Ia13 (1000) 55 (v4)) (1000) 53 (v27)) (1049) ((v19).toNatClampNeg) (Ia13 (1049) ((v19).toNatClampNeg))) (1014) (Ia13 (1006) ((v19).toNatClampNeg)).toNatClampNeg = Ia13 (1014) ((Ia13 (1006) ((v19).toNatClampNeg)).toNatClampNeg) := (show (u2 (u2 (u2 Ia13 (1000) 55 (v4)) (1000) 53 (v27)) (1049) ((v19).toNatClampNeg) (Ia13 (1049) ((v19).toNatClampNeg))) (1014) ((Ia13 (1006) ((v19).toNatClampNeg)).toNatClampNeg) = Ia13 (1014) ((Ia13 (1006) ((v19).toNatClampNeg)).toNatClampNeg) from by simp [u2_v])
                        rw [z56]
                        refine lv_iadd hx hb dX10_goes_297 ?_
                        refine lv_topi (fun v57 ev57 => ?_)
                        have tv57 := a_add ev57 (by omega) (by omega)
                        refine lv_istore (lv' := [(13, .int (v57)), (8, .int (r50)), (12, .int (Ia13 (1006) ((v19).toNatClampNeg))), (11, .int (r35)), (10, .int (v25)), (9, .int (v19)), (7, .int (x7_13)), (6, .int (x6_13)), (5, .int (x5_13)), (0, .ref (ad (1000))), (1, .int (a0)), (2, .int (a1)), (3, .int (a2)), (4, .int (a3))]) hx hb dX10_goes_298 hl (by decide) rfl (fun ls hl => ?_)
                        have hdu : v57 = lsT (twM Ia13) (Ia13 (1006) ((v19).toNatClampNeg)).toNatClampNeg := lsT_le ev57 (by omega)
                        have hdl : 0 ≤ (v57 : Int32).toInt ∧ (v57 : Int32).toInt ≤ 1000 := by rw [hdu]; exact lsT_r hr1 hr2
                        have htl : r50 = cellL (twM Ia13) x5_13 x6_13 x8_13 := xr50.trans hcL
                        refine lv_iload hx hb dX10_goes_300 (lv_at hl 1 rfl) ?_
                        refine lv_i2l hx hb dX10_goes_302 rfl ?_
                        refine lv_topl (fun v58 ev58 => ?_)
                        have tv58 := q_i2l ev58
                        refine lv_iload hx hb dX10_goes_303 (lv_at hl 0 rfl) ?_
                        refine lv_i2l hx hb dX10_goes_305 rfl ?_
                        refine lv_topl (fun v59 ev59 => ?_)
                        have tv59 := q_i2l ev59
                        refine lv_lmul hx hb dX10_goes_306 ?_
                        refine lv_topl (fun v60 ev60 => ?_)
                        refine lv_ldc2 (v := (1000)) hx hb hown (hts _ tb_1428) dX10_goes_307 ?_
                        refine lv_ldiv hx hb dX10_goes_310 (by decide) ?_
                        refine lv_topl (fun v61 ev61 => ?_)
                        refine lv_l2i hx hb dX10_goes_311 rfl ?_
                        refine lv_topi (fun v62 ev62 => ?_)
                        have shv62 : v62 = shr (r50) (v57) := shr_l ev58 ev59 ev60 ev61 ev62 (by omega) hdl
                        have sbv62 := shr_b (s := r50) (t := v57) (by omega) hdl
                        rw [← shv62] at sbv62
                        refine lv_istore (lv' := [(10, .int (v62)), (13, .int (v57)), (8, .int (r50)), (12, .int (Ia13 (1006) ((v19).toNatClampNeg))), (11, .int (r35)), (9, .int (v19)), (7, .int (x7_13)), (6, .int (x6_13)), (5, .int (x5_13)), (0, .ref (ad (1000))), (1, .int (a0)), (2, .int (a1)), (3, .int (a2)), (4, .int (a3))]) hx hb dX10_goes_312 hl (by decide) rfl (fun ls hl => ?_)
                        refine lv_aload_n hx hb dX10_goes_314 rfl (lv_at hl 9 rfl) ?_
                        refine lv_dup hx hb dX10_goes_315 rfl ?_
                        refine m_geti (1000) 53 hx hb hts hown hE oc10 hM hJ.1 rfl (by decide) rfl tb_1230 dX10_goes_316 ?_
                        have z63 : (u2 (u2 (u2 Ia13 (1000) 55 (v4)) (1000) 53 (v27)) (1049) ((v19).toNatClampNeg) (Ia13 (1049) ((v19).toNatClampNeg))) (1000) 53 = v27 := (show (u2 (u2 (u2 Ia13 (1000) 55 (v4)) (1000) 53 (v27)) (1049) ((v19).toNatClampNeg) (Ia13 (1049) ((v19).toNatClampNeg))) (1000) 53 = v27 from by simp [u2_v])
                        rw [z63]
                        refine lv_iload hx hb dX10_goes_319 (lv_at hl 0 rfl) ?_
                        refine lv_iadd hx hb dX10_goes_321 ?_
                        refine lv_topi (fun v64 ev64 => ?_)
                        refine m_puti (1000) 53 hx hb hts hown hE oc10 hM hS hJ.1 rfl (by decide) rfl rfl rfl rfl tb_1230 dX10_goes_322 (fun H locs I65 eI65 hM hS => ?_)
                        subst eI65
                        have hI := hI.putF (n := 1000) (k := 53) (v := v64) rfl
                        have hK := hK.put (n := 1000) (k := 53) (v := v64) (by first | rfl | simp [inR])
                        refine lv_iload hx hb dX10_goes_325 (lv_at hl 2 rfl) ?_
                        refine lv_iload hx hb dX10_goes_327 (lv_at hl 0 rfl) ?_
                        refine lv_isub hx hb dX10_goes_329 ?_
                        refine lv_topi (fun v66 ev66 => ?_)
                        have tv66 := a_sub ev66 (by omega) (by omega)
                        refine lv_istore (lv' := [(8, .int (v66)), (10, .int (v62)), (13, .int (v57)), (12, .int (Ia13 (1006) ((v19).toNatClampNeg))), (11, .int (r35)), (9, .int (v19)), (7, .int (x7_13)), (6, .int (x6_13)), (5, .int (x5_13)), (0, .ref (ad (1000))), (1, .int (a0)), (2, .int (a1)), (3, .int (a2)), (4, .int (a3))]) hx hb dX10_goes_330 hl (by decide) rfl (fun ls hl => ?_)
                        refine lv_iload hx hb dX10_goes_332 (lv_at hl 0 rfl) ?_
                        refine lv_i2l hx hb dX10_goes_334 rfl ?_
                        refine lv_topl (fun v67 ev67 => ?_)
                        have tv67 := q_i2l ev67
                        refine lv_aload_n hx hb dX10_goes_335 rfl (lv_at hl 9 rfl) ?_
                        refine m_getr (1000) 11 (1011) hx hb hts hown hE oc10 hM hJ.1 rfl (by decide) rfl (hJ.2 11 (by decide)).2 (by decide) tb_1188 dX10_goes_336 ?_
                        refine lv_iload hx hb dX10_goes_339 (lv_at hl 3 rfl) ?_
                        refine m_iald (1011) hx hb hE hM (hJ.2 11 (by decide)).1 rfl (vp_in_iff.mpr (by omega)) dX10_goes_341 ?_
                        have z68 : (u2 (u2 (u2 (u2 Ia13 (1000) 55 (v4)) (1000) 53 (v27)) (1049) ((v19).toNatClampNeg) (Ia13 (1049) ((v19).toNatClampNeg))) (1000) 53 (v64)) (1011) (Ia13 (1006) ((v19).toNatClampNeg)).toNatClampNeg = Ia13 (1011) ((Ia13 (1006) ((v19).toNatClampNeg)).toNatClampNeg) := (show (u2 (u2 (u2 (u2 Ia13 (1000) 55 (v4)) (1000) 53 (v27)) (1049) ((v19).toNatClampNeg) (Ia13 (1049) ((v19).toNatClampNeg))) (1000) 53 (v64)) (1011) ((Ia13 (1006) ((v19).toNatClampNeg)).toNatClampNeg) = Ia13 (1011) ((Ia13 (1006) ((v19).toNatClampNeg)).toNatClampNeg) from by simp [u2_v])
                        rw [z68]
                        refine lv_i2l hx hb dX10_goes_342 rfl ?_
                        refine lv_topl (fun v69 ev69 => ?_)
                        have tv69 := q_i2l ev69
                        refine lv_lmul hx hb dX10_goes_343 ?_
                        refine lv_topl (fun v70 ev70 => ?_)
                        refine lv_ldc2 (v := (1000)) hx hb hown (hts _ tb_1428) dX10_goes_344 ?_
                        refine lv_ldiv hx hb dX10_goes_347 (by decide) ?_
                        refine lv_topl (fun v71 ev71 => ?_)
                        refine lv_l2i hx hb dX10_goes_348 rfl ?_
                        refine lv_topi (fun v72 ev72 => ?_)
                        have shv72 : v72 = shr (v66) (Ia13 (1011) ((Ia13 (1006) ((v19).toNatClampNeg)).toNatClampNeg)) := shr_l ev67 ev69 ev70 ev71 ev72 (by omega) hth
                        have sbv72 := shr_b (s := v66) (t := Ia13 (1011) ((Ia13 (1006) ((v19).toNatClampNeg)).toNatClampNeg)) (by omega) hth
                        rw [← shv72] at sbv72
                        refine lv_istore (lv' := [(14, .int (v72)), (8, .int (v66)), (10, .int (v62)), (13, .int (v57)), (12, .int (Ia13 (1006) ((v19).toNatClampNeg))), (11, .int (r35)), (9, .int (v19)), (7, .int (x7_13)), (6, .int (x6_13)), (5, .int (x5_13)), (0, .ref (ad (1000))), (1, .int (a0)), (2, .int (a1)), (3, .int (a2)), (4, .int (a3))]) hx hb dX10_goes_349 hl (by decide) rfl (fun ls hl => ?_)
                        refine lv_iload hx hb dX10_goes_351 (lv_at hl 1 rfl) ?_
                        refine lv_iload hx hb dX10_goes_353 (lv_at hl 0 rfl) ?_
                        refine lv_isub hx hb dX10_goes_355 ?_
                        refine lv_topi (fun v73 ev73 => ?_)
                        have tv73 := a_sub ev73 (by omega) (by omega)
                        refine lv_istore (lv' := [(8, .int (v73)), (14, .int (v72)), (10, .int (v62)), (13, .int (v57)), (12, .int (Ia13 (1006) ((v19).toNatClampNeg))), (11, .int (r35)), (9, .int (v19)), (7, .int (x7_13)), (6, .int (x6_13)), (5, .int (x5_13)), (0, .ref (ad (1000))), (1, .int (a0)), (2, .int (a1)), (3, .int (a2)), (4, .int (a3))]) hx hb dX10_goes_356 hl (by decide) rfl (fun ls hl => ?_)
                        have hG : v62 = mirG (twM Ia13) (Ia13 (1006) ((v19).toNatClampNeg)) (r50) := by rw [shv62, hdu]; rfl
                        have hon : v72 = mirT (twM Ia13) (Ia13 (1006) ((v19).toNatClampNeg)) (r50) := by rw [shv72, ev66, hG]; rfl
                        have hL3 : v73 = mirL (twM Ia13) (Ia13 (1006) ((v19).toNatClampNeg)) (r50) := by rw [ev73, hon, ev66, hG]; rfl
                        refine lv_iload hx hb dX10_goes_358 (lv_at hl 1 rfl) ?_
                        refine lv_if_le (tgt := 387) hx hb dX10_goes_360 (by decide) (fun c74 => ?_) (fun c74 => ?_)
                        · have hc74 := c74
                          have q74 := q_le hc74
                          refine lv_aload_n hx hb dX10_goes_387 rfl (lv_at hl 10 rfl) ?_
                          refine m_getr (1000) 9 (1009) hx hb hts hown hE oc10 hM hJ.1 rfl (by decide) rfl (hJ.2 9 (by decide)).2 (by decide) tb_1186 dX10_goes_388 ?_
                          refine lv_iload hx hb dX10_goes_391 (lv_at hl 4 rfl) ?_
                          refine m_iald (1009) hx hb hE hM (hJ.2 9 (by decide)).1 rfl (vp_in_iff.mpr (by omega)) dX10_goes_393 ?_
                          have z75 : (u2 (u2 (u2 (u2 Ia13 (1000) 55 (v4)) (1000) 53 (v27)) (1049) ((v19).toNatClampNeg) (Ia13 (1049) ((v19).toNatClampNeg))) (1000) 53 (v64)) (1009) (Ia13 (1006) ((v19).toNatClampNeg)).toNatClampNeg = Ia13 (1009) ((Ia13 (1006) ((v19).toNatClampNeg)).toNatClampNeg) := (show (u2 (u2 (u2 (u2 Ia13 (1000) 55 (v4)) (1000) 53 (v27)) (1049) ((v19).toNatClampNeg) (Ia13 (1049) ((v19).toNatClampNeg))) (1000) 53 (v64)) (1009) ((Ia13 (1006) ((v19).toNatClampNeg)).toNatClampNeg) = Ia13 (1009) ((Ia13 (1006) ((v19).toNatClampNeg)).toNatClampNeg) from by simp [u2_v])
                          rw [z75]
                          refine lv_iload hx hb dX10_goes_394 (lv_at hl 7 rfl) ?_
                          refine lv_isub hx hb dX10_goes_396 ?_
                          refine lv_topi (fun v76 ev76 => ?_)
                          have tv76 := a_sub ev76 (by omega) (by omega)
                          refine lv_bipush (v := (8)) hx hb dX10_goes_397 (by decide) ?_
                          refine lv_iadd hx hb dX10_goes_399 ?_
                          refine lv_topi (fun v77 ev77 => ?_)
                          have tv77 := a_add ev77 (by omega) (by omega)
                          refine lv_bipush (v := (8)) hx hb dX10_goes_400 (by decide) ?_
                          refine lv_irem hx hb dX10_goes_402 (by decide) ?_
                          refine lv_topi (fun v78 ev78 => ?_)
                          have tv78 := a_rem (c := 8) ev78 (by decide) (by decide) (by omega)
                          refine lv_istore (lv' := [(7, .int (v78)), (8, .int (v73)), (14, .int (v72)), (10, .int (v62)), (13, .int (v57)), (12, .int (Ia13 (1006) ((v19).toNatClampNeg))), (11, .int (r35)), (9, .int (v19)), (6, .int (x6_13)), (5, .int (x5_13)), (0, .ref (ad (1000))), (1, .int (a0)), (2, .int (a1)), (3, .int (a2)), (4, .int (a3))]) hx hb dX10_goes_403 hl (by decide) rfl (fun ls hl => ?_)
                          refine lv_iload hx hb dX10_goes_405 (lv_at hl 9 rfl) ?_
                          refine lv_iload hx hb dX10_goes_407 (lv_at hl 0 rfl) ?_
                          have tw79 : twM (u2 (u2 (u2 (u2 Ia13 (1000) 55 (v4)) (1000) 53 (v27)) (1049) ((v19).toNatClampNeg) (Ia13 (1049) ((v19).toNatClampNeg))) (1000) 53 (v64)) = twM I := twM_kp hK rfl
                          refine m_calli (m_runS (As := [.int (v78)]) (rest := [.int (x5_13)]) hx hb hml hown hts hE hM hS hA ce_X10_stepX tb_1660 (V_X10_stepX_l l D A ad ns (u2 (u2 (u2 (u2 Ia13 (1000) 55 (v4)) (1000) 53 (v27)) (1049) ((v19).toNatClampNeg) (Ia13 (1049) ((v19).toNatClampNeg))) (1000) 53 (v64)) La13 G (v78) hI (by first | omega | decide)) rfl rfl ⟨Nat.le_of_ble_eq_true rfl, Nat.le_of_ble_eq_true rfl⟩  rfl hl.1 rfl (Nat.le_of_ble_eq_true rfl) dX10_goes_409 ⟨Nat.le_of_ble_eq_true rfl, Nat.le_of_ble_eq_true rfl⟩) hS (fun r80 u H locs hw hM hS => ?_)
                          obtain ⟨rfl, xr80⟩ := hw
                          have hM : Mem D A ad ns (u2 (u2 (u2 (u2 Ia13 (1000) 55 (v4)) (1000) 53 (v27)) (1049) ((v19).toNatClampNeg) (Ia13 (1049) ((v19).toNatClampNeg))) (1000) 53 (v64)) La13 G H := hM
                          refine lv_iadd hx hb dX10_goes_412 ?_
                          refine lv_topi (fun v81 ev81 => ?_)
                          have tv81 := a_add ev81 (by omega) (by omega)
                          refine lv_istore (lv' := [(5, .int (v81)), (7, .int (v78)), (8, .int (v73)), (14, .int (v72)), (10, .int (v62)), (13, .int (v57)), (12, .int (Ia13 (1006) ((v19).toNatClampNeg))), (11, .int (r35)), (9, .int (v19)), (6, .int (x6_13)), (0, .ref (ad (1000))), (1, .int (a0)), (2, .int (a1)), (3, .int (a2)), (4, .int (a3))]) hx hb dX10_goes_413 hl (by decide) rfl (fun ls hl => ?_)
                          refine lv_iload hx hb dX10_goes_415 (lv_at hl 9 rfl) ?_
                          refine lv_iload hx hb dX10_goes_417 (lv_at hl 1 rfl) ?_
                          refine m_calli (m_runS (As := [.int (v78)]) (rest := [.int (x6_13)]) hx hb hml hown hts hE hM hS hA ce_X10_stepY tb_1663 (V_X10_stepY_l l D A ad ns (u2 (u2 (u2 (u2 Ia13 (1000) 55 (v4)) (1000) 53 (v27)) (1049) ((v19).toNatClampNeg) (Ia13 (1049) ((v19).toNatClampNeg))) (1000) 53 (v64)) La13 G (v78) hI (by first | omega | decide)) rfl rfl ⟨Nat.le_of_ble_eq_true rfl, Nat.le_of_ble_eq_true rfl⟩  rfl hl.1 rfl (Nat.le_of_ble_eq_true rfl) dX10_goes_419 ⟨Nat.le_of_ble_eq_true rfl, Nat.le_of_ble_eq_true rfl⟩) hS (fun r82 u H locs hw hM hS => ?_)
                          obtain ⟨rfl, xr82⟩ := hw
                          have hM : Mem D A ad ns (u2 (u2 (u2 (u2 Ia13 (1000) 55 (v4)) (1000) 53 (v27)) (1049) ((v19).toNatClampNeg) (Ia13 (1049) ((v19).toNatClampNeg))) (1000) 53 (v64)) La13 G H := hM
                          refine lv_iadd hx hb dX10_goes_422 ?_
                          refine lv_topi (fun v83 ev83 => ?_)
                          have tv83 := a_add ev83 (by omega) (by omega)
                          refine lv_istore (lv' := [(6, .int (v83)), (5, .int (v81)), (7, .int (v78)), (8, .int (v73)), (14, .int (v72)), (10, .int (v62)), (13, .int (v57)), (12, .int (Ia13 (1006) ((v19).toNatClampNeg))), (11, .int (r35)), (9, .int (v19)), (0, .ref (ad (1000))), (1, .int (a0)), (2, .int (a1)), (3, .int (a2)), (4, .int (a3))]) hx hb dX10_goes_423 hl (by decide) rfl (fun ls hl => ?_)
                          refine lv_goto (tgt := 13) hx hb dX10_goes_425 (by decide) ?_
                          have tr100055 : ((u2 (u2 (u2 (u2 Ia13 (1000) 55 (v4)) (1000) 53 (v27)) (1049) ((v19).toNatClampNeg) (Ia13 (1049) ((v19).toNatClampNeg))) (1000) 53 (v64)) (1000) 55).toInt = (v4 : Int32).toInt := congrArg Int32.toInt ((show (u2 (u2 (u2 (u2 Ia13 (1000) 55 (v4)) (1000) 53 (v27)) (1049) ((v19).toNatClampNeg) (Ia13 (1049) ((v19).toNatClampNeg))) (1000) 53 (v64)) (1000) 55 = v4 from by simp [u2_v]))
                          have tr100052 : ((u2 (u2 (u2 (u2 Ia13 (1000) 55 (v4)) (1000) 53 (v27)) (1049) ((v19).toNatClampNeg) (Ia13 (1049) ((v19).toNatClampNeg))) (1000) 53 (v64)) (1000) 52).toInt = (Ia13 (1000) 52 : Int32).toInt := congrArg Int32.toInt ((show (u2 (u2 (u2 (u2 Ia13 (1000) 55 (v4)) (1000) 53 (v27)) (1049) ((v19).toNatClampNeg) (Ia13 (1049) ((v19).toNatClampNeg))) (1000) 53 (v64)) (1000) 52 = Ia13 (1000) 52 from by simp [u2_v]))
                          have h55n : ((u2 (u2 (u2 (u2 Ia13 (1000) 55 (v4)) (1000) 53 (v27)) (1049) ((v19).toNatClampNeg) (Ia13 (1049) ((v19).toNatClampNeg))) (1000) 53 (v64)) (1000) 55).toInt = (v4 : Int32).toInt := congrArg Int32.toInt ((show (u2 (u2 (u2 (u2 Ia13 (1000) 55 (v4)) (1000) 53 (v27)) (1049) ((v19).toNatClampNeg) (Ia13 (1049) ((v19).toNatClampNeg))) (1000) 53 (v64)) (1000) 55 = v4 from by simp [u2_v]))
                          have h53 : v64 = (u2 (u2 (u2 Ia13 (1000) 55 (v4)) (1000) 53 (v27)) (1049) ((v19).toNatClampNeg) (Ia13 (1049) ((v19).toNatClampNeg))) 1000 53 + mirG (twM Ia13) (Ia13 (1006) ((v19).toNatClampNeg)) (r50) := by rw [← hG, ev64]; simp [u2_v]
                          have hMI : MIM (twM Ia13) (Ia13 (1006) ((v19).toNatClampNeg)) x5_13 x6_13 x7_13 (r50) (u2 (u2 (u2 Ia13 (1000) 55 (v4)) (1000) 53 (v27)) (1049) ((v19).toNatClampNeg) (Ia13 (1049) ((v19).toNatClampNeg))) (u2 (u2 (u2 (u2 Ia13 (1000) 55 (v4)) (1000) 53 (v27)) (1049) ((v19).toNatClampNeg) (Ia13 (1049) ((v19).toNatClampNeg))) (1000) 53 (v64)) := by rw [h53]; exact MIM.n (by rw [← hon]; omega)
                          exact ih13 (v73) (v78) (v83) (v81) (u2 (u2 (u2 (u2 Ia13 (1000) 55 (v4)) (1000) 53 (v27)) (1049) ((v19).toNatClampNeg) (Ia13 (1049) ((v19).toNatClampNeg))) (1000) 53 (v64)) La13 _ _ ls hI hK (by first | omega | decide) (by first | omega | decide) (by omega) (by rw [← tw13]; exact FXM.step hF13 (by omega) (by omega) (by omega) (by omega) hop (STM.y hcS hym hmv htl hMI) (by unfold stpW; rw [if_pos hym, ← hmv]; exact and7 (a := Ia13 1009 (Ia13 (1006) ((v19).toNatClampNeg)).toNatClampNeg) hr4 (by omega) (by omega)) (by unfold stpL; rw [if_pos hym, ← hmv, ← htl]; exact hL3) (by rw [ev81, xr80.1]) (by rw [ev83, xr82.1])) (by omega) hM hS (lv_sub hl [3, 2, 0, 1, 10, 11, 12, 13, 14] rfl)
                        · have hc74 := c74
                          have q74 := q_nle hc74
                          refine lv_aload_n hx hb dX10_goes_363 rfl (lv_at hl 10 rfl) ?_
                          refine lv_iload hx hb dX10_goes_364 (lv_at hl 9 rfl) ?_
                          refine lv_iload hx hb dX10_goes_366 (lv_at hl 7 rfl) ?_
                          have tw84 : twM (u2 (u2 (u2 (u2 Ia13 (1000) 55 (v4)) (1000) 53 (v27)) (1049) ((v19).toNatClampNeg) (Ia13 (1049) ((v19).toNatClampNeg))) (1000) 53 (v64)) = twM I := twM_kp hK rfl
                          refine m_calli (m_runS (As := [.int (x7_13)]) (rest := [.int (x5_13), .ref (ad (1000))]) hx hb hml hown hts hE hM hS hA ce_X10_stepX tb_1660 (V_X10_stepX_l l D A ad ns (u2 (u2 (u2 (u2 Ia13 (1000) 55 (v4)) (1000) 53 (v27)) (1049) ((v19).toNatClampNeg) (Ia13 (1049) ((v19).toNatClampNeg))) (1000) 53 (v64)) La13 G (x7_13) hI (by first | omega | decide)) rfl rfl ⟨Nat.le_of_ble_eq_true rfl, Nat.le_of_ble_eq_true rfl⟩  rfl hl.1 rfl (Nat.le_of_ble_eq_true rfl) dX10_goes_368 ⟨Nat.le_of_ble_eq_true rfl, Nat.le_of_ble_eq_true rfl⟩) hS (fun r85 u H locs hw hM hS => ?_)
                          obtain ⟨rfl, xr85⟩ := hw
                          have hM : Mem D A ad ns (u2 (u2 (u2 (u2 Ia13 (1000) 55 (v4)) (1000) 53 (v27)) (1049) ((v19).toNatClampNeg) (Ia13 (1049) ((v19).toNatClampNeg))) (1000) 53 (v64)) La13 G H := hM
                          refine lv_iadd hx hb dX10_goes_371 ?_
                          refine lv_topi (fun v86 ev86 => ?_)
                          have tv86 := a_add ev86 (by omega) (by omega)
                          refine lv_iload hx hb dX10_goes_372 (lv_at hl 8 rfl) ?_
                          refine lv_iload hx hb dX10_goes_374 (lv_at hl 7 rfl) ?_
                          refine m_calli (m_runS (As := [.int (x7_13)]) (rest := [.int (x6_13), .int (v86), .ref (ad (1000))]) hx hb hml hown hts hE hM hS hA ce_X10_stepY tb_1663 (V_X10_stepY_l l D A ad ns (u2 (u2 (u2 (u2 Ia13 (1000) 55 (v4)) (1000) 53 (v27)) (1049) ((v19).toNatClampNeg) (Ia13 (1049) ((v19).toNatClampNeg))) (1000) 53 (v64)) La13 G (x7_13) hI (by first | omega | decide)) rfl rfl ⟨Nat.le_of_ble_eq_true rfl, Nat.le_of_ble_eq_true rfl⟩  rfl hl.1 rfl (Nat.le_of_ble_eq_true rfl) dX10_goes_376 ⟨Nat.le_of_ble_eq_true rfl, Nat.le_of_ble_eq_true rfl⟩) hS (fun r87 u H locs hw hM hS => ?_)
                          obtain ⟨rfl, xr87⟩ := hw
                          have hM : Mem D A ad ns (u2 (u2 (u2 (u2 Ia13 (1000) 55 (v4)) (1000) 53 (v27)) (1049) ((v19).toNatClampNeg) (Ia13 (1049) ((v19).toNatClampNeg))) (1000) 53 (v64)) La13 G H := hM
                          refine lv_iadd hx hb dX10_goes_379 ?_
                          refine lv_topi (fun v88 ev88 => ?_)
                          have tv88 := a_add ev88 (by omega) (by omega)
                          refine lv_iload hx hb dX10_goes_380 (lv_at hl 7 rfl) ?_
                          refine lv_iload hx hb dX10_goes_382 (lv_at hl 1 rfl) ?_
                          refine m_callv (m_runV (1000) (As := [.int (v86), .int (v88), .int (x7_13), .int (v72)]) (rest := []) hx hb hml hown hts hE hM hS hA ce_X10_waitsFor tb_1666 (V_X10_waitsFor_l l D A ad ns (u2 (u2 (u2 (u2 Ia13 (1000) 55 (v4)) (1000) 53 (v27)) (1049) ((v19).toNatClampNeg) (Ia13 (1049) ((v19).toNatClampNeg))) (1000) 53 (v64)) La13 G (v86) (v88) (x7_13) (v72) hJ hI (by first | omega | decide) (by first | omega | decide)) rfl rfl ⟨Nat.le_of_ble_eq_true rfl, Nat.le_of_ble_eq_true rfl⟩ hJ.1 rfl rfl (by decide) rfl hl.1 rfl (Nat.le_of_ble_eq_true rfl) dX10_goes_384 ⟨Nat.le_of_ble_eq_true rfl, Nat.le_of_ble_eq_true rfl⟩) hS (fun u H locs hw hM hS => ?_)
                          obtain ⟨I89, L90, rfl, hI, hkI89, xI89⟩ := hw
                          have hM : Mem D A ad ns I89 L90 G H := hM
                          have hK := hK.trans hkI89 rfl
                          have pw91 : ((u2 (u2 (u2 (u2 Ia13 (1000) 55 (v4)) (1000) 53 (v27)) (1049) ((v19).toNatClampNeg) (Ia13 (1049) ((v19).toNatClampNeg))) (1000) 53 (v64)) (1000) 52).toInt = (Ia13 (1000) 52 : Int32).toInt := congrArg Int32.toInt ((show (u2 (u2 (u2 (u2 Ia13 (1000) 55 (v4)) (1000) 53 (v27)) (1049) ((v19).toNatClampNeg) (Ia13 (1049) ((v19).toNatClampNeg))) (1000) 53 (v64)) (1000) 52 = Ia13 (1000) 52 from by simp [u2_v]))
                          refine lv_aload_n hx hb dX10_goes_387 rfl (lv_at hl 10 rfl) ?_
                          refine m_getr (1000) 9 (1009) hx hb hts hown hE oc10 hM hJ.1 rfl (by decide) rfl (hJ.2 9 (by decide)).2 (by decide) tb_1186 dX10_goes_388 ?_
                          refine lv_iload hx hb dX10_goes_391 (lv_at hl 4 rfl) ?_
                          refine m_iald (1009) hx hb hE hM (hJ.2 9 (by decide)).1 rfl (vp_in_iff.mpr (by omega)) dX10_goes_393 ?_
                          have z92 : I89 (1009) (Ia13 (1006) ((v19).toNatClampNeg)).toNatClampNeg = Ia13 (1009) ((Ia13 (1006) ((v19).toNatClampNeg)).toNatClampNeg) := ((congrFun (hkI89.getA (1009) rfl) ((Ia13 (1006) ((v19).toNatClampNeg)).toNatClampNeg))).trans (show (u2 (u2 (u2 (u2 Ia13 (1000) 55 (v4)) (1000) 53 (v27)) (1049) ((v19).toNatClampNeg) (Ia13 (1049) ((v19).toNatClampNeg))) (1000) 53 (v64)) (1009) ((Ia13 (1006) ((v19).toNatClampNeg)).toNatClampNeg) = Ia13 (1009) ((Ia13 (1006) ((v19).toNatClampNeg)).toNatClampNeg) from by simp [u2_v])
                          rw [z92]
                          refine lv_iload hx hb dX10_goes_394 (lv_at hl 7 rfl) ?_
                          refine lv_isub hx hb dX10_goes_396 ?_
                          refine lv_topi (fun v93 ev93 => ?_)
                          have tv93 := a_sub ev93 (by omega) (by omega)
                          refine lv_bipush (v := (8)) hx hb dX10_goes_397 (by decide) ?_
                          refine lv_iadd hx hb dX10_goes_399 ?_
                          refine lv_topi (fun v94 ev94 => ?_)
                          have tv94 := a_add ev94 (by omega) (by omega)
                          refine lv_bipush (v := (8)) hx hb dX10_goes_400 (by decide) ?_
                          refine lv_irem hx hb dX10_goes_402 (by decide) ?_
                          refine lv_topi (fun v95 ev95 => ?_)
                          have tv95 := a_rem (c := 8) ev95 (by decide) (by decide) (by omega)
                          refine lv_istore (lv' := [(7, .int (v95)), (8, .int (v73)), (14, .int (v72)), (10, .int (v62)), (13, .int (v57)), (12, .int (Ia13 (1006) ((v19).toNatClampNeg))), (11, .int (r35)), (9, .int (v19)), (6, .int (x6_13)), (5, .int (x5_13)), (0, .ref (ad (1000))), (1, .int (a0)), (2, .int (a1)), (3, .int (a2)), (4, .int (a3))]) hx hb dX10_goes_403 hl (by decide) rfl (fun ls hl => ?_)
                          refine lv_iload hx hb dX10_goes_405 (lv_at hl 9 rfl) ?_
                          refine lv_iload hx hb dX10_goes_407 (lv_at hl 0 rfl) ?_
                          have tw96 : twM I89 = twM I := twM_kp hK rfl
                          refine m_calli (m_runS (As := [.int (v95)]) (rest := [.int (x5_13)]) hx hb hml hown hts hE hM hS hA ce_X10_stepX tb_1660 (V_X10_stepX_l l D A ad ns I89 L90 G (v95) hI (by first | omega | decide)) rfl rfl ⟨Nat.le_of_ble_eq_true rfl, Nat.le_of_ble_eq_true rfl⟩  rfl hl.1 rfl (Nat.le_of_ble_eq_true rfl) dX10_goes_409 ⟨Nat.le_of_ble_eq_true rfl, Nat.le_of_ble_eq_true rfl⟩) hS (fun r97 u H locs hw hM hS => ?_)
                          obtain ⟨rfl, xr97⟩ := hw
                          have hM : Mem D A ad ns I89 L90 G H := hM
                          refine lv_iadd hx hb dX10_goes_412 ?_
                          refine lv_topi (fun v98 ev98 => ?_)
                          have tv98 := a_add ev98 (by omega) (by omega)
                          refine lv_istore (lv' := [(5, .int (v98)), (7, .int (v95)), (8, .int (v73)), (14, .int (v72)), (10, .int (v62)), (13, .int (v57)), (12, .int (Ia13 (1006) ((v19).toNatClampNeg))), (11, .int (r35)), (9, .int (v19)), (6, .int (x6_13)), (0, .ref (ad (1000))), (1, .int (a0)), (2, .int (a1)), (3, .int (a2)), (4, .int (a3))]) hx hb dX10_goes_413 hl (by decide) rfl (fun ls hl => ?_)
                          refine lv_iload hx hb dX10_goes_415 (lv_at hl 9 rfl) ?_
                          refine lv_iload hx hb dX10_goes_417 (lv_at hl 1 rfl) ?_
                          refine m_calli (m_runS (As := [.int (v95)]) (rest := [.int (x6_13)]) hx hb hml hown hts hE hM hS hA ce_X10_stepY tb_1663 (V_X10_stepY_l l D A ad ns I89 L90 G (v95) hI (by first | omega | decide)) rfl rfl ⟨Nat.le_of_ble_eq_true rfl, Nat.le_of_ble_eq_true rfl⟩  rfl hl.1 rfl (Nat.le_of_ble_eq_true rfl) dX10_goes_419 ⟨Nat.le_of_ble_eq_true rfl, Nat.le_of_ble_eq_true rfl⟩) hS (fun r99 u H locs hw hM hS => ?_)
                          obtain ⟨rfl, xr99⟩ := hw
                          have hM : Mem D A ad ns I89 L90 G H := hM
                          refine lv_iadd hx hb dX10_goes_422 ?_
                          refine lv_topi (fun v100 ev100 => ?_)
                          have tv100 := a_add ev100 (by omega) (by omega)
                          refine lv_istore (lv' := [(6, .int (v100)), (5, .int (v98)), (7, .int (v95)), (8, .int (v73)), (14, .int (v72)), (10, .int (v62)), (13, .int (v57)), (12, .int (Ia13 (1006) ((v19).toNatClampNeg))), (11, .int (r35)), (9, .int (v19)), (0, .ref (ad (1000))), (1, .int (a0)), (2, .int (a1)), (3, .int (a2)), (4, .int (a3))]) hx hb dX10_goes_423 hl (by decide) rfl (fun ls hl => ?_)
                          refine lv_goto (tgt := 13) hx hb dX10_goes_425 (by decide) ?_
                          have tr100055 : (I89 (1000) 55).toInt = (v4 : Int32).toInt := congrArg Int32.toInt (((hkI89.get (1000) 55 rfl)).trans (show (u2 (u2 (u2 (u2 Ia13 (1000) 55 (v4)) (1000) 53 (v27)) (1049) ((v19).toNatClampNeg) (Ia13 (1049) ((v19).toNatClampNeg))) (1000) 53 (v64)) (1000) 55 = v4 from by simp [u2_v]))
                          have h55n : (I89 (1000) 55).toInt = (v4 : Int32).toInt := congrArg Int32.toInt (((hkI89.get (1000) 55 rfl)).trans (show (u2 (u2 (u2 (u2 Ia13 (1000) 55 (v4)) (1000) 53 (v27)) (1049) ((v19).toNatClampNeg) (Ia13 (1049) ((v19).toNatClampNeg))) (1000) 53 (v64)) (1000) 55 = v4 from by simp [u2_v]))
                          have h53 : v64 = (u2 (u2 (u2 Ia13 (1000) 55 (v4)) (1000) 53 (v27)) (1049) ((v19).toNatClampNeg) (Ia13 (1049) ((v19).toNatClampNeg))) 1000 53 + mirG (twM Ia13) (Ia13 (1006) ((v19).toNatClampNeg)) (r50) := by rw [← hG, ev64]; simp [u2_v]
                          have hMI : MIM (twM Ia13) (Ia13 (1006) ((v19).toNatClampNeg)) x5_13 x6_13 x7_13 (r50) (u2 (u2 (u2 Ia13 (1000) 55 (v4)) (1000) 53 (v27)) (1049) ((v19).toNatClampNeg) (Ia13 (1049) ((v19).toNatClampNeg))) I89 := by
                            refine MIM.y (by rw [← hon]; omega) ?_
                            rw [← h53, ← hon, show x5_13 + sX x7_13 = v86 from by rw [ev86, xr85.1], show x6_13 + sY x7_13 = v88 from by rw [ev88, xr87.1]]
                            exact xI89.2
                          exact ih13 (v73) (v95) (v100) (v98) I89 L90 _ _ ls hI hK (by first | omega | decide) (by first | omega | decide) (by omega) (by rw [← tw13]; exact FXM.step hF13 (by omega) (by omega) (by omega) (by omega) hop (STM.y hcS hym hmv htl hMI) (by unfold stpW; rw [if_pos hym, ← hmv]; exact and7 (a := Ia13 1009 (Ia13 (1006) ((v19).toNatClampNeg)).toNatClampNeg) hr4 (by omega) (by omega)) (by unfold stpL; rw [if_pos hym, ← hmv, ← htl]; exact hL3) (by rw [ev98, xr97.1]) (by rw [ev100, xr99.1])) (by omega) hM hS (lv_sub hl [3, 2, 0, 1, 10, 11, 12, 13, 14] rfl)
                      · have hc54 := c54
                        have q54 := q_nle hc54
                        refine lv_sipush (v := (1000)) hx hb dX10_goes_277 (by decide) ?_
                        refine lv_goto (tgt := 298) hx hb dX10_goes_280 (by decide) ?_
                        refine lv_istore (lv' := [(13, .int (1000)), (8, .int (r50)), (12, .int (Ia13 (1006) ((v19).toNatClampNeg))), (11, .int (r35)), (10, .int (v25)), (9, .int (v19)), (7, .int (x7_13)), (6, .int (x6_13)), (5, .int (x5_13)), (0, .ref (ad (1000))), (1, .int (a0)), (2, .int (a1)), (3, .int (a2)), (4, .int (a3))]) hx hb dX10_goes_298 hl (by decide) rfl (fun ls hl => ?_)
                        have hdu : (1000 : Int32) = lsT (twM Ia13) (Ia13 (1006) ((v19).toNatClampNeg)).toNatClampNeg := lsT_gt ev53 (by omega)
                        have hdl : 0 ≤ (1000 : Int32).toInt ∧ (1000 : Int32).toInt ≤ 1000 := by rw [hdu]; exact lsT_r hr1 hr2
                        have htl : r50 = cellL (twM Ia13) x5_13 x6_13 x8_13 := xr50.trans hcL
                        refine lv_iload hx hb dX10_goes_300 (lv_at hl 1 rfl) ?_
                        refine lv_i2l hx hb dX10_goes_302 rfl ?_
                        refine lv_topl (fun v101 ev101 => ?_)
                        have tv101 := q_i2l ev101
                        refine lv_iload hx hb dX10_goes_303 (lv_at hl 0 rfl) ?_
                        refine lv_i2l hx hb dX10_goes_305 rfl ?_
                        refine lv_topl (fun v102 ev102 => ?_)
                        have tv102 := q_i2l ev102
                        refine lv_lmul hx hb dX10_goes_306 ?_
                        refine lv_topl (fun v103 ev103 => ?_)
                        refine lv_ldc2 (v := (1000)) hx hb hown (hts _ tb_1428) dX10_goes_307 ?_
                        refine lv_ldiv hx hb dX10_goes_310 (by decide) ?_
                        refine lv_topl (fun v104 ev104 => ?_)
                        refine lv_l2i hx hb dX10_goes_311 rfl ?_
                        refine lv_topi (fun v105 ev105 => ?_)
                        have shv105 : v105 = shr (r50) (1000) := shr_l ev101 ev102 ev103 ev104 ev105 (by omega) hdl
                        have sbv105 := shr_b (s := r50) (t := 1000) (by omega) hdl
                        rw [← shv105] at sbv105
                        refine lv_istore (lv' := [(10, .int (v105)), (13, .int (1000)), (8, .int (r50)), (12, .int (Ia13 (1006) ((v19).toNatClampNeg))), (11, .int (r35)), (9, .int (v19)), (7, .int (x7_13)), (6, .int (x6_13)), (5, .int (x5_13)), (0, .ref (ad (1000))), (1, .int (a0)), (2, .int (a1)), (3, .int (a2)), (4, .int (a3))]) hx hb dX10_goes_312 hl (by decide) rfl (fun ls hl => ?_)
                        refine lv_aload_n hx hb dX10_goes_314 rfl (lv_at hl 9 rfl) ?_
                        refine lv_dup hx hb dX10_goes_315 rfl ?_
                        refine m_geti (1000) 53 hx hb hts hown hE oc10 hM hJ.1 rfl (by decide) rfl tb_1230 dX10_goes_316 ?_
                        have z106 : (u2 (u2 (u2 Ia13 (1000) 55 (v4)) (1000) 53 (v27)) (1049) ((v19).toNatClampNeg) (Ia13 (1049) ((v19).toNatClampNeg))) (1000) 53 = v27 := (show (u2 (u2 (u2 Ia13 (1000) 55 (v4)) (1000) 53 (v27)) (1049) ((v19).toNatClampNeg) (Ia13 (1049) ((v19).toNatClampNeg))) (1000) 53 = v27 from by simp [u2_v])
                        rw [z106]
                        refine lv_iload hx hb dX10_goes_319 (lv_at hl 0 rfl) ?_
                        refine lv_iadd hx hb dX10_goes_321 ?_
                        refine lv_topi (fun v107 ev107 => ?_)
                        refine m_puti (1000) 53 hx hb hts hown hE oc10 hM hS hJ.1 rfl (by decide) rfl rfl rfl rfl tb_1230 dX10_goes_322 (fun H locs I108 eI108 hM hS => ?_)
                        subst eI108
                        have hI := hI.putF (n := 1000) (k := 53) (v := v107) rfl
                        have hK := hK.put (n := 1000) (k := 53) (v := v107) (by first | rfl | simp [inR])
                        refine lv_iload hx hb dX10_goes_325 (lv_at hl 2 rfl) ?_
                        refine lv_iload hx hb dX10_goes_327 (lv_at hl 0 rfl) ?_
                        refine lv_isub hx hb dX10_goes_329 ?_
                        refine lv_topi (fun v109 ev109 => ?_)
                        have tv109 := a_sub ev109 (by omega) (by omega)
                        refine lv_istore (lv' := [(8, .int (v109)), (10, .int (v105)), (13, .int (1000)), (12, .int (Ia13 (1006) ((v19).toNatClampNeg))), (11, .int (r35)), (9, .int (v19)), (7, .int (x7_13)), (6, .int (x6_13)), (5, .int (x5_13)), (0, .ref (ad (1000))), (1, .int (a0)), (2, .int (a1)), (3, .int (a2)), (4, .int (a3))]) hx hb dX10_goes_330 hl (by decide) rfl (fun ls hl => ?_)
                        refine lv_iload hx hb dX10_goes_332 (lv_at hl 0 rfl) ?_
                        refine lv_i2l hx hb dX10_goes_334 rfl ?_
                        refine lv_topl (fun v110 ev110 => ?_)
                        have tv110 := q_i2l ev110
                        refine lv_aload_n hx hb dX10_goes_335 rfl (lv_at hl 9 rfl) ?_
                        refine m_getr (1000) 11 (1011) hx hb hts hown hE oc10 hM hJ.1 rfl (by decide) rfl (hJ.2 11 (by decide)).2 (by decide) tb_1188 dX10_goes_336 ?_
                        refine lv_iload hx hb dX10_goes_339 (lv_at hl 3 rfl) ?_
                        refine m_iald (1011) hx hb hE hM (hJ.2 11 (by decide)).1 rfl (vp_in_iff.mpr (by omega)) dX10_goes_341 ?_
                        have z111 : (u2 (u2 (u2 (u2 Ia13 (1000) 55 (v4)) (1000) 53 (v27)) (1049) ((v19).toNatClampNeg) (Ia13 (1049) ((v19).toNatClampNeg))) (1000) 53 (v107)) (1011) (Ia13 (1006) ((v19).toNatClampNeg)).toNatClampNeg = Ia13 (1011) ((Ia13 (1006) ((v19).toNatClampNeg)).toNatClampNeg) := (show (u2 (u2 (u2 (u2 Ia13 (1000) 55 (v4)) (1000) 53 (v27)) (1049) ((v19).toNatClampNeg) (Ia13 (1049) ((v19).toNatClampNeg))) (1000) 53 (v107)) (1011) ((Ia13 (1006) ((v19).toNatClampNeg)).toNatClampNeg) = Ia13 (1011) ((Ia13 (1006) ((v19).toNatClampNeg)).toNatClampNeg) from by simp [u2_v])
                        rw [z111]
                        refine lv_i2l hx hb dX10_goes_342 rfl ?_
                        refine lv_topl (fun v112 ev112 => ?_)
                        have tv112 := q_i2l ev112
                        refine lv_lmul hx hb dX10_goes_343 ?_
                        refine lv_topl (fun v113 ev113 => ?_)
                        refine lv_ldc2 (v := (1000)) hx hb hown (hts _ tb_1428) dX10_goes_344 ?_
                        refine lv_ldiv hx hb dX10_goes_347 (by decide) ?_
                        refine lv_topl (fun v114 ev114 => ?_)
                        refine lv_l2i hx hb dX10_goes_348 rfl ?_
                        refine lv_topi (fun v115 ev115 => ?_)
                        have shv115 : v115 = shr (v109) (Ia13 (1011) ((Ia13 (1006) ((v19).toNatClampNeg)).toNatClampNeg)) := shr_l ev110 ev112 ev113 ev114 ev115 (by omega) hth
                        have sbv115 := shr_b (s := v109) (t := Ia13 (1011) ((Ia13 (1006) ((v19).toNatClampNeg)).toNatClampNeg)) (by omega) hth
                        rw [← shv115] at sbv115
                        refine lv_istore (lv' := [(14, .int (v115)), (8, .int (v109)), (10, .int (v105)), (13, .int (1000)), (12, .int (Ia13 (1006) ((v19).toNatClampNeg))), (11, .int (r35)), (9, .int (v19)), (7, .int (x7_13)), (6, .int (x6_13)), (5, .int (x5_13)), (0, .ref (ad (1000))), (1, .int (a0)), (2, .int (a1)), (3, .int (a2)), (4, .int (a3))]) hx hb dX10_goes_349 hl (by decide) rfl (fun ls hl => ?_)
                        refine lv_iload hx hb dX10_goes_351 (lv_at hl 1 rfl) ?_
                        refine lv_iload hx hb dX10_goes_353 (lv_at hl 0 rfl) ?_
                        refine lv_isub hx hb dX10_goes_355 ?_
                        refine lv_topi (fun v116 ev116 => ?_)
                        have tv116 := a_sub ev116 (by omega) (by omega)
                        refine lv_istore (lv' := [(8, .int (v116)), (14, .int (v115)), (10, .int (v105)), (13, .int (1000)), (12, .int (Ia13 (1006) ((v19).toNatClampNeg))), (11, .int (r35)), (9, .int (v19)), (7, .int (x7_13)), (6, .int (x6_13)), (5, .int (x5_13)), (0, .ref (ad (1000))), (1, .int (a0)), (2, .int (a1)), (3, .int (a2)), (4, .int (a3))]) hx hb dX10_goes_356 hl (by decide) rfl (fun ls hl => ?_)
                        have hG : v105 = mirG (twM Ia13) (Ia13 (1006) ((v19).toNatClampNeg)) (r50) := by rw [shv105, hdu]; rfl
                        have hon : v115 = mirT (twM Ia13) (Ia13 (1006) ((v19).toNatClampNeg)) (r50) := by rw [shv115, ev109, hG]; rfl
                        have hL3 : v116 = mirL (twM Ia13) (Ia13 (1006) ((v19).toNatClampNeg)) (r50) := by rw [ev116, hon, ev109, hG]; rfl
                        refine lv_iload hx hb dX10_goes_358 (lv_at hl 1 rfl) ?_
                        refine lv_if_le (tgt := 387) hx hb dX10_goes_360 (by decide) (fun c117 => ?_) (fun c117 => ?_)
                        · have hc117 := c117
                          have q117 := q_le hc117
                          refine lv_aload_n hx hb dX10_goes_387 rfl (lv_at hl 10 rfl) ?_
                          refine m_getr (1000) 9 (1009) hx hb hts hown hE oc10 hM hJ.1 rfl (by decide) rfl (hJ.2 9 (by decide)).2 (by decide) tb_1186 dX10_goes_388 ?_
                          refine lv_iload hx hb dX10_goes_391 (lv_at hl 4 rfl) ?_
                          refine m_iald (1009) hx hb hE hM (hJ.2 9 (by decide)).1 rfl (vp_in_iff.mpr (by omega)) dX10_goes_393 ?_
                          have z118 : (u2 (u2 (u2 (u2 Ia13 (1000) 55 (v4)) (1000) 53 (v27)) (1049) ((v19).toNatClampNeg) (Ia13 (1049) ((v19).toNatClampNeg))) (1000) 53 (v107)) (1009) (Ia13 (1006) ((v19).toNatClampNeg)).toNatClampNeg = Ia13 (1009) ((Ia13 (1006) ((v19).toNatClampNeg)).toNatClampNeg) := (show (u2 (u2 (u2 (u2 Ia13 (1000) 55 (v4)) (1000) 53 (v27)) (1049) ((v19).toNatClampNeg) (Ia13 (1049) ((v19).toNatClampNeg))) (1000) 53 (v107)) (1009) ((Ia13 (1006) ((v19).toNatClampNeg)).toNatClampNeg) = Ia13 (1009) ((Ia13 (1006) ((v19).toNatClampNeg)).toNatClampNeg) from by simp [u2_v])
                          rw [z118]
                          refine lv_iload hx hb dX10_goes_394 (lv_at hl 7 rfl) ?_
                          refine lv_isub hx hb dX10_goes_396 ?_
                          refine lv_topi (fun v119 ev119 => ?_)
                          have tv119 := a_sub ev119 (by omega) (by omega)
                          refine lv_bipush (v := (8)) hx hb dX10_goes_397 (by decide) ?_
                          refine lv_iadd hx hb dX10_goes_399 ?_
                          refine lv_topi (fun v120 ev120 => ?_)
                          have tv120 := a_add ev120 (by omega) (by omega)
                          refine lv_bipush (v := (8)) hx hb dX10_goes_400 (by decide) ?_
                          refine lv_irem hx hb dX10_goes_402 (by decide) ?_
                          refine lv_topi (fun v121 ev121 => ?_)
                          have tv121 := a_rem (c := 8) ev121 (by decide) (by decide) (by omega)
                          refine lv_istore (lv' := [(7, .int (v121)), (8, .int (v116)), (14, .int (v115)), (10, .int (v105)), (13, .int (1000)), (12, .int (Ia13 (1006) ((v19).toNatClampNeg))), (11, .int (r35)), (9, .int (v19)), (6, .int (x6_13)), (5, .int (x5_13)), (0, .ref (ad (1000))), (1, .int (a0)), (2, .int (a1)), (3, .int (a2)), (4, .int (a3))]) hx hb dX10_goes_403 hl (by decide) rfl (fun ls hl => ?_)
                          refine lv_iload hx hb dX10_goes_405 (lv_at hl 9 rfl) ?_
                          refine lv_iload hx hb dX10_goes_407 (lv_at hl 0 rfl) ?_
                          have tw122 : twM (u2 (u2 (u2 (u2 Ia13 (1000) 55 (v4)) (1000) 53 (v27)) (1049) ((v19).toNatClampNeg) (Ia13 (1049) ((v19).toNatClampNeg))) (1000) 53 (v107)) = twM I := twM_kp hK rfl
                          refine m_calli (m_runS (As := [.int (v121)]) (rest := [.int (x5_13)]) hx hb hml hown hts hE hM hS hA ce_X10_stepX tb_1660 (V_X10_stepX_l l D A ad ns (u2 (u2 (u2 (u2 Ia13 (1000) 55 (v4)) (1000) 53 (v27)) (1049) ((v19).toNatClampNeg) (Ia13 (1049) ((v19).toNatClampNeg))) (1000) 53 (v107)) La13 G (v121) hI (by first | omega | decide)) rfl rfl ⟨Nat.le_of_ble_eq_true rfl, Nat.le_of_ble_eq_true rfl⟩  rfl hl.1 rfl (Nat.le_of_ble_eq_true rfl) dX10_goes_409 ⟨Nat.le_of_ble_eq_true rfl, Nat.le_of_ble_eq_true rfl⟩) hS (fun r123 u H locs hw hM hS => ?_)
                          obtain ⟨rfl, xr123⟩ := hw
                          have hM : Mem D A ad ns (u2 (u2 (u2 (u2 Ia13 (1000) 55 (v4)) (1000) 53 (v27)) (1049) ((v19).toNatClampNeg) (Ia13 (1049) ((v19).toNatClampNeg))) (1000) 53 (v107)) La13 G H := hM
                          refine lv_iadd hx hb dX10_goes_412 ?_
                          refine lv_topi (fun v124 ev124 => ?_)
                          have tv124 := a_add ev124 (by omega) (by omega)
                          refine lv_istore (lv' := [(5, .int (v124)), (7, .int (v121)), (8, .int (v116)), (14, .int (v115)), (10, .int (v105)), (13, .int (1000)), (12, .int (Ia13 (1006) ((v19).toNatClampNeg))), (11, .int (r35)), (9, .int (v19)), (6, .int (x6_13)), (0, .ref (ad (1000))), (1, .int (a0)), (2, .int (a1)), (3, .int (a2)), (4, .int (a3))]) hx hb dX10_goes_413 hl (by decide) rfl (fun ls hl => ?_)
                          refine lv_iload hx hb dX10_goes_415 (lv_at hl 9 rfl) ?_
                          refine lv_iload hx hb dX10_goes_417 (lv_at hl 1 rfl) ?_
                          refine m_calli (m_runS (As := [.int (v121)]) (rest := [.int (x6_13)]) hx hb hml hown hts hE hM hS hA ce_X10_stepY tb_1663 (V_X10_stepY_l l D A ad ns (u2 (u2 (u2 (u2 Ia13 (1000) 55 (v4)) (1000) 53 (v27)) (1049) ((v19).toNatClampNeg) (Ia13 (1049) ((v19).toNatClampNeg))) (1000) 53 (v107)) La13 G (v121) hI (by first | omega | decide)) rfl rfl ⟨Nat.le_of_ble_eq_true rfl, Nat.le_of_ble_eq_true rfl⟩  rfl hl.1 rfl (Nat.le_of_ble_eq_true rfl) dX10_goes_419 ⟨Nat.le_of_ble_eq_true rfl, Nat.le_of_ble_eq_true rfl⟩) hS (fun r125 u H locs hw hM hS => ?_)
                          obtain ⟨rfl, xr125⟩ := hw
                          have hM : Mem D A ad ns (u2 (u2 (u2 (u2 Ia13 (1000) 55 (v4)) (1000) 53 (v27)) (1049) ((v19).toNatClampNeg) (Ia13 (1049) ((v19).toNatClampNeg))) (1000) 53 (v107)) La13 G H := hM
                          refine lv_iadd hx hb dX10_goes_422 ?_
                          refine lv_topi (fun v126 ev126 => ?_)
                          have tv126 := a_add ev126 (by omega) (by omega)
                          refine lv_istore (lv' := [(6, .int (v126)), (5, .int (v124)), (7, .int (v121)), (8, .int (v116)), (14, .int (v115)), (10, .int (v105)), (13, .int (1000)), (12, .int (Ia13 (1006) ((v19).toNatClampNeg))), (11, .int (r35)), (9, .int (v19)), (0, .ref (ad (1000))), (1, .int (a0)), (2, .int (a1)), (3, .int (a2)), (4, .int (a3))]) hx hb dX10_goes_423 hl (by decide) rfl (fun ls hl => ?_)
                          refine lv_goto (tgt := 13) hx hb dX10_goes_425 (by decide) ?_
                          have tr100055 : ((u2 (u2 (u2 (u2 Ia13 (1000) 55 (v4)) (1000) 53 (v27)) (1049) ((v19).toNatClampNeg) (Ia13 (1049) ((v19).toNatClampNeg))) (1000) 53 (v107)) (1000) 55).toInt = (v4 : Int32).toInt := congrArg Int32.toInt ((show (u2 (u2 (u2 (u2 Ia13 (1000) 55 (v4)) (1000) 53 (v27)) (1049) ((v19).toNatClampNeg) (Ia13 (1049) ((v19).toNatClampNeg))) (1000) 53 (v107)) (1000) 55 = v4 from by simp [u2_v]))
                          have tr100052 : ((u2 (u2 (u2 (u2 Ia13 (1000) 55 (v4)) (1000) 53 (v27)) (1049) ((v19).toNatClampNeg) (Ia13 (1049) ((v19).toNatClampNeg))) (1000) 53 (v107)) (1000) 52).toInt = (Ia13 (1000) 52 : Int32).toInt := congrArg Int32.toInt ((show (u2 (u2 (u2 (u2 Ia13 (1000) 55 (v4)) (1000) 53 (v27)) (1049) ((v19).toNatClampNeg) (Ia13 (1049) ((v19).toNatClampNeg))) (1000) 53 (v107)) (1000) 52 = Ia13 (1000) 52 from by simp [u2_v]))
                          have h55n : ((u2 (u2 (u2 (u2 Ia13 (1000) 55 (v4)) (1000) 53 (v27)) (1049) ((v19).toNatClampNeg) (Ia13 (1049) ((v19).toNatClampNeg))) (1000) 53 (v107)) (1000) 55).toInt = (v4 : Int32).toInt := congrArg Int32.toInt ((show (u2 (u2 (u2 (u2 Ia13 (1000) 55 (v4)) (1000) 53 (v27)) (1049) ((v19).toNatClampNeg) (Ia13 (1049) ((v19).toNatClampNeg))) (1000) 53 (v107)) (1000) 55 = v4 from by simp [u2_v]))
                          have h53 : v107 = (u2 (u2 (u2 Ia13 (1000) 55 (v4)) (1000) 53 (v27)) (1049) ((v19).toNatClampNeg) (Ia13 (1049) ((v19).toNatClampNeg))) 1000 53 + mirG (twM Ia13) (Ia13 (1006) ((v19).toNatClampNeg)) (r50) := by rw [← hG, ev107]; simp [u2_v]
                          have hMI : MIM (twM Ia13) (Ia13 (1006) ((v19).toNatClampNeg)) x5_13 x6_13 x7_13 (r50) (u2 (u2 (u2 Ia13 (1000) 55 (v4)) (1000) 53 (v27)) (1049) ((v19).toNatClampNeg) (Ia13 (1049) ((v19).toNatClampNeg))) (u2 (u2 (u2 (u2 Ia13 (1000) 55 (v4)) (1000) 53 (v27)) (1049) ((v19).toNatClampNeg) (Ia13 (1049) ((v19).toNatClampNeg))) (1000) 53 (v107)) := by rw [h53]; exact MIM.n (by rw [← hon]; omega)
                          exact ih13 (v116) (v121) (v126) (v124) (u2 (u2 (u2 (u2 Ia13 (1000) 55 (v4)) (1000) 53 (v27)) (1049) ((v19).toNatClampNeg) (Ia13 (1049) ((v19).toNatClampNeg))) (1000) 53 (v107)) La13 _ _ ls hI hK (by first | omega | decide) (by first | omega | decide) (by omega) (by rw [← tw13]; exact FXM.step hF13 (by omega) (by omega) (by omega) (by omega) hop (STM.y hcS hym hmv htl hMI) (by unfold stpW; rw [if_pos hym, ← hmv]; exact and7 (a := Ia13 1009 (Ia13 (1006) ((v19).toNatClampNeg)).toNatClampNeg) hr4 (by omega) (by omega)) (by unfold stpL; rw [if_pos hym, ← hmv, ← htl]; exact hL3) (by rw [ev124, xr123.1]) (by rw [ev126, xr125.1])) (by omega) hM hS (lv_sub hl [3, 2, 0, 1, 10, 11, 12, 13, 14] rfl)
                        · have hc117 := c117
                          have q117 := q_nle hc117
                          refine lv_aload_n hx hb dX10_goes_363 rfl (lv_at hl 10 rfl) ?_
                          refine lv_iload hx hb dX10_goes_364 (lv_at hl 9 rfl) ?_
                          refine lv_iload hx hb dX10_goes_366 (lv_at hl 7 rfl) ?_
                          have tw127 : twM (u2 (u2 (u2 (u2 Ia13 (1000) 55 (v4)) (1000) 53 (v27)) (1049) ((v19).toNatClampNeg) (Ia13 (1049) ((v19).toNatClampNeg))) (1000) 53 (v107)) = twM I := twM_kp hK rfl
                          refine m_calli (m_runS (As := [.int (x7_13)]) (rest := [.int (x5_13), .ref (ad (1000))]) hx hb hml hown hts hE hM hS hA ce_X10_stepX tb_1660 (V_X10_stepX_l l D A ad ns (u2 (u2 (u2 (u2 Ia13 (1000) 55 (v4)) (1000) 53 (v27)) (1049) ((v19).toNatClampNeg) (Ia13 (1049) ((v19).toNatClampNeg))) (1000) 53 (v107)) La13 G (x7_13) hI (by first | omega | decide)) rfl rfl ⟨Nat.le_of_ble_eq_true rfl, Nat.le_of_ble_eq_true rfl⟩  rfl hl.1 rfl (Nat.le_of_ble_eq_true rfl) dX10_goes_368 ⟨Nat.le_of_ble_eq_true rfl, Nat.le_of_ble_eq_true rfl⟩) hS (fun r128 u H locs hw hM hS => ?_)
                          obtain ⟨rfl, xr128⟩ := hw
                          have hM : Mem D A ad ns (u2 (u2 (u2 (u2 Ia13 (1000) 55 (v4)) (1000) 53 (v27)) (1049) ((v19).toNatClampNeg) (Ia13 (1049) ((v19).toNatClampNeg))) (1000) 53 (v107)) La13 G H := hM
                          refine lv_iadd hx hb dX10_goes_371 ?_
                          refine lv_topi (fun v129 ev129 => ?_)
                          have tv129 := a_add ev129 (by omega) (by omega)
                          refine lv_iload hx hb dX10_goes_372 (lv_at hl 8 rfl) ?_
                          refine lv_iload hx hb dX10_goes_374 (lv_at hl 7 rfl) ?_
                          refine m_calli (m_runS (As := [.int (x7_13)]) (rest := [.int (x6_13), .int (v129), .ref (ad (1000))]) hx hb hml hown hts hE hM hS hA ce_X10_stepY tb_1663 (V_X10_stepY_l l D A ad ns (u2 (u2 (u2 (u2 Ia13 (1000) 55 (v4)) (1000) 53 (v27)) (1049) ((v19).toNatClampNeg) (Ia13 (1049) ((v19).toNatClampNeg))) (1000) 53 (v107)) La13 G (x7_13) hI (by first | omega | decide)) rfl rfl ⟨Nat.le_of_ble_eq_true rfl, Nat.le_of_ble_eq_true rfl⟩  rfl hl.1 rfl (Nat.le_of_ble_eq_true rfl) dX10_goes_376 ⟨Nat.le_of_ble_eq_true rfl, Nat.le_of_ble_eq_true rfl⟩) hS (fun r130 u H locs hw hM hS => ?_)
                          obtain ⟨rfl, xr130⟩ := hw
                          have hM : Mem D A ad ns (u2 (u2 (u2 (u2 Ia13 (1000) 55 (v4)) (1000) 53 (v27)) (1049) ((v19).toNatClampNeg) (Ia13 (1049) ((v19).toNatClampNeg))) (1000) 53 (v107)) La13 G H := hM
                          refine lv_iadd hx hb dX10_goes_379 ?_
                          refine lv_topi (fun v131 ev131 => ?_)
                          have tv131 := a_add ev131 (by omega) (by omega)
                          refine lv_iload hx hb dX10_goes_380 (lv_at hl 7 rfl) ?_
                          refine lv_iload hx hb dX10_goes_382 (lv_at hl 1 rfl) ?_
                          refine m_callv (m_runV (1000) (As := [.int (v129), .int (v131), .int (x7_13), .int (v115)]) (rest := []) hx hb hml hown hts hE hM hS hA ce_X10_waitsFor tb_1666 (V_X10_waitsFor_l l D A ad ns (u2 (u2 (u2 (u2 Ia13 (1000) 55 (v4)) (1000) 53 (v27)) (1049) ((v19).toNatClampNeg) (Ia13 (1049) ((v19).toNatClampNeg))) (1000) 53 (v107)) La13 G (v129) (v131) (x7_13) (v115) hJ hI (by first | omega | decide) (by first | omega | decide)) rfl rfl ⟨Nat.le_of_ble_eq_true rfl, Nat.le_of_ble_eq_true rfl⟩ hJ.1 rfl rfl (by decide) rfl hl.1 rfl (Nat.le_of_ble_eq_true rfl) dX10_goes_384 ⟨Nat.le_of_ble_eq_true rfl, Nat.le_of_ble_eq_true rfl⟩) hS (fun u H locs hw hM hS => ?_)
                          obtain ⟨I132, L133, rfl, hI, hkI132, xI132⟩ := hw
                          have hM : Mem D A ad ns I132 L133 G H := hM
                          have hK := hK.trans hkI132 rfl
                          have pw134 : ((u2 (u2 (u2 (u2 Ia13 (1000) 55 (v4)) (1000) 53 (v27)) (1049) ((v19).toNatClampNeg) (Ia13 (1049) ((v19).toNatClampNeg))) (1000) 53 (v107)) (1000) 52).toInt = (Ia13 (1000) 52 : Int32).toInt := congrArg Int32.toInt ((show (u2 (u2 (u2 (u2 Ia13 (1000) 55 (v4)) (1000) 53 (v27)) (1049) ((v19).toNatClampNeg) (Ia13 (1049) ((v19).toNatClampNeg))) (1000) 53 (v107)) (1000) 52 = Ia13 (1000) 52 from by simp [u2_v]))
                          refine lv_aload_n hx hb dX10_goes_387 rfl (lv_at hl 10 rfl) ?_
                          refine m_getr (1000) 9 (1009) hx hb hts hown hE oc10 hM hJ.1 rfl (by decide) rfl (hJ.2 9 (by decide)).2 (by decide) tb_1186 dX10_goes_388 ?_
                          refine lv_iload hx hb dX10_goes_391 (lv_at hl 4 rfl) ?_
                          refine m_iald (1009) hx hb hE hM (hJ.2 9 (by decide)).1 rfl (vp_in_iff.mpr (by omega)) dX10_goes_393 ?_
                          have z135 : I132 (1009) (Ia13 (1006) ((v19).toNatClampNeg)).toNatClampNeg = Ia13 (1009) ((Ia13 (1006) ((v19).toNatClampNeg)).toNatClampNeg) := ((congrFun (hkI132.getA (1009) rfl) ((Ia13 (1006) ((v19).toNatClampNeg)).toNatClampNeg))).trans (show (u2 (u2 (u2 (u2 Ia13 (1000) 55 (v4)) (1000) 53 (v27)) (1049) ((v19).toNatClampNeg) (Ia13 (1049) ((v19).toNatClampNeg))) (1000) 53 (v107)) (1009) ((Ia13 (1006) ((v19).toNatClampNeg)).toNatClampNeg) = Ia13 (1009) ((Ia13 (1006) ((v19).toNatClampNeg)).toNatClampNeg) from by simp [u2_v])
                          rw [z135]
                          refine lv_iload hx hb dX10_goes_394 (lv_at hl 7 rfl) ?_
                          refine lv_isub hx hb dX10_goes_396 ?_
                          refine lv_topi (fun v136 ev136 => ?_)
                          have tv136 := a_sub ev136 (by omega) (by omega)
                          refine lv_bipush (v := (8)) hx hb dX10_goes_397 (by decide) ?_
                          refine lv_iadd hx hb dX10_goes_399 ?_
                          refine lv_topi (fun v137 ev137 => ?_)
                          have tv137 := a_add ev137 (by omega) (by omega)
                          refine lv_bipush (v := (8)) hx hb dX10_goes_400 (by decide) ?_
                          refine lv_irem hx hb dX10_goes_402 (by decide) ?_
                          refine lv_topi (fun v138 ev138 => ?_)
                          have tv138 := a_rem (c := 8) ev138 (by decide) (by decide) (by omega)
                          refine lv_istore (lv' := [(7, .int (v138)), (8, .int (v116)), (14, .int (v115)), (10, .int (v105)), (13, .int (1000)), (12, .int (Ia13 (1006) ((v19).toNatClampNeg))), (11, .int (r35)), (9, .int (v19)), (6, .int (x6_13)), (5, .int (x5_13)), (0, .ref (ad (1000))), (1, .int (a0)), (2, .int (a1)), (3, .int (a2)), (4, .int (a3))]) hx hb dX10_goes_403 hl (by decide) rfl (fun ls hl => ?_)
                          refine lv_iload hx hb dX10_goes_405 (lv_at hl 9 rfl) ?_
                          refine lv_iload hx hb dX10_goes_407 (lv_at hl 0 rfl) ?_
                          have tw139 : twM I132 = twM I := twM_kp hK rfl
                          refine m_calli (m_runS (As := [.int (v138)]) (rest := [.int (x5_13)]) hx hb hml hown hts hE hM hS hA ce_X10_stepX tb_1660 (V_X10_stepX_l l D A ad ns I132 L133 G (v138) hI (by first | omega | decide)) rfl rfl ⟨Nat.le_of_ble_eq_true rfl, Nat.le_of_ble_eq_true rfl⟩  rfl hl.1 rfl (Nat.le_of_ble_eq_true rfl) dX10_goes_409 ⟨Nat.le_of_ble_eq_true rfl, Nat.le_of_ble_eq_true rfl⟩) hS (fun r140 u H locs hw hM hS => ?_)
                          obtain ⟨rfl, xr140⟩ := hw
                          have hM : Mem D A ad ns I132 L133 G H := hM
                          refine lv_iadd hx hb dX10_goes_412 ?_
                          refine lv_topi (fun v141 ev141 => ?_)
                          have tv141 := a_add ev141 (by omega) (by omega)
                          refine lv_istore (lv' := [(5, .int (v141)), (7, .int (v138)), (8, .int (v116)), (14, .int (v115)), (10, .int (v105)), (13, .int (1000)), (12, .int (Ia13 (1006) ((v19).toNatClampNeg))), (11, .int (r35)), (9, .int (v19)), (6, .int (x6_13)), (0, .ref (ad (1000))), (1, .int (a0)), (2, .int (a1)), (3, .int (a2)), (4, .int (a3))]) hx hb dX10_goes_413 hl (by decide) rfl (fun ls hl => ?_)
                          refine lv_iload hx hb dX10_goes_415 (lv_at hl 9 rfl) ?_
                          refine lv_iload hx hb dX10_goes_417 (lv_at hl 1 rfl) ?_
                          refine m_calli (m_runS (As := [.int (v138)]) (rest := [.int (x6_13)]) hx hb hml hown hts hE hM hS hA ce_X10_stepY tb_1663 (V_X10_stepY_l l D A ad ns I132 L133 G (v138) hI (by first | omega | decide)) rfl rfl ⟨Nat.le_of_ble_eq_true rfl, Nat.le_of_ble_eq_true rfl⟩  rfl hl.1 rfl (Nat.le_of_ble_eq_true rfl) dX10_goes_419 ⟨Nat.le_of_ble_eq_true rfl, Nat.le_of_ble_eq_true rfl⟩) hS (fun r142 u H locs hw hM hS => ?_)
                          obtain ⟨rfl, xr142⟩ := hw
                          have hM : Mem D A ad ns I132 L133 G H := hM
                          refine lv_iadd hx hb dX10_goes_422 ?_
                          refine lv_topi (fun v143 ev143 => ?_)
                          have tv143 := a_add ev143 (by omega) (by omega)
                          refine lv_istore (lv' := [(6, .int (v143)), (5, .int (v141)), (7, .int (v138)), (8, .int (v116)), (14, .int (v115)), (10, .int (v105)), (13, .int (1000)), (12, .int (Ia13 (1006) ((v19).toNatClampNeg))), (11, .int (r35)), (9, .int (v19)), (0, .ref (ad (1000))), (1, .int (a0)), (2, .int (a1)), (3, .int (a2)), (4, .int (a3))]) hx hb dX10_goes_423 hl (by decide) rfl (fun ls hl => ?_)
                          refine lv_goto (tgt := 13) hx hb dX10_goes_425 (by decide) ?_
                          have tr100055 : (I132 (1000) 55).toInt = (v4 : Int32).toInt := congrArg Int32.toInt (((hkI132.get (1000) 55 rfl)).trans (show (u2 (u2 (u2 (u2 Ia13 (1000) 55 (v4)) (1000) 53 (v27)) (1049) ((v19).toNatClampNeg) (Ia13 (1049) ((v19).toNatClampNeg))) (1000) 53 (v107)) (1000) 55 = v4 from by simp [u2_v]))
                          have h55n : (I132 (1000) 55).toInt = (v4 : Int32).toInt := congrArg Int32.toInt (((hkI132.get (1000) 55 rfl)).trans (show (u2 (u2 (u2 (u2 Ia13 (1000) 55 (v4)) (1000) 53 (v27)) (1049) ((v19).toNatClampNeg) (Ia13 (1049) ((v19).toNatClampNeg))) (1000) 53 (v107)) (1000) 55 = v4 from by simp [u2_v]))
                          have h53 : v107 = (u2 (u2 (u2 Ia13 (1000) 55 (v4)) (1000) 53 (v27)) (1049) ((v19).toNatClampNeg) (Ia13 (1049) ((v19).toNatClampNeg))) 1000 53 + mirG (twM Ia13) (Ia13 (1006) ((v19).toNatClampNeg)) (r50) := by rw [← hG, ev107]; simp [u2_v]
                          have hMI : MIM (twM Ia13) (Ia13 (1006) ((v19).toNatClampNeg)) x5_13 x6_13 x7_13 (r50) (u2 (u2 (u2 Ia13 (1000) 55 (v4)) (1000) 53 (v27)) (1049) ((v19).toNatClampNeg) (Ia13 (1049) ((v19).toNatClampNeg))) I132 := by
                            refine MIM.y (by rw [← hon]; omega) ?_
                            rw [← h53, ← hon, show x5_13 + sX x7_13 = v129 from by rw [ev129, xr128.1], show x6_13 + sY x7_13 = v131 from by rw [ev131, xr130.1]]
                            exact xI132.2
                          exact ih13 (v116) (v138) (v143) (v141) I132 L133 _ _ ls hI hK (by first | omega | decide) (by first | omega | decide) (by omega) (by rw [← tw13]; exact FXM.step hF13 (by omega) (by omega) (by omega) (by omega) hop (STM.y hcS hym hmv htl hMI) (by unfold stpW; rw [if_pos hym, ← hmv]; exact and7 (a := Ia13 1009 (Ia13 (1006) ((v19).toNatClampNeg)).toNatClampNeg) hr4 (by omega) (by omega)) (by unfold stpL; rw [if_pos hym, ← hmv, ← htl]; exact hL3) (by rw [ev141, xr140.1]) (by rw [ev143, xr142.1])) (by omega) hM hS (lv_sub hl [3, 2, 0, 1, 10, 11, 12, 13, 14] rfl)
                · have hc36 := c36
                  have q36 := q_ne hc36
                  have htk : 0 ≤ (Ia13 1021 (r35).toNatClampNeg).toInt ∧ (Ia13 1021 (r35).toNatClampNeg).toInt ≤ 1000 := hTR3.2.2.1 _ (by have z := tn (i := r35) (by omega); omega)
                  refine lv_iload hx hb dX10_goes_183 (lv_at hl 1 rfl) ?_
                  refine lv_i2l hx hb dX10_goes_185 rfl ?_
                  refine lv_topl (fun v144 ev144 => ?_)
                  have tv144 := q_i2l ev144
                  refine lv_aload_n hx hb dX10_goes_186 rfl (lv_at hl 7 rfl) ?_
                  refine m_getr (1000) 21 (1021) hx hb hts hown hE oc10 hM hJ.1 rfl (by decide) rfl (hJ.2 21 (by decide)).2 (by decide) tb_1198 dX10_goes_187 ?_
                  refine lv_iload hx hb dX10_goes_190 (lv_at hl 0 rfl) ?_
                  refine m_iald (1021) hx hb hE hM (hJ.2 21 (by decide)).1 rfl (vp_in_iff.mpr (by omega)) dX10_goes_192 ?_
                  have z145 : (u2 (u2 (u2 Ia13 (1000) 55 (v4)) (1000) 53 (v27)) (1049) ((v19).toNatClampNeg) (Ia13 (1049) ((v19).toNatClampNeg))) (1021) (r35).toNatClampNeg = Ia13 (1021) ((r35).toNatClampNeg) := (show (u2 (u2 (u2 Ia13 (1000) 55 (v4)) (1000) 53 (v27)) (1049) ((v19).toNatClampNeg) (Ia13 (1049) ((v19).toNatClampNeg))) (1021) ((r35).toNatClampNeg) = Ia13 (1021) ((r35).toNatClampNeg) from by simp [u2_v])
                  rw [z145]
                  refine lv_i2l hx hb dX10_goes_193 rfl ?_
                  refine lv_topl (fun v146 ev146 => ?_)
                  have tv146 := q_i2l ev146
                  refine lv_lmul hx hb dX10_goes_194 ?_
                  refine lv_topl (fun v147 ev147 => ?_)
                  refine lv_ldc2 (v := (1000)) hx hb hown (hts _ tb_1428) dX10_goes_195 ?_
                  refine lv_ldiv hx hb dX10_goes_198 (by decide) ?_
                  refine lv_topl (fun v148 ev148 => ?_)
                  refine lv_l2i hx hb dX10_goes_199 rfl ?_
                  refine lv_topi (fun v149 ev149 => ?_)
                  have shv149 : v149 = shr (v29) (Ia13 (1021) ((r35).toNatClampNeg)) := shr_l ev144 ev146 ev147 ev148 ev149 (by omega) htk
                  have sbv149 := shr_b (s := v29) (t := Ia13 (1021) ((r35).toNatClampNeg)) (by omega) htk
                  rw [← shv149] at sbv149
                  refine lv_istore (lv' := [(10, .int (v149)), (11, .int (r35)), (8, .int (v29)), (9, .int (v19)), (7, .int (x7_13)), (6, .int (x6_13)), (5, .int (x5_13)), (0, .ref (ad (1000))), (1, .int (a0)), (2, .int (a1)), (3, .int (a2)), (4, .int (a3))]) hx hb dX10_goes_200 hl (by decide) rfl (fun ls hl => ?_)
                  refine lv_aload_n hx hb dX10_goes_202 rfl (lv_at hl 7 rfl) ?_
                  refine m_getr (1000) 50 (1050) hx hb hts hown hE oc10 hM hJ.1 rfl (by decide) rfl (hJ.2 50 (by decide)).2 (by decide) tb_1227 dX10_goes_203 ?_
                  refine lv_iload hx hb dX10_goes_206 (lv_at hl 1 rfl) ?_
                  refine lv_dup2_11 hx hb dX10_goes_208 rfl rfl ?_
                  refine m_iald (1050) hx hb hE hM (hJ.2 50 (by decide)).1 rfl (vp_in_iff.mpr (by omega)) dX10_goes_209 ?_
                  have z150 : (u2 (u2 (u2 Ia13 (1000) 55 (v4)) (1000) 53 (v27)) (1049) ((v19).toNatClampNeg) (Ia13 (1049) ((v19).toNatClampNeg))) (1050) (r35).toNatClampNeg = Ia13 (1050) ((r35).toNatClampNeg) := (show (u2 (u2 (u2 Ia13 (1000) 55 (v4)) (1000) 53 (v27)) (1049) ((v19).toNatClampNeg) (Ia13 (1049) ((v19).toNatClampNeg))) (1050) ((r35).toNatClampNeg) = Ia13 (1050) ((r35).toNatClampNeg) from by simp [u2_v])
                  rw [z150]
                  refine lv_iload hx hb dX10_goes_210 (lv_at hl 0 rfl) ?_
                  refine lv_iadd hx hb dX10_goes_212 ?_
                  refine lv_topi (fun v151 ev151 => ?_)
                  refine m_iast (1050) hx hb hE hM hS (hJ.2 50 (by decide)).1 rfl (vp_in_iff.mpr (by omega)) dX10_goes_213 (fun H locs I152 eI152 hM hS => ?_)
                  subst eI152
                  have hI := hI.putF (n := 1050) (k := ((r35).toNatClampNeg)) (v := v151) rfl
                  have hK := hK.put (n := 1050) (k := ((r35).toNatClampNeg)) (v := v151) (by first | rfl | simp [inR])
                  refine lv_iload hx hb dX10_goes_214 (lv_at hl 2 rfl) ?_
                  refine lv_iload hx hb dX10_goes_216 (lv_at hl 0 rfl) ?_
                  refine lv_isub hx hb dX10_goes_218 ?_
                  refine lv_topi (fun v153 ev153 => ?_)
                  have tv153 := a_sub ev153 (by omega) (by omega)
                  refine lv_istore (lv' := [(8, .int (v153)), (10, .int (v149)), (11, .int (r35)), (9, .int (v19)), (7, .int (x7_13)), (6, .int (x6_13)), (5, .int (x5_13)), (0, .ref (ad (1000))), (1, .int (a0)), (2, .int (a1)), (3, .int (a2)), (4, .int (a3))]) hx hb dX10_goes_219 hl (by decide) rfl (fun ls hl => ?_)
                  have hyn : ((twM Ia13).yat (clN x5_13 x6_13)).toInt ≠ -1 := by rw [← hyv]; omega
                  have hg2 : v149 = shr (airL (twM Ia13) x8_13) ((twM Ia13).tk ((twM Ia13).yat (clN x5_13 x6_13)).toNatClampNeg) := by rw [shv149, hl1, ← hyv]; rfl
                  have hcL : v153 = cellL (twM Ia13) x5_13 x6_13 x8_13 := cellL_y hyn (by rw [ev153, hg2, ← hl1])
                  have hcS : CEm (twM Ia13) x5_13 x6_13 x8_13 Ia13 (u2 (u2 (u2 (u2 Ia13 (1000) 55 (v4)) (1000) 53 (v27)) (1049) ((v19).toNatClampNeg) (Ia13 (1049) ((v19).toNatClampNeg))) (1050) ((r35).toNatClampNeg) (v151)) := by
                    have h50 : v151 = (u2 (u2 (u2 Ia13 (1000) 55 (v4)) (1000) 53 (v27)) (1049) ((v19).toNatClampNeg) (Ia13 (1049) ((v19).toNatClampNeg))) 1050 (r35).toNatClampNeg + v149 := by rw [ev151]; simp [u2_v]
                    rw [h50]
                    exact CEm.y ha1 hyn (congrArg Int32.toNatClampNeg hyv) (by have z := tn (i := r35) (by omega); omega) (by rw [hyv]; exact hg2)
                  refine lv_aload_n hx hb dX10_goes_221 rfl (lv_at hl 7 rfl) ?_
                  refine m_getr (1000) 6 (1006) hx hb hts hown hE oc10 hM hJ.1 rfl (by decide) rfl (hJ.2 6 (by decide)).2 (by decide) tb_1183 dX10_goes_222 ?_
                  refine lv_iload hx hb dX10_goes_225 (lv_at hl 3 rfl) ?_
                  refine m_iald (1006) hx hb hE hM (hJ.2 6 (by decide)).1 rfl (vp_in_iff.mpr (by omega)) dX10_goes_227 ?_
                  have g154 := hI.get (1006) ((v19).toNatClampNeg) (lo := -1) (hi := 23) rfl
                  have z155 : (u2 (u2 (u2 (u2 Ia13 (1000) 55 (v4)) (1000) 53 (v27)) (1049) ((v19).toNatClampNeg) (Ia13 (1049) ((v19).toNatClampNeg))) (1050) ((r35).toNatClampNeg) (v151)) (1006) (v19).toNatClampNeg = Ia13 (1006) ((v19).toNatClampNeg) := (show (u2 (u2 (u2 (u2 Ia13 (1000) 55 (v4)) (1000) 53 (v27)) (1049) ((v19).toNatClampNeg) (Ia13 (1049) ((v19).toNatClampNeg))) (1050) ((r35).toNatClampNeg) (v151)) (1006) ((v19).toNatClampNeg) = Ia13 (1006) ((v19).toNatClampNeg) from by simp [u2_v])
                  rw [z155] at g154 ⊢
                  refine lv_istore (lv' := [(12, .int (Ia13 (1006) ((v19).toNatClampNeg))), (8, .int (v153)), (10, .int (v149)), (11, .int (r35)), (9, .int (v19)), (7, .int (x7_13)), (6, .int (x6_13)), (5, .int (x5_13)), (0, .ref (ad (1000))), (1, .int (a0)), (2, .int (a1)), (3, .int (a2)), (4, .int (a3))]) hx hb dX10_goes_228 hl (by decide) rfl (fun ls hl => ?_)
                  refine lv_iload hx hb dX10_goes_230 (lv_at hl 0 rfl) ?_
                  refine lv_iconst (v := (-1)) hx hb dX10_goes_232 (by decide) ?_
                  refine lv_icmp_eq (tgt := 405) hx hb dX10_goes_233 (by decide) (fun c156 => ?_) (fun c156 => ?_)
                  · have hc156 := c156
                    have q156 := q_eq hc156
                    refine lv_iload hx hb dX10_goes_405 (lv_at hl 7 rfl) ?_
                    refine lv_iload hx hb dX10_goes_407 (lv_at hl 5 rfl) ?_
                    have tw157 : twM (u2 (u2 (u2 (u2 Ia13 (1000) 55 (v4)) (1000) 53 (v27)) (1049) ((v19).toNatClampNeg) (Ia13 (1049) ((v19).toNatClampNeg))) (1050) ((r35).toNatClampNeg) (v151)) = twM I := twM_kp hK rfl
                    refine m_calli (m_runS (As := [.int (x7_13)]) (rest := [.int (x5_13)]) hx hb hml hown hts hE hM hS hA ce_X10_stepX tb_1660 (V_X10_stepX_l l D A ad ns (u2 (u2 (u2 (u2 Ia13 (1000) 55 (v4)) (1000) 53 (v27)) (1049) ((v19).toNatClampNeg) (Ia13 (1049) ((v19).toNatClampNeg))) (1050) ((r35).toNatClampNeg) (v151)) La13 G (x7_13) hI (by first | omega | decide)) rfl rfl ⟨Nat.le_of_ble_eq_true rfl, Nat.le_of_ble_eq_true rfl⟩  rfl hl.1 rfl (Nat.le_of_ble_eq_true rfl) dX10_goes_409 ⟨Nat.le_of_ble_eq_true rfl, Nat.le_of_ble_eq_true rfl⟩) hS (fun r158 u H locs hw hM hS => ?_)
                    obtain ⟨rfl, xr158⟩ := hw
                    have hM : Mem D A ad ns (u2 (u2 (u2 (u2 Ia13 (1000) 55 (v4)) (1000) 53 (v27)) (1049) ((v19).toNatClampNeg) (Ia13 (1049) ((v19).toNatClampNeg))) (1050) ((r35).toNatClampNeg) (v151)) La13 G H := hM
                    refine lv_iadd hx hb dX10_goes_412 ?_
                    refine lv_topi (fun v159 ev159 => ?_)
                    have tv159 := a_add ev159 (by omega) (by omega)
                    refine lv_istore (lv' := [(5, .int (v159)), (12, .int (Ia13 (1006) ((v19).toNatClampNeg))), (8, .int (v153)), (10, .int (v149)), (11, .int (r35)), (9, .int (v19)), (7, .int (x7_13)), (6, .int (x6_13)), (0, .ref (ad (1000))), (1, .int (a0)), (2, .int (a1)), (3, .int (a2)), (4, .int (a3))]) hx hb dX10_goes_413 hl (by decide) rfl (fun ls hl => ?_)
                    refine lv_iload hx hb dX10_goes_415 (lv_at hl 7 rfl) ?_
                    refine lv_iload hx hb dX10_goes_417 (lv_at hl 6 rfl) ?_
                    refine m_calli (m_runS (As := [.int (x7_13)]) (rest := [.int (x6_13)]) hx hb hml hown hts hE hM hS hA ce_X10_stepY tb_1663 (V_X10_stepY_l l D A ad ns (u2 (u2 (u2 (u2 Ia13 (1000) 55 (v4)) (1000) 53 (v27)) (1049) ((v19).toNatClampNeg) (Ia13 (1049) ((v19).toNatClampNeg))) (1050) ((r35).toNatClampNeg) (v151)) La13 G (x7_13) hI (by first | omega | decide)) rfl rfl ⟨Nat.le_of_ble_eq_true rfl, Nat.le_of_ble_eq_true rfl⟩  rfl hl.1 rfl (Nat.le_of_ble_eq_true rfl) dX10_goes_419 ⟨Nat.le_of_ble_eq_true rfl, Nat.le_of_ble_eq_true rfl⟩) hS (fun r160 u H locs hw hM hS => ?_)
                    obtain ⟨rfl, xr160⟩ := hw
                    have hM : Mem D A ad ns (u2 (u2 (u2 (u2 Ia13 (1000) 55 (v4)) (1000) 53 (v27)) (1049) ((v19).toNatClampNeg) (Ia13 (1049) ((v19).toNatClampNeg))) (1050) ((r35).toNatClampNeg) (v151)) La13 G H := hM
                    refine lv_iadd hx hb dX10_goes_422 ?_
                    refine lv_topi (fun v161 ev161 => ?_)
                    have tv161 := a_add ev161 (by omega) (by omega)
                    refine lv_istore (lv' := [(6, .int (v161)), (5, .int (v159)), (12, .int (Ia13 (1006) ((v19).toNatClampNeg))), (8, .int (v153)), (10, .int (v149)), (11, .int (r35)), (9, .int (v19)), (7, .int (x7_13)), (0, .ref (ad (1000))), (1, .int (a0)), (2, .int (a1)), (3, .int (a2)), (4, .int (a3))]) hx hb dX10_goes_423 hl (by decide) rfl (fun ls hl => ?_)
                    refine lv_goto (tgt := 13) hx hb dX10_goes_425 (by decide) ?_
                    have tr100055 : ((u2 (u2 (u2 (u2 Ia13 (1000) 55 (v4)) (1000) 53 (v27)) (1049) ((v19).toNatClampNeg) (Ia13 (1049) ((v19).toNatClampNeg))) (1050) ((r35).toNatClampNeg) (v151)) (1000) 55).toInt = (v4 : Int32).toInt := congrArg Int32.toInt ((show (u2 (u2 (u2 (u2 Ia13 (1000) 55 (v4)) (1000) 53 (v27)) (1049) ((v19).toNatClampNeg) (Ia13 (1049) ((v19).toNatClampNeg))) (1050) ((r35).toNatClampNeg) (v151)) (1000) 55 = v4 from by simp [u2_v]))
                    have tr100052 : ((u2 (u2 (u2 (u2 Ia13 (1000) 55 (v4)) (1000) 53 (v27)) (1049) ((v19).toNatClampNeg) (Ia13 (1049) ((v19).toNatClampNeg))) (1050) ((r35).toNatClampNeg) (v151)) (1000) 52).toInt = (Ia13 (1000) 52 : Int32).toInt := congrArg Int32.toInt ((show (u2 (u2 (u2 (u2 Ia13 (1000) 55 (v4)) (1000) 53 (v27)) (1049) ((v19).toNatClampNeg) (Ia13 (1049) ((v19).toNatClampNeg))) (1050) ((r35).toNatClampNeg) (v151)) (1000) 52 = Ia13 (1000) 52 from by simp [u2_v]))
                    have h55n : ((u2 (u2 (u2 (u2 Ia13 (1000) 55 (v4)) (1000) 53 (v27)) (1049) ((v19).toNatClampNeg) (Ia13 (1049) ((v19).toNatClampNeg))) (1050) ((r35).toNatClampNeg) (v151)) (1000) 55).toInt = (v4 : Int32).toInt := congrArg Int32.toInt ((show (u2 (u2 (u2 (u2 Ia13 (1000) 55 (v4)) (1000) 53 (v27)) (1049) ((v19).toNatClampNeg) (Ia13 (1049) ((v19).toNatClampNeg))) (1050) ((r35).toNatClampNeg) (v151)) (1000) 55 = v4 from by simp [u2_v]))
                    have hmv : Ia13 (1006) ((v19).toNatClampNeg) = (twM Ia13).mat (clN x5_13 x6_13) := by rw [← hcl]; rfl
                    have hnm : ¬ isM (twM Ia13) (clN x5_13 x6_13) := fun z => z.1 (by rw [← hmv]; omega)
                    exact ih13 (v153) (x7_13) (v161) (v159) (u2 (u2 (u2 (u2 Ia13 (1000) 55 (v4)) (1000) 53 (v27)) (1049) ((v19).toNatClampNeg) (Ia13 (1049) ((v19).toNatClampNeg))) (1050) ((r35).toNatClampNeg) (v151)) La13 _ _ ls hI hK (by first | omega | decide) (by first | omega | decide) (by omega) (by rw [← tw13]; exact FXM.step hF13 (by omega) (by omega) (by omega) (by omega) hop (STM.n hcS hnm) (by unfold stpW; rw [if_neg hnm]) (by unfold stpL; rw [if_neg hnm]; exact hcL) (by rw [ev159, xr158.1]) (by rw [ev161, xr160.1])) (by omega) hM hS (lv_sub hl [3, 7, 0, 1, 8, 9, 10, 11, 12] rfl)
                  · have hc156 := c156
                    have q156 := q_ne hc156
                    refine lv_aload_n hx hb dX10_goes_236 rfl (lv_at hl 8 rfl) ?_
                    refine m_getr (1000) 15 (1015) hx hb hts hown hE oc10 hM hJ.1 rfl (by decide) rfl (hJ.2 15 (by decide)).2 (by decide) tb_1192 dX10_goes_237 ?_
                    refine lv_iload hx hb dX10_goes_240 (lv_at hl 0 rfl) ?_
                    refine m_iald (1015) hx hb hE hM (hJ.2 15 (by decide)).1 rfl (vp_in_iff.mpr (by omega)) dX10_goes_242 ?_
                    have z162 : (u2 (u2 (u2 (u2 Ia13 (1000) 55 (v4)) (1000) 53 (v27)) (1049) ((v19).toNatClampNeg) (Ia13 (1049) ((v19).toNatClampNeg))) (1050) ((r35).toNatClampNeg) (v151)) (1015) (Ia13 (1006) ((v19).toNatClampNeg)).toNatClampNeg = Ia13 (1015) ((Ia13 (1006) ((v19).toNatClampNeg)).toNatClampNeg) := (show (u2 (u2 (u2 (u2 Ia13 (1000) 55 (v4)) (1000) 53 (v27)) (1049) ((v19).toNatClampNeg) (Ia13 (1049) ((v19).toNatClampNeg))) (1050) ((r35).toNatClampNeg) (v151)) (1015) ((Ia13 (1006) ((v19).toNatClampNeg)).toNatClampNeg) = Ia13 (1015) ((Ia13 (1006) ((v19).toNatClampNeg)).toNatClampNeg) from by simp [u2_v])
                    rw [z162]
                    refine lv_if_ne (tgt := 405) hx hb dX10_goes_243 (by decide) (fun c163 => ?_) (fun c163 => ?_)
                    · have hc163 := c163
                      have q163 := q_ne hc163
                      refine lv_iload hx hb dX10_goes_405 (lv_at hl 7 rfl) ?_
                      refine lv_iload hx hb dX10_goes_407 (lv_at hl 5 rfl) ?_
                      have tw164 : twM (u2 (u2 (u2 (u2 Ia13 (1000) 55 (v4)) (1000) 53 (v27)) (1049) ((v19).toNatClampNeg) (Ia13 (1049) ((v19).toNatClampNeg))) (1050) ((r35).toNatClampNeg) (v151)) = twM I := twM_kp hK rfl
                      refine m_calli (m_runS (As := [.int (x7_13)]) (rest := [.int (x5_13)]) hx hb hml hown hts hE hM hS hA ce_X10_stepX tb_1660 (V_X10_stepX_l l D A ad ns (u2 (u2 (u2 (u2 Ia13 (1000) 55 (v4)) (1000) 53 (v27)) (1049) ((v19).toNatClampNeg) (Ia13 (1049) ((v19).toNatClampNeg))) (1050) ((r35).toNatClampNeg) (v151)) La13 G (x7_13) hI (by first | omega | decide)) rfl rfl ⟨Nat.le_of_ble_eq_true rfl, Nat.le_of_ble_eq_true rfl⟩  rfl hl.1 rfl (Nat.le_of_ble_eq_true rfl) dX10_goes_409 ⟨Nat.le_of_ble_eq_true rfl, Nat.le_of_ble_eq_true rfl⟩) hS (fun r165 u H locs hw hM hS => ?_)
                      obtain ⟨rfl, xr165⟩ := hw
                      have hM : Mem D A ad ns (u2 (u2 (u2 (u2 Ia13 (1000) 55 (v4)) (1000) 53 (v27)) (1049) ((v19).toNatClampNeg) (Ia13 (1049) ((v19).toNatClampNeg))) (1050) ((r35).toNatClampNeg) (v151)) La13 G H := hM
                      refine lv_iadd hx hb dX10_goes_412 ?_
                      refine lv_topi (fun v166 ev166 => ?_)
                      have tv166 := a_add ev166 (by omega) (by omega)
                      refine lv_istore (lv' := [(5, .int (v166)), (12, .int (Ia13 (1006) ((v19).toNatClampNeg))), (8, .int (v153)), (10, .int (v149)), (11, .int (r35)), (9, .int (v19)), (7, .int (x7_13)), (6, .int (x6_13)), (0, .ref (ad (1000))), (1, .int (a0)), (2, .int (a1)), (3, .int (a2)), (4, .int (a3))]) hx hb dX10_goes_413 hl (by decide) rfl (fun ls hl => ?_)
                      refine lv_iload hx hb dX10_goes_415 (lv_at hl 7 rfl) ?_
                      refine lv_iload hx hb dX10_goes_417 (lv_at hl 6 rfl) ?_
                      refine m_calli (m_runS (As := [.int (x7_13)]) (rest := [.int (x6_13)]) hx hb hml hown hts hE hM hS hA ce_X10_stepY tb_1663 (V_X10_stepY_l l D A ad ns (u2 (u2 (u2 (u2 Ia13 (1000) 55 (v4)) (1000) 53 (v27)) (1049) ((v19).toNatClampNeg) (Ia13 (1049) ((v19).toNatClampNeg))) (1050) ((r35).toNatClampNeg) (v151)) La13 G (x7_13) hI (by first | omega | decide)) rfl rfl ⟨Nat.le_of_ble_eq_true rfl, Nat.le_of_ble_eq_true rfl⟩  rfl hl.1 rfl (Nat.le_of_ble_eq_true rfl) dX10_goes_419 ⟨Nat.le_of_ble_eq_true rfl, Nat.le_of_ble_eq_true rfl⟩) hS (fun r167 u H locs hw hM hS => ?_)
                      obtain ⟨rfl, xr167⟩ := hw
                      have hM : Mem D A ad ns (u2 (u2 (u2 (u2 Ia13 (1000) 55 (v4)) (1000) 53 (v27)) (1049) ((v19).toNatClampNeg) (Ia13 (1049) ((v19).toNatClampNeg))) (1050) ((r35).toNatClampNeg) (v151)) La13 G H := hM
                      refine lv_iadd hx hb dX10_goes_422 ?_
                      refine lv_topi (fun v168 ev168 => ?_)
                      have tv168 := a_add ev168 (by omega) (by omega)
                      refine lv_istore (lv' := [(6, .int (v168)), (5, .int (v166)), (12, .int (Ia13 (1006) ((v19).toNatClampNeg))), (8, .int (v153)), (10, .int (v149)), (11, .int (r35)), (9, .int (v19)), (7, .int (x7_13)), (0, .ref (ad (1000))), (1, .int (a0)), (2, .int (a1)), (3, .int (a2)), (4, .int (a3))]) hx hb dX10_goes_423 hl (by decide) rfl (fun ls hl => ?_)
                      refine lv_goto (tgt := 13) hx hb dX10_goes_425 (by decide) ?_
                      have tr100055 : ((u2 (u2 (u2 (u2 Ia13 (1000) 55 (v4)) (1000) 53 (v27)) (1049) ((v19).toNatClampNeg) (Ia13 (1049) ((v19).toNatClampNeg))) (1050) ((r35).toNatClampNeg) (v151)) (1000) 55).toInt = (v4 : Int32).toInt := congrArg Int32.toInt ((show (u2 (u2 (u2 (u2 Ia13 (1000) 55 (v4)) (1000) 53 (v27)) (1049) ((v19).toNatClampNeg) (Ia13 (1049) ((v19).toNatClampNeg))) (1050) ((r35).toNatClampNeg) (v151)) (1000) 55 = v4 from by simp [u2_v]))
                      have tr100052 : ((u2 (u2 (u2 (u2 Ia13 (1000) 55 (v4)) (1000) 53 (v27)) (1049) ((v19).toNatClampNeg) (Ia13 (1049) ((v19).toNatClampNeg))) (1050) ((r35).toNatClampNeg) (v151)) (1000) 52).toInt = (Ia13 (1000) 52 : Int32).toInt := congrArg Int32.toInt ((show (u2 (u2 (u2 (u2 Ia13 (1000) 55 (v4)) (1000) 53 (v27)) (1049) ((v19).toNatClampNeg) (Ia13 (1049) ((v19).toNatClampNeg))) (1050) ((r35).toNatClampNeg) (v151)) (1000) 52 = Ia13 (1000) 52 from by simp [u2_v]))
                      have h55n : ((u2 (u2 (u2 (u2 Ia13 (1000) 55 (v4)) (1000) 53 (v27)) (1049) ((v19).toNatClampNeg) (Ia13 (1049) ((v19).toNatClampNeg))) (1050) ((r35).toNatClampNeg) (v151)) (1000) 55).toInt = (v4 : Int32).toInt := congrArg Int32.toInt ((show (u2 (u2 (u2 (u2 Ia13 (1000) 55 (v4)) (1000) 53 (v27)) (1049) ((v19).toNatClampNeg) (Ia13 (1049) ((v19).toNatClampNeg))) (1050) ((r35).toNatClampNeg) (v151)) (1000) 55 = v4 from by simp [u2_v]))
                      have hmv : Ia13 (1006) ((v19).toNatClampNeg) = (twM Ia13).mat (clN x5_13 x6_13) := by rw [← hcl]; rfl
                      have hnm : ¬ isM (twM Ia13) (clN x5_13 x6_13) := fun z => by have z2 := z.2; rw [← hmv] at z2; exact q163 z2
                      exact ih13 (v153) (x7_13) (v168) (v166) (u2 (u2 (u2 (u2 Ia13 (1000) 55 (v4)) (1000) 53 (v27)) (1049) ((v19).toNatClampNeg) (Ia13 (1049) ((v19).toNatClampNeg))) (1050) ((r35).toNatClampNeg) (v151)) La13 _ _ ls hI hK (by first | omega | decide) (by first | omega | decide) (by omega) (by rw [← tw13]; exact FXM.step hF13 (by omega) (by omega) (by omega) (by omega) hop (STM.n hcS hnm) (by unfold stpW; rw [if_neg hnm]) (by unfold stpL; rw [if_neg hnm]; exact hcL) (by rw [ev166, xr165.1]) (by rw [ev168, xr167.1])) (by omega) hM hS (lv_sub hl [3, 7, 0, 1, 8, 9, 10, 11, 12] rfl)
                    · have hc163 := c163
                      have q163 := q_eq hc163
                      have hm24 : (Ia13 (1006) ((v19).toNatClampNeg)).toNatClampNeg < 24 := by have z := tn (i := Ia13 (1006) ((v19).toNatClampNeg)) (by omega); omega
                      obtain ⟨hr1, hr2, hth, hr4⟩ := hTR3.2.2.2 _ hm24
                      have hr1 : 0 ≤ (Ia13 1010 (Ia13 (1006) ((v19).toNatClampNeg)).toNatClampNeg).toInt ∧ (Ia13 1010 (Ia13 (1006) ((v19).toNatClampNeg)).toNatClampNeg).toInt ≤ 1000 := hr1
                      have hr2 : 0 ≤ (Ia13 1014 (Ia13 (1006) ((v19).toNatClampNeg)).toNatClampNeg).toInt ∧ (Ia13 1014 (Ia13 (1006) ((v19).toNatClampNeg)).toNatClampNeg).toInt ≤ 1000 := hr2
                      have hth : 0 ≤ (Ia13 1011 (Ia13 (1006) ((v19).toNatClampNeg)).toNatClampNeg).toInt ∧ (Ia13 1011 (Ia13 (1006) ((v19).toNatClampNeg)).toNatClampNeg).toInt ≤ 1000 := hth
                      have hr4 : 0 ≤ (Ia13 1009 (Ia13 (1006) ((v19).toNatClampNeg)).toNatClampNeg).toInt ∧ (Ia13 1009 (Ia13 (1006) ((v19).toNatClampNeg)).toNatClampNeg).toInt ≤ 7 := hr4
                      have hmv : Ia13 (1006) ((v19).toNatClampNeg) = (twM Ia13).mat (clN x5_13 x6_13) := by rw [← hcl]; rfl
                      have hym : isM (twM Ia13) (clN x5_13 x6_13) := ⟨by rw [← hmv]; omega, by rw [← hmv]; exact q163⟩
                      refine lv_aload_n hx hb dX10_goes_246 rfl (lv_at hl 8 rfl) ?_
                      refine lv_iload hx hb dX10_goes_247 (lv_at hl 0 rfl) ?_
                      refine lv_iload hx hb dX10_goes_249 (lv_at hl 1 rfl) ?_
                      have tw169 : twM (u2 (u2 (u2 (u2 Ia13 (1000) 55 (v4)) (1000) 53 (v27)) (1049) ((v19).toNatClampNeg) (Ia13 (1049) ((v19).toNatClampNeg))) (1050) ((r35).toNatClampNeg) (v151)) = twM I := twM_kp hK rfl
                      refine m_calli (m_runV (1000) (As := [.int (Ia13 (1006) ((v19).toNatClampNeg)), .int (v153)]) (rest := []) hx hb hml hown hts hE hM hS hA ce_X10_told tb_1656 (V_X10_told_l l D A ad ns (u2 (u2 (u2 (u2 Ia13 (1000) 55 (v4)) (1000) 53 (v27)) (1049) ((v19).toNatClampNeg) (Ia13 (1049) ((v19).toNatClampNeg))) (1050) ((r35).toNatClampNeg) (v151)) La13 G (Ia13 (1006) ((v19).toNatClampNeg)) (v153) hJ hI (by rw [hK.get 1000 59 rfl]; exact hsk) (by first | omega | decide)) rfl rfl ⟨Nat.le_of_ble_eq_true rfl, Nat.le_of_ble_eq_true rfl⟩ hJ.1 rfl rfl (by decide) rfl hl.1 rfl (Nat.le_of_ble_eq_true rfl) dX10_goes_251 ⟨Nat.le_of_ble_eq_true rfl, Nat.le_of_ble_eq_true rfl⟩) hS (fun r170 u H locs hw hM hS => ?_)
                      obtain ⟨rfl, xr170⟩ := hw
                      have hM : Mem D A ad ns (u2 (u2 (u2 (u2 Ia13 (1000) 55 (v4)) (1000) 53 (v27)) (1049) ((v19).toNatClampNeg) (Ia13 (1049) ((v19).toNatClampNeg))) (1050) ((r35).toNatClampNeg) (v151)) La13 G H := hM
                      have hrr170 := congrArg Int32.toInt xr170
                      refine lv_istore (lv' := [(8, .int (r170)), (12, .int (Ia13 (1006) ((v19).toNatClampNeg))), (10, .int (v149)), (11, .int (r35)), (9, .int (v19)), (7, .int (x7_13)), (6, .int (x6_13)), (5, .int (x5_13)), (0, .ref (ad (1000))), (1, .int (a0)), (2, .int (a1)), (3, .int (a2)), (4, .int (a3))]) hx hb dX10_goes_254 hl (by decide) rfl (fun ls hl => ?_)
                      refine lv_aload_n hx hb dX10_goes_256 rfl (lv_at hl 8 rfl) ?_
                      refine m_getr (1000) 10 (1010) hx hb hts hown hE oc10 hM hJ.1 rfl (by decide) rfl (hJ.2 10 (by decide)).2 (by decide) tb_1187 dX10_goes_257 ?_
                      refine lv_iload hx hb dX10_goes_260 (lv_at hl 1 rfl) ?_
                      refine m_iald (1010) hx hb hE hM (hJ.2 10 (by decide)).1 rfl (vp_in_iff.mpr (by omega)) dX10_goes_262 ?_
                      have z171 : (u2 (u2 (u2 (u2 Ia13 (1000) 55 (v4)) (1000) 53 (v27)) (1049) ((v19).toNatClampNeg) (Ia13 (1049) ((v19).toNatClampNeg))) (1050) ((r35).toNatClampNeg) (v151)) (1010) (Ia13 (1006) ((v19).toNatClampNeg)).toNatClampNeg = Ia13 (1010) ((Ia13 (1006) ((v19).toNatClampNeg)).toNatClampNeg) := (show (u2 (u2 (u2 (u2 Ia13 (1000) 55 (v4)) (1000) 53 (v27)) (1049) ((v19).toNatClampNeg) (Ia13 (1049) ((v19).toNatClampNeg))) (1050) ((r35).toNatClampNeg) (v151)) (1010) ((Ia13 (1006) ((v19).toNatClampNeg)).toNatClampNeg) = Ia13 (1010) ((Ia13 (1006) ((v19).toNatClampNeg)).toNatClampNeg) from by simp [u2_v])
                      rw [z171]
                      refine lv_aload_n hx hb dX10_goes_263 rfl (lv_at hl 8 rfl) ?_
                      refine m_getr (1000) 14 (1014) hx hb hts hown hE oc10 hM hJ.1 rfl (by decide) rfl (hJ.2 14 (by decide)).2 (by decide) tb_1191 dX10_goes_264 ?_
                      refine lv_iload hx hb dX10_goes_267 (lv_at hl 1 rfl) ?_
                      refine m_iald (1014) hx hb hE hM (hJ.2 14 (by decide)).1 rfl (vp_in_iff.mpr (by omega)) dX10_goes_269 ?_
                      have z172 : (u2 (u2 (u2 (u2 Ia13 (1000) 55 (v4)) (1000) 53 (v27)) (1049) ((v19).toNatClampNeg) (Ia13 (1049) ((v19).toNatClampNeg))) (1050) ((r35).toNatClampNeg) (v151)) (1014) (Ia13 (1006) ((v19).toNatClampNeg)).toNatClampNeg = Ia13 (1014) ((Ia13 (1006) ((v19).toNatClampNeg)).toNatClampNeg) := (show (u2 (u2 (u2 (u2 Ia13 (1000) 55 (v4)) (1000) 53 (v27)) (1049) ((v19).toNatClampNeg) (Ia13 (1049) ((v19).toNatClampNeg))) (1050) ((r35).toNatClampNeg) (v151)) (1014) ((Ia13 (1006) ((v19).toNatClampNeg)).toNatClampNeg) = Ia13 (1014) ((Ia13 (1006) ((v19).toNatClampNeg)).toNatClampNeg) from by simp [u2_v])
                      rw [z172]
                      refine lv_iadd hx hb dX10_goes_270 ?_
                      refine lv_topi (fun v173 ev173 => ?_)
                      have tv173 := a_add ev173 (by omega) (by omega)
                      refine lv_sipush (v := (1000)) hx hb dX10_goes_271 (by decide) ?_
                      refine lv_icmp_le (tgt := 283) hx hb dX10_goes_274 (by decide) (fun c174 => ?_) (fun c174 => ?_)
                      · have hc174 := c174
                        have q174 := q_le hc174
                        refine lv_aload_n hx hb dX10_goes_283 rfl (lv_at hl 8 rfl) ?_
                        refine m_getr (1000) 10 (1010) hx hb hts hown hE oc10 hM hJ.1 rfl (by decide) rfl (hJ.2 10 (by decide)).2 (by decide) tb_1187 dX10_goes_284 ?_
                        refine lv_iload hx hb dX10_goes_287 (lv_at hl 1 rfl) ?_
                        refine m_iald (1010) hx hb hE hM (hJ.2 10 (by decide)).1 rfl (vp_in_iff.mpr (by omega)) dX10_goes_289 ?_
                        have z175 : (u2 (u2 (u2 (u2 Ia13 (1000) 55 (v4)) (1000) 53 (v27)) (1049) ((v19).toNatClampNeg) (Ia13 (1049) ((v19).toNatClampNeg))) (1050) ((r35).toNatClampNeg) (v151)) (1010) (Ia13 (1006) ((v19).toNatClampNeg)).toNatClampNeg = Ia13 (1010) ((Ia13 (1006) ((v19).toNatClampNeg)).toNatClampNeg) := (show (u2 (u2 (u2 (u2 Ia13 (1000) 55 (v4)) (1000) 53 (v27)) (1049) ((v19).toNatClampNeg) (Ia13 (1049) ((v19).toNatClampNeg))) (1050) ((r35).toNatClampNeg) (v151)) (1010) ((Ia13 (1006) ((v19).toNatClampNeg)).toNatClampNeg) = Ia13 (1010) ((Ia13 (1006) ((v19).toNatClampNeg)).toNatClampNeg) from by simp [u2_v])
                        rw [z175]
                        refine lv_aload_n hx hb dX10_goes_290 rfl (lv_at hl 8 rfl) ?_
                        refine m_getr (1000) 14 (1014) hx hb hts hown hE oc10 hM hJ.1 rfl (by decide) rfl (hJ.2 14 (by decide)).2 (by decide) tb_1191 dX10_goes_291 ?_
                        refine lv_iload hx hb dX10_goes_294 (lv_at hl 1 rfl) ?_
                        refine m_iald (1014) hx hb hE hM (hJ.2 14 (by decide)).1 rfl (vp_in_iff.mpr (by omega)) dX10_goes_296 ?_
                        have z176 : (u2 (u2 (u2 (u2 Ia13 (1000) 55 (v4)) (1000) 53 (v27)) (1049) ((v19).toNatClampNeg) (Ia13 (1049) ((v19).toNatClampNeg))) (1050) ((r35).toNatClampNeg) (v151)) (1014) (Ia13 (1006) ((v19).toNatClampNeg)).toNatClampNeg = Ia13 (1014) ((Ia13 (1006) ((v19).toNatClampNeg)).toNatClampNeg) := (show (u2 (u2 (u2 (u2 Ia13 (1000) 55 (v4)) (1000) 53 (v27)) (1049) ((v19).toNatClampNeg) (Ia13 (1049) ((v19).toNatClampNeg))) (1050) ((r35).toNatClampNeg) (v151)) (1014) ((Ia13 (1006) ((v19).toNatClampNeg)).toNatClampNeg) = Ia13 (1014) ((Ia13 (1006) ((v19).toNatClampNeg)).toNatClampNeg) from by simp [u2_v])
                        rw [z176]
                        refine lv_iadd hx hb dX10_goes_297 ?_
                        refine lv_topi (fun v177 ev177 => ?_)
                        have tv177 := a_add ev177 (by omega) (by omega)
                        refine lv_istore (lv' := [(13, .int (v177)), (8, .int (r170)), (12, .int (Ia13 (1006) ((v19).toNatClampNeg))), (10, .int (v149)), (11, .int (r35)), (9, .int (v19)), (7, .int (x7_13)), (6, .int (x6_13)), (5, .int (x5_13)), (0, .ref (ad (1000))), (1, .int (a0)), (2, .int (a1)), (3, .int (a2)), (4, .int (a3))]) hx hb dX10_goes_298 hl (by decide) rfl (fun ls hl => ?_)
                        have hdu : v177 = lsT (twM Ia13) (Ia13 (1006) ((v19).toNatClampNeg)).toNatClampNeg := lsT_le ev177 (by omega)
                        have hdl : 0 ≤ (v177 : Int32).toInt ∧ (v177 : Int32).toInt ≤ 1000 := by rw [hdu]; exact lsT_r hr1 hr2
                        have htl : r170 = cellL (twM Ia13) x5_13 x6_13 x8_13 := xr170.trans hcL
                        refine lv_iload hx hb dX10_goes_300 (lv_at hl 1 rfl) ?_
                        refine lv_i2l hx hb dX10_goes_302 rfl ?_
                        refine lv_topl (fun v178 ev178 => ?_)
                        have tv178 := q_i2l ev178
                        refine lv_iload hx hb dX10_goes_303 (lv_at hl 0 rfl) ?_
                        refine lv_i2l hx hb dX10_goes_305 rfl ?_
                        refine lv_topl (fun v179 ev179 => ?_)
                        have tv179 := q_i2l ev179
                        refine lv_lmul hx hb dX10_goes_306 ?_
                        refine lv_topl (fun v180 ev180 => ?_)
                        refine lv_ldc2 (v := (1000)) hx hb hown (hts _ tb_1428) dX10_goes_307 ?_
                        refine lv_ldiv hx hb dX10_goes_310 (by decide) ?_
                        refine lv_topl (fun v181 ev181 => ?_)
                        refine lv_l2i hx hb dX10_goes_311 rfl ?_
                        refine lv_topi (fun v182 ev182 => ?_)
                        have shv182 : v182 = shr (r170) (v177) := shr_l ev178 ev179 ev180 ev181 ev182 (by omega) hdl
                        have sbv182 := shr_b (s := r170) (t := v177) (by omega) hdl
                        rw [← shv182] at sbv182
                        refine lv_istore (lv' := [(10, .int (v182)), (13, .int (v177)), (8, .int (r170)), (12, .int (Ia13 (1006) ((v19).toNatClampNeg))), (11, .int (r35)), (9, .int (v19)), (7, .int (x7_13)), (6, .int (x6_13)), (5, .int (x5_13)), (0, .ref (ad (1000))), (1, .int (a0)), (2, .int (a1)), (3, .int (a2)), (4, .int (a3))]) hx hb dX10_goes_312 hl (by decide) rfl (fun ls hl => ?_)
                        refine lv_aload_n hx hb dX10_goes_314 rfl (lv_at hl 9 rfl) ?_
                        refine lv_dup hx hb dX10_goes_315 rfl ?_
                        refine m_geti (1000) 53 hx hb hts hown hE oc10 hM hJ.1 rfl (by decide) rfl tb_1230 dX10_goes_316 ?_
                        have z183 : (u2 (u2 (u2 (u2 Ia13 (1000) 55 (v4)) (1000) 53 (v27)) (1049) ((v19).toNatClampNeg) (Ia13 (1049) ((v19).toNatClampNeg))) (1050) ((r35).toNatClampNeg) (v151)) (1000) 53 = v27 := (show (u2 (u2 (u2 (u2 Ia13 (1000) 55 (v4)) (1000) 53 (v27)) (1049) ((v19).toNatClampNeg) (Ia13 (1049) ((v19).toNatClampNeg))) (1050) ((r35).toNatClampNeg) (v151)) (1000) 53 = v27 from by simp [u2_v])
                        rw [z183]
                        refine lv_iload hx hb dX10_goes_319 (lv_at hl 0 rfl) ?_
                        refine lv_iadd hx hb dX10_goes_321 ?_
                        refine lv_topi (fun v184 ev184 => ?_)
                        refine m_puti (1000) 53 hx hb hts hown hE oc10 hM hS hJ.1 rfl (by decide) rfl rfl rfl rfl tb_1230 dX10_goes_322 (fun H locs I185 eI185 hM hS => ?_)
                        subst eI185
                        have hI := hI.putF (n := 1000) (k := 53) (v := v184) rfl
                        have hK := hK.put (n := 1000) (k := 53) (v := v184) (by first | rfl | simp [inR])
                        refine lv_iload hx hb dX10_goes_325 (lv_at hl 2 rfl) ?_
                        refine lv_iload hx hb dX10_goes_327 (lv_at hl 0 rfl) ?_
                        refine lv_isub hx hb dX10_goes_329 ?_
                        refine lv_topi (fun v186 ev186 => ?_)
                        have tv186 := a_sub ev186 (by omega) (by omega)
                        refine lv_istore (lv' := [(8, .int (v186)), (10, .int (v182)), (13, .int (v177)), (12, .int (Ia13 (1006) ((v19).toNatClampNeg))), (11, .int (r35)), (9, .int (v19)), (7, .int (x7_13)), (6, .int (x6_13)), (5, .int (x5_13)), (0, .ref (ad (1000))), (1, .int (a0)), (2, .int (a1)), (3, .int (a2)), (4, .int (a3))]) hx hb dX10_goes_330 hl (by decide) rfl (fun ls hl => ?_)
                        refine lv_iload hx hb dX10_goes_332 (lv_at hl 0 rfl) ?_
                        refine lv_i2l hx hb dX10_goes_334 rfl ?_
                        refine lv_topl (fun v187 ev187 => ?_)
                        have tv187 := q_i2l ev187
                        refine lv_aload_n hx hb dX10_goes_335 rfl (lv_at hl 9 rfl) ?_
                        refine m_getr (1000) 11 (1011) hx hb hts hown hE oc10 hM hJ.1 rfl (by decide) rfl (hJ.2 11 (by decide)).2 (by decide) tb_1188 dX10_goes_336 ?_
                        refine lv_iload hx hb dX10_goes_339 (lv_at hl 3 rfl) ?_
                        refine m_iald (1011) hx hb hE hM (hJ.2 11 (by decide)).1 rfl (vp_in_iff.mpr (by omega)) dX10_goes_341 ?_
                        have z188 : (u2 (u2 (u2 (u2 (u2 Ia13 (1000) 55 (v4)) (1000) 53 (v27)) (1049) ((v19).toNatClampNeg) (Ia13 (1049) ((v19).toNatClampNeg))) (1050) ((r35).toNatClampNeg) (v151)) (1000) 53 (v184)) (1011) (Ia13 (1006) ((v19).toNatClampNeg)).toNatClampNeg = Ia13 (1011) ((Ia13 (1006) ((v19).toNatClampNeg)).toNatClampNeg) := (show (u2 (u2 (u2 (u2 (u2 Ia13 (1000) 55 (v4)) (1000) 53 (v27)) (1049) ((v19).toNatClampNeg) (Ia13 (1049) ((v19).toNatClampNeg))) (1050) ((r35).toNatClampNeg) (v151)) (1000) 53 (v184)) (1011) ((Ia13 (1006) ((v19).toNatClampNeg)).toNatClampNeg) = Ia13 (1011) ((Ia13 (1006) ((v19).toNatClampNeg)).toNatClampNeg) from by simp [u2_v])
                        rw [z188]
                        refine lv_i2l hx hb dX10_goes_342 rfl ?_
                        refine lv_topl (fun v189 ev189 => ?_)
                        have tv189 := q_i2l ev189
                        refine lv_lmul hx hb dX10_goes_343 ?_
                        refine lv_topl (fun v190 ev190 => ?_)
                        refine lv_ldc2 (v := (1000)) hx hb hown (hts _ tb_1428) dX10_goes_344 ?_
                        refine lv_ldiv hx hb dX10_goes_347 (by decide) ?_
                        refine lv_topl (fun v191 ev191 => ?_)
                        refine lv_l2i hx hb dX10_goes_348 rfl ?_
                        refine lv_topi (fun v192 ev192 => ?_)
                        have shv192 : v192 = shr (v186) (Ia13 (1011) ((Ia13 (1006) ((v19).toNatClampNeg)).toNatClampNeg)) := shr_l ev187 ev189 ev190 ev191 ev192 (by omega) hth
                        have sbv192 := shr_b (s := v186) (t := Ia13 (1011) ((Ia13 (1006) ((v19).toNatClampNeg)).toNatClampNeg)) (by omega) hth
                        rw [← shv192] at sbv192
                        refine lv_istore (lv' := [(14, .int (v192)), (8, .int (v186)), (10, .int (v182)), (13, .int (v177)), (12, .int (Ia13 (1006) ((v19).toNatClampNeg))), (11, .int (r35)), (9, .int (v19)), (7, .int (x7_13)), (6, .int (x6_13)), (5, .int (x5_13)), (0, .ref (ad (1000))), (1, .int (a0)), (2, .int (a1)), (3, .int (a2)), (4, .int (a3))]) hx hb dX10_goes_349 hl (by decide) rfl (fun ls hl => ?_)
                        refine lv_iload hx hb dX10_goes_351 (lv_at hl 1 rfl) ?_
                        refine lv_iload hx hb dX10_goes_353 (lv_at hl 0 rfl) ?_
                        refine lv_isub hx hb dX10_goes_355 ?_
                        refine lv_topi (fun v193 ev193 => ?_)
                        have tv193 := a_sub ev193 (by omega) (by omega)
                        refine lv_istore (lv' := [(8, .int (v193)), (14, .int (v192)), (10, .int (v182)), (13, .int (v177)), (12, .int (Ia13 (1006) ((v19).toNatClampNeg))), (11, .int (r35)), (9, .int (v19)), (7, .int (x7_13)), (6, .int (x6_13)), (5, .int (x5_13)), (0, .ref (ad (1000))), (1, .int (a0)), (2, .int (a1)), (3, .int (a2)), (4, .int (a3))]) hx hb dX10_goes_356 hl (by decide) rfl (fun ls hl => ?_)
                        have hG : v182 = mirG (twM Ia13) (Ia13 (1006) ((v19).toNatClampNeg)) (r170) := by rw [shv182, hdu]; rfl
                        have hon : v192 = mirT (twM Ia13) (Ia13 (1006) ((v19).toNatClampNeg)) (r170) := by rw [shv192, ev186, hG]; rfl
                        have hL3 : v193 = mirL (twM Ia13) (Ia13 (1006) ((v19).toNatClampNeg)) (r170) := by rw [ev193, hon, ev186, hG]; rfl
                        refine lv_iload hx hb dX10_goes_358 (lv_at hl 1 rfl) ?_
                        refine lv_if_le (tgt := 387) hx hb dX10_goes_360 (by decide) (fun c194 => ?_) (fun c194 => ?_)
                        · have hc194 := c194
                          have q194 := q_le hc194
                          refine lv_aload_n hx hb dX10_goes_387 rfl (lv_at hl 10 rfl) ?_
                          refine m_getr (1000) 9 (1009) hx hb hts hown hE oc10 hM hJ.1 rfl (by decide) rfl (hJ.2 9 (by decide)).2 (by decide) tb_1186 dX10_goes_388 ?_
                          refine lv_iload hx hb dX10_goes_391 (lv_at hl 4 rfl) ?_
                          refine m_iald (1009) hx hb hE hM (hJ.2 9 (by decide)).1 rfl (vp_in_iff.mpr (by omega)) dX10_goes_393 ?_
                          have z195 : (u2 (u2 (u2 (u2 (u2 Ia13 (1000) 55 (v4)) (1000) 53 (v27)) (1049) ((v19).toNatClampNeg) (Ia13 (1049) ((v19).toNatClampNeg))) (1050) ((r35).toNatClampNeg) (v151)) (1000) 53 (v184)) (1009) (Ia13 (1006) ((v19).toNatClampNeg)).toNatClampNeg = Ia13 (1009) ((Ia13 (1006) ((v19).toNatClampNeg)).toNatClampNeg) := (show (u2 (u2 (u2 (u2 (u2 Ia13 (1000) 55 (v4)) (1000) 53 (v27)) (1049) ((v19).toNatClampNeg) (Ia13 (1049) ((v19).toNatClampNeg))) (1050) ((r35).toNatClampNeg) (v151)) (1000) 53 (v184)) (1009) ((Ia13 (1006) ((v19).toNatClampNeg)).toNatClampNeg) = Ia13 (1009) ((Ia13 (1006) ((v19).toNatClampNeg)).toNatClampNeg) from by simp [u2_v])
                          rw [z195]
                          refine lv_iload hx hb dX10_goes_394 (lv_at hl 7 rfl) ?_
                          refine lv_isub hx hb dX10_goes_396 ?_
                          refine lv_topi (fun v196 ev196 => ?_)
                          have tv196 := a_sub ev196 (by omega) (by omega)
                          refine lv_bipush (v := (8)) hx hb dX10_goes_397 (by decide) ?_
                          refine lv_iadd hx hb dX10_goes_399 ?_
                          refine lv_topi (fun v197 ev197 => ?_)
                          have tv197 := a_add ev197 (by omega) (by omega)
                          refine lv_bipush (v := (8)) hx hb dX10_goes_400 (by decide) ?_
                          refine lv_irem hx hb dX10_goes_402 (by decide) ?_
                          refine lv_topi (fun v198 ev198 => ?_)
                          have tv198 := a_rem (c := 8) ev198 (by decide) (by decide) (by omega)
                          refine lv_istore (lv' := [(7, .int (v198)), (8, .int (v193)), (14, .int (v192)), (10, .int (v182)), (13, .int (v177)), (12, .int (Ia13 (1006) ((v19).toNatClampNeg))), (11, .int (r35)), (9, .int (v19)), (6, .int (x6_13)), (5, .int (x5_13)), (0, .ref (ad (1000))), (1, .int (a0)), (2, .int (a1)), (3, .int (a2)), (4, .int (a3))]) hx hb dX10_goes_403 hl (by decide) rfl (fun ls hl => ?_)
                          refine lv_iload hx hb dX10_goes_405 (lv_at hl 9 rfl) ?_
                          refine lv_iload hx hb dX10_goes_407 (lv_at hl 0 rfl) ?_
                          have tw199 : twM (u2 (u2 (u2 (u2 (u2 Ia13 (1000) 55 (v4)) (1000) 53 (v27)) (1049) ((v19).toNatClampNeg) (Ia13 (1049) ((v19).toNatClampNeg))) (1050) ((r35).toNatClampNeg) (v151)) (1000) 53 (v184)) = twM I := twM_kp hK rfl
                          refine m_calli (m_runS (As := [.int (v198)]) (rest := [.int (x5_13)]) hx hb hml hown hts hE hM hS hA ce_X10_stepX tb_1660 (V_X10_stepX_l l D A ad ns (u2 (u2 (u2 (u2 (u2 Ia13 (1000) 55 (v4)) (1000) 53 (v27)) (1049) ((v19).toNatClampNeg) (Ia13 (1049) ((v19).toNatClampNeg))) (1050) ((r35).toNatClampNeg) (v151)) (1000) 53 (v184)) La13 G (v198) hI (by first | omega | decide)) rfl rfl ⟨Nat.le_of_ble_eq_true rfl, Nat.le_of_ble_eq_true rfl⟩  rfl hl.1 rfl (Nat.le_of_ble_eq_true rfl) dX10_goes_409 ⟨Nat.le_of_ble_eq_true rfl, Nat.le_of_ble_eq_true rfl⟩) hS (fun r200 u H locs hw hM hS => ?_)
                          obtain ⟨rfl, xr200⟩ := hw
                          have hM : Mem D A ad ns (u2 (u2 (u2 (u2 (u2 Ia13 (1000) 55 (v4)) (1000) 53 (v27)) (1049) ((v19).toNatClampNeg) (Ia13 (1049) ((v19).toNatClampNeg))) (1050) ((r35).toNatClampNeg) (v151)) (1000) 53 (v184)) La13 G H := hM
                          refine lv_iadd hx hb dX10_goes_412 ?_
                          refine lv_topi (fun v201 ev201 => ?_)
                          have tv201 := a_add ev201 (by omega) (by omega)
                          refine lv_istore (lv' := [(5, .int (v201)), (7, .int (v198)), (8, .int (v193)), (14, .int (v192)), (10, .int (v182)), (13, .int (v177)), (12, .int (Ia13 (1006) ((v19).toNatClampNeg))), (11, .int (r35)), (9, .int (v19)), (6, .int (x6_13)), (0, .ref (ad (1000))), (1, .int (a0)), (2, .int (a1)), (3, .int (a2)), (4, .int (a3))]) hx hb dX10_goes_413 hl (by decide) rfl (fun ls hl => ?_)
                          refine lv_iload hx hb dX10_goes_415 (lv_at hl 9 rfl) ?_
                          refine lv_iload hx hb dX10_goes_417 (lv_at hl 1 rfl) ?_
                          refine m_calli (m_runS (As := [.int (v198)]) (rest := [.int (x6_13)]) hx hb hml hown hts hE hM hS hA ce_X10_stepY tb_1663 (V_X10_stepY_l l D A ad ns (u2 (u2 (u2 (u2 (u2 Ia13 (1000) 55 (v4)) (1000) 53 (v27)) (1049) ((v19).toNatClampNeg) (Ia13 (1049) ((v19).toNatClampNeg))) (1050) ((r35).toNatClampNeg) (v151)) (1000) 53 (v184)) La13 G (v198) hI (by first | omega | decide)) rfl rfl ⟨Nat.le_of_ble_eq_true rfl, Nat.le_of_ble_eq_true rfl⟩  rfl hl.1 rfl (Nat.le_of_ble_eq_true rfl) dX10_goes_419 ⟨Nat.le_of_ble_eq_true rfl, Nat.le_of_ble_eq_true rfl⟩) hS (fun r202 u H locs hw hM hS => ?_)
                          obtain ⟨rfl, xr202⟩ := hw
                          have hM : Mem D A ad ns (u2 (u2 (u2 (u2 (u2 Ia13 (1000) 55 (v4)) (1000) 53 (v27)) (1049) ((v19).toNatClampNeg) (Ia13 (1049) ((v19).toNatClampNeg))) (1050) ((r35).toNatClampNeg) (v151)) (1000) 53 (v184)) La13 G H := hM
                          refine lv_iadd hx hb dX10_goes_422 ?_
                          refine lv_topi (fun v203 ev203 => ?_)
                          have tv203 := a_add ev203 (by omega) (by omega)
                          refine lv_istore (lv' := [(6, .int (v203)), (5, .int (v201)), (7, .int (v198)), (8, .int (v193)), (14, .int (v192)), (10, .int (v182)), (13, .int (v177)), (12, .int (Ia13 (1006) ((v19).toNatClampNeg))), (11, .int (r35)), (9, .int (v19)), (0, .ref (ad (1000))), (1, .int (a0)), (2, .int (a1)), (3, .int (a2)), (4, .int (a3))]) hx hb dX10_goes_423 hl (by decide) rfl (fun ls hl => ?_)
                          refine lv_goto (tgt := 13) hx hb dX10_goes_425 (by decide) ?_
                          have tr100055 : ((u2 (u2 (u2 (u2 (u2 Ia13 (1000) 55 (v4)) (1000) 53 (v27)) (1049) ((v19).toNatClampNeg) (Ia13 (1049) ((v19).toNatClampNeg))) (1050) ((r35).toNatClampNeg) (v151)) (1000) 53 (v184)) (1000) 55).toInt = (v4 : Int32).toInt := congrArg Int32.toInt ((show (u2 (u2 (u2 (u2 (u2 Ia13 (1000) 55 (v4)) (1000) 53 (v27)) (1049) ((v19).toNatClampNeg) (Ia13 (1049) ((v19).toNatClampNeg))) (1050) ((r35).toNatClampNeg) (v151)) (1000) 53 (v184)) (1000) 55 = v4 from by simp [u2_v]))
                          have tr100052 : ((u2 (u2 (u2 (u2 (u2 Ia13 (1000) 55 (v4)) (1000) 53 (v27)) (1049) ((v19).toNatClampNeg) (Ia13 (1049) ((v19).toNatClampNeg))) (1050) ((r35).toNatClampNeg) (v151)) (1000) 53 (v184)) (1000) 52).toInt = (Ia13 (1000) 52 : Int32).toInt := congrArg Int32.toInt ((show (u2 (u2 (u2 (u2 (u2 Ia13 (1000) 55 (v4)) (1000) 53 (v27)) (1049) ((v19).toNatClampNeg) (Ia13 (1049) ((v19).toNatClampNeg))) (1050) ((r35).toNatClampNeg) (v151)) (1000) 53 (v184)) (1000) 52 = Ia13 (1000) 52 from by simp [u2_v]))
                          have h55n : ((u2 (u2 (u2 (u2 (u2 Ia13 (1000) 55 (v4)) (1000) 53 (v27)) (1049) ((v19).toNatClampNeg) (Ia13 (1049) ((v19).toNatClampNeg))) (1050) ((r35).toNatClampNeg) (v151)) (1000) 53 (v184)) (1000) 55).toInt = (v4 : Int32).toInt := congrArg Int32.toInt ((show (u2 (u2 (u2 (u2 (u2 Ia13 (1000) 55 (v4)) (1000) 53 (v27)) (1049) ((v19).toNatClampNeg) (Ia13 (1049) ((v19).toNatClampNeg))) (1050) ((r35).toNatClampNeg) (v151)) (1000) 53 (v184)) (1000) 55 = v4 from by simp [u2_v]))
                          have h53 : v184 = (u2 (u2 (u2 (u2 Ia13 (1000) 55 (v4)) (1000) 53 (v27)) (1049) ((v19).toNatClampNeg) (Ia13 (1049) ((v19).toNatClampNeg))) (1050) ((r35).toNatClampNeg) (v151)) 1000 53 + mirG (twM Ia13) (Ia13 (1006) ((v19).toNatClampNeg)) (r170) := by rw [← hG, ev184]; simp [u2_v]
                          have hMI : MIM (twM Ia13) (Ia13 (1006) ((v19).toNatClampNeg)) x5_13 x6_13 x7_13 (r170) (u2 (u2 (u2 (u2 Ia13 (1000) 55 (v4)) (1000) 53 (v27)) (1049) ((v19).toNatClampNeg) (Ia13 (1049) ((v19).toNatClampNeg))) (1050) ((r35).toNatClampNeg) (v151)) (u2 (u2 (u2 (u2 (u2 Ia13 (1000) 55 (v4)) (1000) 53 (v27)) (1049) ((v19).toNatClampNeg) (Ia13 (1049) ((v19).toNatClampNeg))) (1050) ((r35).toNatClampNeg) (v151)) (1000) 53 (v184)) := by rw [h53]; exact MIM.n (by rw [← hon]; omega)
                          exact ih13 (v193) (v198) (v203) (v201) (u2 (u2 (u2 (u2 (u2 Ia13 (1000) 55 (v4)) (1000) 53 (v27)) (1049) ((v19).toNatClampNeg) (Ia13 (1049) ((v19).toNatClampNeg))) (1050) ((r35).toNatClampNeg) (v151)) (1000) 53 (v184)) La13 _ _ ls hI hK (by first | omega | decide) (by first | omega | decide) (by omega) (by rw [← tw13]; exact FXM.step hF13 (by omega) (by omega) (by omega) (by omega) hop (STM.y hcS hym hmv htl hMI) (by unfold stpW; rw [if_pos hym, ← hmv]; exact and7 (a := Ia13 1009 (Ia13 (1006) ((v19).toNatClampNeg)).toNatClampNeg) hr4 (by omega) (by omega)) (by unfold stpL; rw [if_pos hym, ← hmv, ← htl]; exact hL3) (by rw [ev201, xr200.1]) (by rw [ev203, xr202.1])) (by omega) hM hS (lv_sub hl [3, 2, 0, 1, 10, 11, 12, 13, 14] rfl)
                        · have hc194 := c194
                          have q194 := q_nle hc194
                          refine lv_aload_n hx hb dX10_goes_363 rfl (lv_at hl 10 rfl) ?_
                          refine lv_iload hx hb dX10_goes_364 (lv_at hl 9 rfl) ?_
                          refine lv_iload hx hb dX10_goes_366 (lv_at hl 7 rfl) ?_
                          have tw204 : twM (u2 (u2 (u2 (u2 (u2 Ia13 (1000) 55 (v4)) (1000) 53 (v27)) (1049) ((v19).toNatClampNeg) (Ia13 (1049) ((v19).toNatClampNeg))) (1050) ((r35).toNatClampNeg) (v151)) (1000) 53 (v184)) = twM I := twM_kp hK rfl
                          refine m_calli (m_runS (As := [.int (x7_13)]) (rest := [.int (x5_13), .ref (ad (1000))]) hx hb hml hown hts hE hM hS hA ce_X10_stepX tb_1660 (V_X10_stepX_l l D A ad ns (u2 (u2 (u2 (u2 (u2 Ia13 (1000) 55 (v4)) (1000) 53 (v27)) (1049) ((v19).toNatClampNeg) (Ia13 (1049) ((v19).toNatClampNeg))) (1050) ((r35).toNatClampNeg) (v151)) (1000) 53 (v184)) La13 G (x7_13) hI (by first | omega | decide)) rfl rfl ⟨Nat.le_of_ble_eq_true rfl, Nat.le_of_ble_eq_true rfl⟩  rfl hl.1 rfl (Nat.le_of_ble_eq_true rfl) dX10_goes_368 ⟨Nat.le_of_ble_eq_true rfl, Nat.le_of_ble_eq_true rfl⟩) hS (fun r205 u H locs hw hM hS => ?_)
                          obtain ⟨rfl, xr205⟩ := hw
                          have hM : Mem D A ad ns (u2 (u2 (u2 (u2 (u2 Ia13 (1000) 55 (v4)) (1000) 53 (v27)) (1049) ((v19).toNatClampNeg) (Ia13 (1049) ((v19).toNatClampNeg))) (1050) ((r35).toNatClampNeg) (v151)) (1000) 53 (v184)) La13 G H := hM
                          refine lv_iadd hx hb dX10_goes_371 ?_
                          refine lv_topi (fun v206 ev206 => ?_)
                          have tv206 := a_add ev206 (by omega) (by omega)
                          refine lv_iload hx hb dX10_goes_372 (lv_at hl 8 rfl) ?_
                          refine lv_iload hx hb dX10_goes_374 (lv_at hl 7 rfl) ?_
                          refine m_calli (m_runS (As := [.int (x7_13)]) (rest := [.int (x6_13), .int (v206), .ref (ad (1000))]) hx hb hml hown hts hE hM hS hA ce_X10_stepY tb_1663 (V_X10_stepY_l l D A ad ns (u2 (u2 (u2 (u2 (u2 Ia13 (1000) 55 (v4)) (1000) 53 (v27)) (1049) ((v19).toNatClampNeg) (Ia13 (1049) ((v19).toNatClampNeg))) (1050) ((r35).toNatClampNeg) (v151)) (1000) 53 (v184)) La13 G (x7_13) hI (by first | omega | decide)) rfl rfl ⟨Nat.le_of_ble_eq_true rfl, Nat.le_of_ble_eq_true rfl⟩  rfl hl.1 rfl (Nat.le_of_ble_eq_true rfl) dX10_goes_376 ⟨Nat.le_of_ble_eq_true rfl, Nat.le_of_ble_eq_true rfl⟩) hS (fun r207 u H locs hw hM hS => ?_)
                          obtain ⟨rfl, xr207⟩ := hw
                          have hM : Mem D A ad ns (u2 (u2 (u2 (u2 (u2 Ia13 (1000) 55 (v4)) (1000) 53 (v27)) (1049) ((v19).toNatClampNeg) (Ia13 (1049) ((v19).toNatClampNeg))) (1050) ((r35).toNatClampNeg) (v151)) (1000) 53 (v184)) La13 G H := hM
                          refine lv_iadd hx hb dX10_goes_379 ?_
                          refine lv_topi (fun v208 ev208 => ?_)
                          have tv208 := a_add ev208 (by omega) (by omega)
                          refine lv_iload hx hb dX10_goes_380 (lv_at hl 7 rfl) ?_
                          refine lv_iload hx hb dX10_goes_382 (lv_at hl 1 rfl) ?_
                          refine m_callv (m_runV (1000) (As := [.int (v206), .int (v208), .int (x7_13), .int (v192)]) (rest := []) hx hb hml hown hts hE hM hS hA ce_X10_waitsFor tb_1666 (V_X10_waitsFor_l l D A ad ns (u2 (u2 (u2 (u2 (u2 Ia13 (1000) 55 (v4)) (1000) 53 (v27)) (1049) ((v19).toNatClampNeg) (Ia13 (1049) ((v19).toNatClampNeg))) (1050) ((r35).toNatClampNeg) (v151)) (1000) 53 (v184)) La13 G (v206) (v208) (x7_13) (v192) hJ hI (by first | omega | decide) (by first | omega | decide)) rfl rfl ⟨Nat.le_of_ble_eq_true rfl, Nat.le_of_ble_eq_true rfl⟩ hJ.1 rfl rfl (by decide) rfl hl.1 rfl (Nat.le_of_ble_eq_true rfl) dX10_goes_384 ⟨Nat.le_of_ble_eq_true rfl, Nat.le_of_ble_eq_true rfl⟩) hS (fun u H locs hw hM hS => ?_)
                          obtain ⟨I209, L210, rfl, hI, hkI209, xI209⟩ := hw
                          have hM : Mem D A ad ns I209 L210 G H := hM
                          have hK := hK.trans hkI209 rfl
                          have pw211 : ((u2 (u2 (u2 (u2 (u2 Ia13 (1000) 55 (v4)) (1000) 53 (v27)) (1049) ((v19).toNatClampNeg) (Ia13 (1049) ((v19).toNatClampNeg))) (1050) ((r35).toNatClampNeg) (v151)) (1000) 53 (v184)) (1000) 52).toInt = (Ia13 (1000) 52 : Int32).toInt := congrArg Int32.toInt ((show (u2 (u2 (u2 (u2 (u2 Ia13 (1000) 55 (v4)) (1000) 53 (v27)) (1049) ((v19).toNatClampNeg) (Ia13 (1049) ((v19).toNatClampNeg))) (1050) ((r35).toNatClampNeg) (v151)) (1000) 53 (v184)) (1000) 52 = Ia13 (1000) 52 from by simp [u2_v]))
                          refine lv_aload_n hx hb dX10_goes_387 rfl (lv_at hl 10 rfl) ?_
                          refine m_getr (1000) 9 (1009) hx hb hts hown hE oc10 hM hJ.1 rfl (by decide) rfl (hJ.2 9 (by decide)).2 (by decide) tb_1186 dX10_goes_388 ?_
                          refine lv_iload hx hb dX10_goes_391 (lv_at hl 4 rfl) ?_
                          refine m_iald (1009) hx hb hE hM (hJ.2 9 (by decide)).1 rfl (vp_in_iff.mpr (by omega)) dX10_goes_393 ?_
                          have z212 : I209 (1009) (Ia13 (1006) ((v19).toNatClampNeg)).toNatClampNeg = Ia13 (1009) ((Ia13 (1006) ((v19).toNatClampNeg)).toNatClampNeg) := ((congrFun (hkI209.getA (1009) rfl) ((Ia13 (1006) ((v19).toNatClampNeg)).toNatClampNeg))).trans (show (u2 (u2 (u2 (u2 (u2 Ia13 (1000) 55 (v4)) (1000) 53 (v27)) (1049) ((v19).toNatClampNeg) (Ia13 (1049) ((v19).toNatClampNeg))) (1050) ((r35).toNatClampNeg) (v151)) (1000) 53 (v184)) (1009) ((Ia13 (1006) ((v19).toNatClampNeg)).toNatClampNeg) = Ia13 (1009) ((Ia13 (1006) ((v19).toNatClampNeg)).toNatClampNeg) from by simp [u2_v])
                          rw [z212]
                          refine lv_iload hx hb dX10_goes_394 (lv_at hl 7 rfl) ?_
                          refine lv_isub hx hb dX10_goes_396 ?_
                          refine lv_topi (fun v213 ev213 => ?_)
                          have tv213 := a_sub ev213 (by omega) (by omega)
                          refine lv_bipush (v := (8)) hx hb dX10_goes_397 (by decide) ?_
                          refine lv_iadd hx hb dX10_goes_399 ?_
                          refine lv_topi (fun v214 ev214 => ?_)
                          have tv214 := a_add ev214 (by omega) (by omega)
                          refine lv_bipush (v := (8)) hx hb dX10_goes_400 (by decide) ?_
                          refine lv_irem hx hb dX10_goes_402 (by decide) ?_
                          refine lv_topi (fun v215 ev215 => ?_)
                          have tv215 := a_rem (c := 8) ev215 (by decide) (by decide) (by omega)
                          refine lv_istore (lv' := [(7, .int (v215)), (8, .int (v193)), (14, .int (v192)), (10, .int (v182)), (13, .int (v177)), (12, .int (Ia13 (1006) ((v19).toNatClampNeg))), (11, .int (r35)), (9, .int (v19)), (6, .int (x6_13)), (5, .int (x5_13)), (0, .ref (ad (1000))), (1, .int (a0)), (2, .int (a1)), (3, .int (a2)), (4, .int (a3))]) hx hb dX10_goes_403 hl (by decide) rfl (fun ls hl => ?_)
                          refine lv_iload hx hb dX10_goes_405 (lv_at hl 9 rfl) ?_
                          refine lv_iload hx hb dX10_goes_407 (lv_at hl 0 rfl) ?_
                          have tw216 : twM I209 = twM I := twM_kp hK rfl
                          refine m_calli (m_runS (As := [.int (v215)]) (rest := [.int (x5_13)]) hx hb hml hown hts hE hM hS hA ce_X10_stepX tb_1660 (V_X10_stepX_l l D A ad ns I209 L210 G (v215) hI (by first | omega | decide)) rfl rfl ⟨Nat.le_of_ble_eq_true rfl, Nat.le_of_ble_eq_true rfl⟩  rfl hl.1 rfl (Nat.le_of_ble_eq_true rfl) dX10_goes_409 ⟨Nat.le_of_ble_eq_true rfl, Nat.le_of_ble_eq_true rfl⟩) hS (fun r217 u H locs hw hM hS => ?_)
                          obtain ⟨rfl, xr217⟩ := hw
                          have hM : Mem D A ad ns I209 L210 G H := hM
                          refine lv_iadd hx hb dX10_goes_412 ?_
                          refine lv_topi (fun v218 ev218 => ?_)
                          have tv218 := a_add ev218 (by omega) (by omega)
                          refine lv_istore (lv' := [(5, .int (v218)), (7, .int (v215)), (8, .int (v193)), (14, .int (v192)), (10, .int (v182)), (13, .int (v177)), (12, .int (Ia13 (1006) ((v19).toNatClampNeg))), (11, .int (r35)), (9, .int (v19)), (6, .int (x6_13)), (0, .ref (ad (1000))), (1, .int (a0)), (2, .int (a1)), (3, .int (a2)), (4, .int (a3))]) hx hb dX10_goes_413 hl (by decide) rfl (fun ls hl => ?_)
                          refine lv_iload hx hb dX10_goes_415 (lv_at hl 9 rfl) ?_
                          refine lv_iload hx hb dX10_goes_417 (lv_at hl 1 rfl) ?_
                          refine m_calli (m_runS (As := [.int (v215)]) (rest := [.int (x6_13)]) hx hb hml hown hts hE hM hS hA ce_X10_stepY tb_1663 (V_X10_stepY_l l D A ad ns I209 L210 G (v215) hI (by first | omega | decide)) rfl rfl ⟨Nat.le_of_ble_eq_true rfl, Nat.le_of_ble_eq_true rfl⟩  rfl hl.1 rfl (Nat.le_of_ble_eq_true rfl) dX10_goes_419 ⟨Nat.le_of_ble_eq_true rfl, Nat.le_of_ble_eq_true rfl⟩) hS (fun r219 u H locs hw hM hS => ?_)
                          obtain ⟨rfl, xr219⟩ := hw
                          have hM : Mem D A ad ns I209 L210 G H := hM
                          refine lv_iadd hx hb dX10_goes_422 ?_
                          refine lv_topi (fun v220 ev220 => ?_)
                          have tv220 := a_add ev220 (by omega) (by omega)
                          refine lv_istore (lv' := [(6, .int (v220)), (5, .int (v218)), (7, .int (v215)), (8, .int (v193)), (14, .int (v192)), (10, .int (v182)), (13, .int (v177)), (12, .int (Ia13 (1006) ((v19).toNatClampNeg))), (11, .int (r35)), (9, .int (v19)), (0, .ref (ad (1000))), (1, .int (a0)), (2, .int (a1)), (3, .int (a2)), (4, .int (a3))]) hx hb dX10_goes_423 hl (by decide) rfl (fun ls hl => ?_)
                          refine lv_goto (tgt := 13) hx hb dX10_goes_425 (by decide) ?_
                          have tr100055 : (I209 (1000) 55).toInt = (v4 : Int32).toInt := congrArg Int32.toInt (((hkI209.get (1000) 55 rfl)).trans (show (u2 (u2 (u2 (u2 (u2 Ia13 (1000) 55 (v4)) (1000) 53 (v27)) (1049) ((v19).toNatClampNeg) (Ia13 (1049) ((v19).toNatClampNeg))) (1050) ((r35).toNatClampNeg) (v151)) (1000) 53 (v184)) (1000) 55 = v4 from by simp [u2_v]))
                          have h55n : (I209 (1000) 55).toInt = (v4 : Int32).toInt := congrArg Int32.toInt (((hkI209.get (1000) 55 rfl)).trans (show (u2 (u2 (u2 (u2 (u2 Ia13 (1000) 55 (v4)) (1000) 53 (v27)) (1049) ((v19).toNatClampNeg) (Ia13 (1049) ((v19).toNatClampNeg))) (1050) ((r35).toNatClampNeg) (v151)) (1000) 53 (v184)) (1000) 55 = v4 from by simp [u2_v]))
                          have h53 : v184 = (u2 (u2 (u2 (u2 Ia13 (1000) 55 (v4)) (1000) 53 (v27)) (1049) ((v19).toNatClampNeg) (Ia13 (1049) ((v19).toNatClampNeg))) (1050) ((r35).toNatClampNeg) (v151)) 1000 53 + mirG (twM Ia13) (Ia13 (1006) ((v19).toNatClampNeg)) (r170) := by rw [← hG, ev184]; simp [u2_v]
                          have hMI : MIM (twM Ia13) (Ia13 (1006) ((v19).toNatClampNeg)) x5_13 x6_13 x7_13 (r170) (u2 (u2 (u2 (u2 Ia13 (1000) 55 (v4)) (1000) 53 (v27)) (1049) ((v19).toNatClampNeg) (Ia13 (1049) ((v19).toNatClampNeg))) (1050) ((r35).toNatClampNeg) (v151)) I209 := by
                            refine MIM.y (by rw [← hon]; omega) ?_
                            rw [← h53, ← hon, show x5_13 + sX x7_13 = v206 from by rw [ev206, xr205.1], show x6_13 + sY x7_13 = v208 from by rw [ev208, xr207.1]]
                            exact xI209.2
                          exact ih13 (v193) (v215) (v220) (v218) I209 L210 _ _ ls hI hK (by first | omega | decide) (by first | omega | decide) (by omega) (by rw [← tw13]; exact FXM.step hF13 (by omega) (by omega) (by omega) (by omega) hop (STM.y hcS hym hmv htl hMI) (by unfold stpW; rw [if_pos hym, ← hmv]; exact and7 (a := Ia13 1009 (Ia13 (1006) ((v19).toNatClampNeg)).toNatClampNeg) hr4 (by omega) (by omega)) (by unfold stpL; rw [if_pos hym, ← hmv, ← htl]; exact hL3) (by rw [ev218, xr217.1]) (by rw [ev220, xr219.1])) (by omega) hM hS (lv_sub hl [3, 2, 0, 1, 10, 11, 12, 13, 14] rfl)
                      · have hc174 := c174
                        have q174 := q_nle hc174
                        refine lv_sipush (v := (1000)) hx hb dX10_goes_277 (by decide) ?_
                        refine lv_goto (tgt := 298) hx hb dX10_goes_280 (by decide) ?_
                        refine lv_istore (lv' := [(13, .int (1000)), (8, .int (r170)), (12, .int (Ia13 (1006) ((v19).toNatClampNeg))), (10, .int (v149)), (11, .int (r35)), (9, .int (v19)), (7, .int (x7_13)), (6, .int (x6_13)), (5, .int (x5_13)), (0, .ref (ad (1000))), (1, .int (a0)), (2, .int (a1)), (3, .int (a2)), (4, .int (a3))]) hx hb dX10_goes_298 hl (by decide) rfl (fun ls hl => ?_)
                        have hdu : (1000 : Int32) = lsT (twM Ia13) (Ia13 (1006) ((v19).toNatClampNeg)).toNatClampNeg := lsT_gt ev173 (by omega)
                        have hdl : 0 ≤ (1000 : Int32).toInt ∧ (1000 : Int32).toInt ≤ 1000 := by rw [hdu]; exact lsT_r hr1 hr2
                        have htl : r170 = cellL (twM Ia13) x5_13 x6_13 x8_13 := xr170.trans hcL
                        refine lv_iload hx hb dX10_goes_300 (lv_at hl 1 rfl) ?_
                        refine lv_i2l hx hb dX10_goes_302 rfl ?_
                        refine lv_topl (fun v221 ev221 => ?_)
                        have tv221 := q_i2l ev221
                        refine lv_iload hx hb dX10_goes_303 (lv_at hl 0 rfl) ?_
                        refine lv_i2l hx hb dX10_goes_305 rfl ?_
                        refine lv_topl (fun v222 ev222 => ?_)
                        have tv222 := q_i2l ev222
                        refine lv_lmul hx hb dX10_goes_306 ?_
                        refine lv_topl (fun v223 ev223 => ?_)
                        refine lv_ldc2 (v := (1000)) hx hb hown (hts _ tb_1428) dX10_goes_307 ?_
                        refine lv_ldiv hx hb dX10_goes_310 (by decide) ?_
                        refine lv_topl (fun v224 ev224 => ?_)
                        refine lv_l2i hx hb dX10_goes_311 rfl ?_
                        refine lv_topi (fun v225 ev225 => ?_)
                        have shv225 : v225 = shr (r170) (1000) := shr_l ev221 ev222 ev223 ev224 ev225 (by omega) hdl
                        have sbv225 := shr_b (s := r170) (t := 1000) (by omega) hdl
                        rw [← shv225] at sbv225
                        refine lv_istore (lv' := [(10, .int (v225)), (13, .int (1000)), (8, .int (r170)), (12, .int (Ia13 (1006) ((v19).toNatClampNeg))), (11, .int (r35)), (9, .int (v19)), (7, .int (x7_13)), (6, .int (x6_13)), (5, .int (x5_13)), (0, .ref (ad (1000))), (1, .int (a0)), (2, .int (a1)), (3, .int (a2)), (4, .int (a3))]) hx hb dX10_goes_312 hl (by decide) rfl (fun ls hl => ?_)
                        refine lv_aload_n hx hb dX10_goes_314 rfl (lv_at hl 9 rfl) ?_
                        refine lv_dup hx hb dX10_goes_315 rfl ?_
                        refine m_geti (1000) 53 hx hb hts hown hE oc10 hM hJ.1 rfl (by decide) rfl tb_1230 dX10_goes_316 ?_
                        have z226 : (u2 (u2 (u2 (u2 Ia13 (1000) 55 (v4)) (1000) 53 (v27)) (1049) ((v19).toNatClampNeg) (Ia13 (1049) ((v19).toNatClampNeg))) (1050) ((r35).toNatClampNeg) (v151)) (1000) 53 = v27 := (show (u2 (u2 (u2 (u2 Ia13 (1000) 55 (v4)) (1000) 53 (v27)) (1049) ((v19).toNatClampNeg) (Ia13 (1049) ((v19).toNatClampNeg))) (1050) ((r35).toNatClampNeg) (v151)) (1000) 53 = v27 from by simp [u2_v])
                        rw [z226]
                        refine lv_iload hx hb dX10_goes_319 (lv_at hl 0 rfl) ?_
                        refine lv_iadd hx hb dX10_goes_321 ?_
                        refine lv_topi (fun v227 ev227 => ?_)
                        refine m_puti (1000) 53 hx hb hts hown hE oc10 hM hS hJ.1 rfl (by decide) rfl rfl rfl rfl tb_1230 dX10_goes_322 (fun H locs I228 eI228 hM hS => ?_)
                        subst eI228
                        have hI := hI.putF (n := 1000) (k := 53) (v := v227) rfl
                        have hK := hK.put (n := 1000) (k := 53) (v := v227) (by first | rfl | simp [inR])
                        refine lv_iload hx hb dX10_goes_325 (lv_at hl 2 rfl) ?_
                        refine lv_iload hx hb dX10_goes_327 (lv_at hl 0 rfl) ?_
                        refine lv_isub hx hb dX10_goes_329 ?_
                        refine lv_topi (fun v229 ev229 => ?_)
                        have tv229 := a_sub ev229 (by omega) (by omega)
                        refine lv_istore (lv' := [(8, .int (v229)), (10, .int (v225)), (13, .int (1000)), (12, .int (Ia13 (1006) ((v19).toNatClampNeg))), (11, .int (r35)), (9, .int (v19)), (7, .int (x7_13)), (6, .int (x6_13)), (5, .int (x5_13)), (0, .ref (ad (1000))), (1, .int (a0)), (2, .int (a1)), (3, .int (a2)), (4, .int (a3))]) hx hb dX10_goes_330 hl (by decide) rfl (fun ls hl => ?_)
                        refine lv_iload hx hb dX10_goes_332 (lv_at hl 0 rfl) ?_
                        refine lv_i2l hx hb dX10_goes_334 rfl ?_
                        refine lv_topl (fun v230 ev230 => ?_)
                        have tv230 := q_i2l ev230
                        refine lv_aload_n hx hb dX10_goes_335 rfl (lv_at hl 9 rfl) ?_
                        refine m_getr (1000) 11 (1011) hx hb hts hown hE oc10 hM hJ.1 rfl (by decide) rfl (hJ.2 11 (by decide)).2 (by decide) tb_1188 dX10_goes_336 ?_
                        refine lv_iload hx hb dX10_goes_339 (lv_at hl 3 rfl) ?_
                        refine m_iald (1011) hx hb hE hM (hJ.2 11 (by decide)).1 rfl (vp_in_iff.mpr (by omega)) dX10_goes_341 ?_
                        have z231 : (u2 (u2 (u2 (u2 (u2 Ia13 (1000) 55 (v4)) (1000) 53 (v27)) (1049) ((v19).toNatClampNeg) (Ia13 (1049) ((v19).toNatClampNeg))) (1050) ((r35).toNatClampNeg) (v151)) (1000) 53 (v227)) (1011) (Ia13 (1006) ((v19).toNatClampNeg)).toNatClampNeg = Ia13 (1011) ((Ia13 (1006) ((v19).toNatClampNeg)).toNatClampNeg) := (show (u2 (u2 (u2 (u2 (u2 Ia13 (1000) 55 (v4)) (1000) 53 (v27)) (1049) ((v19).toNatClampNeg) (Ia13 (1049) ((v19).toNatClampNeg))) (1050) ((r35).toNatClampNeg) (v151)) (1000) 53 (v227)) (1011) ((Ia13 (1006) ((v19).toNatClampNeg)).toNatClampNeg) = Ia13 (1011) ((Ia13 (1006) ((v19).toNatClampNeg)).toNatClampNeg) from by simp [u2_v])
                        rw [z231]
                        refine lv_i2l hx hb dX10_goes_342 rfl ?_
                        refine lv_topl (fun v232 ev232 => ?_)
                        have tv232 := q_i2l ev232
                        refine lv_lmul hx hb dX10_goes_343 ?_
                        refine lv_topl (fun v233 ev233 => ?_)
                        refine lv_ldc2 (v := (1000)) hx hb hown (hts _ tb_1428) dX10_goes_344 ?_
                        refine lv_ldiv hx hb dX10_goes_347 (by decide) ?_
                        refine lv_topl (fun v234 ev234 => ?_)
                        refine lv_l2i hx hb dX10_goes_348 rfl ?_
                        refine lv_topi (fun v235 ev235 => ?_)
                        have shv235 : v235 = shr (v229) (Ia13 (1011) ((Ia13 (1006) ((v19).toNatClampNeg)).toNatClampNeg)) := shr_l ev230 ev232 ev233 ev234 ev235 (by omega) hth
                        have sbv235 := shr_b (s := v229) (t := Ia13 (1011) ((Ia13 (1006) ((v19).toNatClampNeg)).toNatClampNeg)) (by omega) hth
                        rw [← shv235] at sbv235
                        refine lv_istore (lv' := [(14, .int (v235)), (8, .int (v229)), (10, .int (v225)), (13, .int (1000)), (12, .int (Ia13 (1006) ((v19).toNatClampNeg))), (11, .int (r35)), (9, .int (v19)), (7, .int (x7_13)), (6, .int (x6_13)), (5, .int (x5_13)), (0, .ref (ad (1000))), (1, .int (a0)), (2, .int (a1)), (3, .int (a2)), (4, .int (a3))]) hx hb dX10_goes_349 hl (by decide) rfl (fun ls hl => ?_)
                        refine lv_iload hx hb dX10_goes_351 (lv_at hl 1 rfl) ?_
                        refine lv_iload hx hb dX10_goes_353 (lv_at hl 0 rfl) ?_
                        refine lv_isub hx hb dX10_goes_355 ?_
                        refine lv_topi (fun v236 ev236 => ?_)
                        have tv236 := a_sub ev236 (by omega) (by omega)
                        refine lv_istore (lv' := [(8, .int (v236)), (14, .int (v235)), (10, .int (v225)), (13, .int (1000)), (12, .int (Ia13 (1006) ((v19).toNatClampNeg))), (11, .int (r35)), (9, .int (v19)), (7, .int (x7_13)), (6, .int (x6_13)), (5, .int (x5_13)), (0, .ref (ad (1000))), (1, .int (a0)), (2, .int (a1)), (3, .int (a2)), (4, .int (a3))]) hx hb dX10_goes_356 hl (by decide) rfl (fun ls hl => ?_)
                        have hG : v225 = mirG (twM Ia13) (Ia13 (1006) ((v19).toNatClampNeg)) (r170) := by rw [shv225, hdu]; rfl
                        have hon : v235 = mirT (twM Ia13) (Ia13 (1006) ((v19).toNatClampNeg)) (r170) := by rw [shv235, ev229, hG]; rfl
                        have hL3 : v236 = mirL (twM Ia13) (Ia13 (1006) ((v19).toNatClampNeg)) (r170) := by rw [ev236, hon, ev229, hG]; rfl
                        refine lv_iload hx hb dX10_goes_358 (lv_at hl 1 rfl) ?_
                        refine lv_if_le (tgt := 387) hx hb dX10_goes_360 (by decide) (fun c237 => ?_) (fun c237 => ?_)
                        · have hc237 := c237
                          have q237 := q_le hc237
                          refine lv_aload_n hx hb dX10_goes_387 rfl (lv_at hl 10 rfl) ?_
                          refine m_getr (1000) 9 (1009) hx hb hts hown hE oc10 hM hJ.1 rfl (by decide) rfl (hJ.2 9 (by decide)).2 (by decide) tb_1186 dX10_goes_388 ?_
                          refine lv_iload hx hb dX10_goes_391 (lv_at hl 4 rfl) ?_
                          refine m_iald (1009) hx hb hE hM (hJ.2 9 (by decide)).1 rfl (vp_in_iff.mpr (by omega)) dX10_goes_393 ?_
                          have z238 : (u2 (u2 (u2 (u2 (u2 Ia13 (1000) 55 (v4)) (1000) 53 (v27)) (1049) ((v19).toNatClampNeg) (Ia13 (1049) ((v19).toNatClampNeg))) (1050) ((r35).toNatClampNeg) (v151)) (1000) 53 (v227)) (1009) (Ia13 (1006) ((v19).toNatClampNeg)).toNatClampNeg = Ia13 (1009) ((Ia13 (1006) ((v19).toNatClampNeg)).toNatClampNeg) := (show (u2 (u2 (u2 (u2 (u2 Ia13 (1000) 55 (v4)) (1000) 53 (v27)) (1049) ((v19).toNatClampNeg) (Ia13 (1049) ((v19).toNatClampNeg))) (1050) ((r35).toNatClampNeg) (v151)) (1000) 53 (v227)) (1009) ((Ia13 (1006) ((v19).toNatClampNeg)).toNatClampNeg) = Ia13 (1009) ((Ia13 (1006) ((v19).toNatClampNeg)).toNatClampNeg) from by simp [u2_v])
                          rw [z238]
                          refine lv_iload hx hb dX10_goes_394 (lv_at hl 7 rfl) ?_
                          refine lv_isub hx hb dX10_goes_396 ?_
                          refine lv_topi (fun v239 ev239 => ?_)
                          have tv239 := a_sub ev239 (by omega) (by omega)
                          refine lv_bipush (v := (8)) hx hb dX10_goes_397 (by decide) ?_
                          refine lv_iadd hx hb dX10_goes_399 ?_
                          refine lv_topi (fun v240 ev240 => ?_)
                          have tv240 := a_add ev240 (by omega) (by omega)
                          refine lv_bipush (v := (8)) hx hb dX10_goes_400 (by decide) ?_
                          refine lv_irem hx hb dX10_goes_402 (by decide) ?_
                          refine lv_topi (fun v241 ev241 => ?_)
                          have tv241 := a_rem (c := 8) ev241 (by decide) (by decide) (by omega)
                          refine lv_istore (lv' := [(7, .int (v241)), (8, .int (v236)), (14, .int (v235)), (10, .int (v225)), (13, .int (1000)), (12, .int (Ia13 (1006) ((v19).toNatClampNeg))), (11, .int (r35)), (9, .int (v19)), (6, .int (x6_13)), (5, .int (x5_13)), (0, .ref (ad (1000))), (1, .int (a0)), (2, .int (a1)), (3, .int (a2)), (4, .int (a3))]) hx hb dX10_goes_403 hl (by decide) rfl (fun ls hl => ?_)
                          refine lv_iload hx hb dX10_goes_405 (lv_at hl 9 rfl) ?_
                          refine lv_iload hx hb dX10_goes_407 (lv_at hl 0 rfl) ?_
                          have tw242 : twM (u2 (u2 (u2 (u2 (u2 Ia13 (1000) 55 (v4)) (1000) 53 (v27)) (1049) ((v19).toNatClampNeg) (Ia13 (1049) ((v19).toNatClampNeg))) (1050) ((r35).toNatClampNeg) (v151)) (1000) 53 (v227)) = twM I := twM_kp hK rfl
                          refine m_calli (m_runS (As := [.int (v241)]) (rest := [.int (x5_13)]) hx hb hml hown hts hE hM hS hA ce_X10_stepX tb_1660 (V_X10_stepX_l l D A ad ns (u2 (u2 (u2 (u2 (u2 Ia13 (1000) 55 (v4)) (1000) 53 (v27)) (1049) ((v19).toNatClampNeg) (Ia13 (1049) ((v19).toNatClampNeg))) (1050) ((r35).toNatClampNeg) (v151)) (1000) 53 (v227)) La13 G (v241) hI (by first | omega | decide)) rfl rfl ⟨Nat.le_of_ble_eq_true rfl, Nat.le_of_ble_eq_true rfl⟩  rfl hl.1 rfl (Nat.le_of_ble_eq_true rfl) dX10_goes_409 ⟨Nat.le_of_ble_eq_true rfl, Nat.le_of_ble_eq_true rfl⟩) hS (fun r243 u H locs hw hM hS => ?_)
                          obtain ⟨rfl, xr243⟩ := hw
                          have hM : Mem D A ad ns (u2 (u2 (u2 (u2 (u2 Ia13 (1000) 55 (v4)) (1000) 53 (v27)) (1049) ((v19).toNatClampNeg) (Ia13 (1049) ((v19).toNatClampNeg))) (1050) ((r35).toNatClampNeg) (v151)) (1000) 53 (v227)) La13 G H := hM
                          refine lv_iadd hx hb dX10_goes_412 ?_
                          refine lv_topi (fun v244 ev244 => ?_)
                          have tv244 := a_add ev244 (by omega) (by omega)
                          refine lv_istore (lv' := [(5, .int (v244)), (7, .int (v241)), (8, .int (v236)), (14, .int (v235)), (10, .int (v225)), (13, .int (1000)), (12, .int (Ia13 (1006) ((v19).toNatClampNeg))), (11, .int (r35)), (9, .int (v19)), (6, .int (x6_13)), (0, .ref (ad (1000))), (1, .int (a0)), (2, .int (a1)), (3, .int (a2)), (4, .int (a3))]) hx hb dX10_goes_413 hl (by decide) rfl (fun ls hl => ?_)
                          refine lv_iload hx hb dX10_goes_415 (lv_at hl 9 rfl) ?_
                          refine lv_iload hx hb dX10_goes_417 (lv_at hl 1 rfl) ?_
                          refine m_calli (m_runS (As := [.int (v241)]) (rest := [.int (x6_13)]) hx hb hml hown hts hE hM hS hA ce_X10_stepY tb_1663 (V_X10_stepY_l l D A ad ns (u2 (u2 (u2 (u2 (u2 Ia13 (1000) 55 (v4)) (1000) 53 (v27)) (1049) ((v19).toNatClampNeg) (Ia13 (1049) ((v19).toNatClampNeg))) (1050) ((r35).toNatClampNeg) (v151)) (1000) 53 (v227)) La13 G (v241) hI (by first | omega | decide)) rfl rfl ⟨Nat.le_of_ble_eq_true rfl, Nat.le_of_ble_eq_true rfl⟩  rfl hl.1 rfl (Nat.le_of_ble_eq_true rfl) dX10_goes_419 ⟨Nat.le_of_ble_eq_true rfl, Nat.le_of_ble_eq_true rfl⟩) hS (fun r245 u H locs hw hM hS => ?_)
                          obtain ⟨rfl, xr245⟩ := hw
                          have hM : Mem D A ad ns (u2 (u2 (u2 (u2 (u2 Ia13 (1000) 55 (v4)) (1000) 53 (v27)) (1049) ((v19).toNatClampNeg) (Ia13 (1049) ((v19).toNatClampNeg))) (1050) ((r35).toNatClampNeg) (v151)) (1000) 53 (v227)) La13 G H := hM
                          refine lv_iadd hx hb dX10_goes_422 ?_
                          refine lv_topi (fun v246 ev246 => ?_)
                          have tv246 := a_add ev246 (by omega) (by omega)
                          refine lv_istore (lv' := [(6, .int (v246)), (5, .int (v244)), (7, .int (v241)), (8, .int (v236)), (14, .int (v235)), (10, .int (v225)), (13, .int (1000)), (12, .int (Ia13 (1006) ((v19).toNatClampNeg))), (11, .int (r35)), (9, .int (v19)), (0, .ref (ad (1000))), (1, .int (a0)), (2, .int (a1)), (3, .int (a2)), (4, .int (a3))]) hx hb dX10_goes_423 hl (by decide) rfl (fun ls hl => ?_)
                          refine lv_goto (tgt := 13) hx hb dX10_goes_425 (by decide) ?_
                          have tr100055 : ((u2 (u2 (u2 (u2 (u2 Ia13 (1000) 55 (v4)) (1000) 53 (v27)) (1049) ((v19).toNatClampNeg) (Ia13 (1049) ((v19).toNatClampNeg))) (1050) ((r35).toNatClampNeg) (v151)) (1000) 53 (v227)) (1000) 55).toInt = (v4 : Int32).toInt := congrArg Int32.toInt ((show (u2 (u2 (u2 (u2 (u2 Ia13 (1000) 55 (v4)) (1000) 53 (v27)) (1049) ((v19).toNatClampNeg) (Ia13 (1049) ((v19).toNatClampNeg))) (1050) ((r35).toNatClampNeg) (v151)) (1000) 53 (v227)) (1000) 55 = v4 from by simp [u2_v]))
                          have tr100052 : ((u2 (u2 (u2 (u2 (u2 Ia13 (1000) 55 (v4)) (1000) 53 (v27)) (1049) ((v19).toNatClampNeg) (Ia13 (1049) ((v19).toNatClampNeg))) (1050) ((r35).toNatClampNeg) (v151)) (1000) 53 (v227)) (1000) 52).toInt = (Ia13 (1000) 52 : Int32).toInt := congrArg Int32.toInt ((show (u2 (u2 (u2 (u2 (u2 Ia13 (1000) 55 (v4)) (1000) 53 (v27)) (1049) ((v19).toNatClampNeg) (Ia13 (1049) ((v19).toNatClampNeg))) (1050) ((r35).toNatClampNeg) (v151)) (1000) 53 (v227)) (1000) 52 = Ia13 (1000) 52 from by simp [u2_v]))
                          have h55n : ((u2 (u2 (u2 (u2 (u2 Ia13 (1000) 55 (v4)) (1000) 53 (v27)) (1049) ((v19).toNatClampNeg) (Ia13 (1049) ((v19).toNatClampNeg))) (1050) ((r35).toNatClampNeg) (v151)) (1000) 53 (v227)) (1000) 55).toInt = (v4 : Int32).toInt := congrArg Int32.toInt ((show (u2 (u2 (u2 (u2 (u2 Ia13 (1000) 55 (v4)) (1000) 53 (v27)) (1049) ((v19).toNatClampNeg) (Ia13 (1049) ((v19).toNatClampNeg))) (1050) ((r35).toNatClampNeg) (v151)) (1000) 53 (v227)) (1000) 55 = v4 from by simp [u2_v]))
                          have h53 : v227 = (u2 (u2 (u2 (u2 Ia13 (1000) 55 (v4)) (1000) 53 (v27)) (1049) ((v19).toNatClampNeg) (Ia13 (1049) ((v19).toNatClampNeg))) (1050) ((r35).toNatClampNeg) (v151)) 1000 53 + mirG (twM Ia13) (Ia13 (1006) ((v19).toNatClampNeg)) (r170) := by rw [← hG, ev227]; simp [u2_v]
                          have hMI : MIM (twM Ia13) (Ia13 (1006) ((v19).toNatClampNeg)) x5_13 x6_13 x7_13 (r170) (u2 (u2 (u2 (u2 Ia13 (1000) 55 (v4)) (1000) 53 (v27)) (1049) ((v19).toNatClampNeg) (Ia13 (1049) ((v19).toNatClampNeg))) (1050) ((r35).toNatClampNeg) (v151)) (u2 (u2 (u2 (u2 (u2 Ia13 (1000) 55 (v4)) (1000) 53 (v27)) (1049) ((v19).toNatClampNeg) (Ia13 (1049) ((v19).toNatClampNeg))) (1050) ((r35).toNatClampNeg) (v151)) (1000) 53 (v227)) := by rw [h53]; exact MIM.n (by rw [← hon]; omega)
                          exact ih13 (v236) (v241) (v246) (v244) (u2 (u2 (u2 (u2 (u2 Ia13 (1000) 55 (v4)) (1000) 53 (v27)) (1049) ((v19).toNatClampNeg) (Ia13 (1049) ((v19).toNatClampNeg))) (1050) ((r35).toNatClampNeg) (v151)) (1000) 53 (v227)) La13 _ _ ls hI hK (by first | omega | decide) (by first | omega | decide) (by omega) (by rw [← tw13]; exact FXM.step hF13 (by omega) (by omega) (by omega) (by omega) hop (STM.y hcS hym hmv htl hMI) (by unfold stpW; rw [if_pos hym, ← hmv]; exact and7 (a := Ia13 1009 (Ia13 (1006) ((v19).toNatClampNeg)).toNatClampNeg) hr4 (by omega) (by omega)) (by unfold stpL; rw [if_pos hym, ← hmv, ← htl]; exact hL3) (by rw [ev244, xr243.1]) (by rw [ev246, xr245.1])) (by omega) hM hS (lv_sub hl [3, 2, 0, 1, 10, 11, 12, 13, 14] rfl)
                        · have hc237 := c237
                          have q237 := q_nle hc237
                          refine lv_aload_n hx hb dX10_goes_363 rfl (lv_at hl 10 rfl) ?_
                          refine lv_iload hx hb dX10_goes_364 (lv_at hl 9 rfl) ?_
                          refine lv_iload hx hb dX10_goes_366 (lv_at hl 7 rfl) ?_
                          have tw247 : twM (u2 (u2 (u2 (u2 (u2 Ia13 (1000) 55 (v4)) (1000) 53 (v27)) (1049) ((v19).toNatClampNeg) (Ia13 (1049) ((v19).toNatClampNeg))) (1050) ((r35).toNatClampNeg) (v151)) (1000) 53 (v227)) = twM I := twM_kp hK rfl
                          refine m_calli (m_runS (As := [.int (x7_13)]) (rest := [.int (x5_13), .ref (ad (1000))]) hx hb hml hown hts hE hM hS hA ce_X10_stepX tb_1660 (V_X10_stepX_l l D A ad ns (u2 (u2 (u2 (u2 (u2 Ia13 (1000) 55 (v4)) (1000) 53 (v27)) (1049) ((v19).toNatClampNeg) (Ia13 (1049) ((v19).toNatClampNeg))) (1050) ((r35).toNatClampNeg) (v151)) (1000) 53 (v227)) La13 G (x7_13) hI (by first | omega | decide)) rfl rfl ⟨Nat.le_of_ble_eq_true rfl, Nat.le_of_ble_eq_true rfl⟩  rfl hl.1 rfl (Nat.le_of_ble_eq_true rfl) dX10_goes_368 ⟨Nat.le_of_ble_eq_true rfl, Nat.le_of_ble_eq_true rfl⟩) hS (fun r248 u H locs hw hM hS => ?_)
                          obtain ⟨rfl, xr248⟩ := hw
                          have hM : Mem D A ad ns (u2 (u2 (u2 (u2 (u2 Ia13 (1000) 55 (v4)) (1000) 53 (v27)) (1049) ((v19).toNatClampNeg) (Ia13 (1049) ((v19).toNatClampNeg))) (1050) ((r35).toNatClampNeg) (v151)) (1000) 53 (v227)) La13 G H := hM
                          refine lv_iadd hx hb dX10_goes_371 ?_
                          refine lv_topi (fun v249 ev249 => ?_)
                          have tv249 := a_add ev249 (by omega) (by omega)
                          refine lv_iload hx hb dX10_goes_372 (lv_at hl 8 rfl) ?_
                          refine lv_iload hx hb dX10_goes_374 (lv_at hl 7 rfl) ?_
                          refine m_calli (m_runS (As := [.int (x7_13)]) (rest := [.int (x6_13), .int (v249), .ref (ad (1000))]) hx hb hml hown hts hE hM hS hA ce_X10_stepY tb_1663 (V_X10_stepY_l l D A ad ns (u2 (u2 (u2 (u2 (u2 Ia13 (1000) 55 (v4)) (1000) 53 (v27)) (1049) ((v19).toNatClampNeg) (Ia13 (1049) ((v19).toNatClampNeg))) (1050) ((r35).toNatClampNeg) (v151)) (1000) 53 (v227)) La13 G (x7_13) hI (by first | omega | decide)) rfl rfl ⟨Nat.le_of_ble_eq_true rfl, Nat.le_of_ble_eq_true rfl⟩  rfl hl.1 rfl (Nat.le_of_ble_eq_true rfl) dX10_goes_376 ⟨Nat.le_of_ble_eq_true rfl, Nat.le_of_ble_eq_true rfl⟩) hS (fun r250 u H locs hw hM hS => ?_)
                          obtain ⟨rfl, xr250⟩ := hw
                          have hM : Mem D A ad ns (u2 (u2 (u2 (u2 (u2 Ia13 (1000) 55 (v4)) (1000) 53 (v27)) (1049) ((v19).toNatClampNeg) (Ia13 (1049) ((v19).toNatClampNeg))) (1050) ((r35).toNatClampNeg) (v151)) (1000) 53 (v227)) La13 G H := hM
                          refine lv_iadd hx hb dX10_goes_379 ?_
                          refine lv_topi (fun v251 ev251 => ?_)
                          have tv251 := a_add ev251 (by omega) (by omega)
                          refine lv_iload hx hb dX10_goes_380 (lv_at hl 7 rfl) ?_
                          refine lv_iload hx hb dX10_goes_382 (lv_at hl 1 rfl) ?_
                          refine m_callv (m_runV (1000) (As := [.int (v249), .int (v251), .int (x7_13), .int (v235)]) (rest := []) hx hb hml hown hts hE hM hS hA ce_X10_waitsFor tb_1666 (V_X10_waitsFor_l l D A ad ns (u2 (u2 (u2 (u2 (u2 Ia13 (1000) 55 (v4)) (1000) 53 (v27)) (1049) ((v19).toNatClampNeg) (Ia13 (1049) ((v19).toNatClampNeg))) (1050) ((r35).toNatClampNeg) (v151)) (1000) 53 (v227)) La13 G (v249) (v251) (x7_13) (v235) hJ hI (by first | omega | decide) (by first | omega | decide)) rfl rfl ⟨Nat.le_of_ble_eq_true rfl, Nat.le_of_ble_eq_true rfl⟩ hJ.1 rfl rfl (by decide) rfl hl.1 rfl (Nat.le_of_ble_eq_true rfl) dX10_goes_384 ⟨Nat.le_of_ble_eq_true rfl, Nat.le_of_ble_eq_true rfl⟩) hS (fun u H locs hw hM hS => ?_)
                          obtain ⟨I252, L253, rfl, hI, hkI252, xI252⟩ := hw
                          have hM : Mem D A ad ns I252 L253 G H := hM
                          have hK := hK.trans hkI252 rfl
                          have pw254 : ((u2 (u2 (u2 (u2 (u2 Ia13 (1000) 55 (v4)) (1000) 53 (v27)) (1049) ((v19).toNatClampNeg) (Ia13 (1049) ((v19).toNatClampNeg))) (1050) ((r35).toNatClampNeg) (v151)) (1000) 53 (v227)) (1000) 52).toInt = (Ia13 (1000) 52 : Int32).toInt := congrArg Int32.toInt ((show (u2 (u2 (u2 (u2 (u2 Ia13 (1000) 55 (v4)) (1000) 53 (v27)) (1049) ((v19).toNatClampNeg) (Ia13 (1049) ((v19).toNatClampNeg))) (1050) ((r35).toNatClampNeg) (v151)) (1000) 53 (v227)) (1000) 52 = Ia13 (1000) 52 from by simp [u2_v]))
                          refine lv_aload_n hx hb dX10_goes_387 rfl (lv_at hl 10 rfl) ?_
                          refine m_getr (1000) 9 (1009) hx hb hts hown hE oc10 hM hJ.1 rfl (by decide) rfl (hJ.2 9 (by decide)).2 (by decide) tb_1186 dX10_goes_388 ?_
                          refine lv_iload hx hb dX10_goes_391 (lv_at hl 4 rfl) ?_
                          refine m_iald (1009) hx hb hE hM (hJ.2 9 (by decide)).1 rfl (vp_in_iff.mpr (by omega)) dX10_goes_393 ?_
                          have z255 : I252 (1009) (Ia13 (1006) ((v19).toNatClampNeg)).toNatClampNeg = Ia13 (1009) ((Ia13 (1006) ((v19).toNatClampNeg)).toNatClampNeg) := ((congrFun (hkI252.getA (1009) rfl) ((Ia13 (1006) ((v19).toNatClampNeg)).toNatClampNeg))).trans (show (u2 (u2 (u2 (u2 (u2 Ia13 (1000) 55 (v4)) (1000) 53 (v27)) (1049) ((v19).toNatClampNeg) (Ia13 (1049) ((v19).toNatClampNeg))) (1050) ((r35).toNatClampNeg) (v151)) (1000) 53 (v227)) (1009) ((Ia13 (1006) ((v19).toNatClampNeg)).toNatClampNeg) = Ia13 (1009) ((Ia13 (1006) ((v19).toNatClampNeg)).toNatClampNeg) from by simp [u2_v])
                          rw [z255]
                          refine lv_iload hx hb dX10_goes_394 (lv_at hl 7 rfl) ?_
                          refine lv_isub hx hb dX10_goes_396 ?_
                          refine lv_topi (fun v256 ev256 => ?_)
                          have tv256 := a_sub ev256 (by omega) (by omega)
                          refine lv_bipush (v := (8)) hx hb dX10_goes_397 (by decide) ?_
                          refine lv_iadd hx hb dX10_goes_399 ?_
                          refine lv_topi (fun v257 ev257 => ?_)
                          have tv257 := a_add ev257 (by omega) (by omega)
                          refine lv_bipush (v := (8)) hx hb dX10_goes_400 (by decide) ?_
                          refine lv_irem hx hb dX10_goes_402 (by decide) ?_
                          refine lv_topi (fun v258 ev258 => ?_)
                          have tv258 := a_rem (c := 8) ev258 (by decide) (by decide) (by omega)
                          refine lv_istore (lv' := [(7, .int (v258)), (8, .int (v236)), (14, .int (v235)), (10, .int (v225)), (13, .int (1000)), (12, .int (Ia13 (1006) ((v19).toNatClampNeg))), (11, .int (r35)), (9, .int (v19)), (6, .int (x6_13)), (5, .int (x5_13)), (0, .ref (ad (1000))), (1, .int (a0)), (2, .int (a1)), (3, .int (a2)), (4, .int (a3))]) hx hb dX10_goes_403 hl (by decide) rfl (fun ls hl => ?_)
                          refine lv_iload hx hb dX10_goes_405 (lv_at hl 9 rfl) ?_
                          refine lv_iload hx hb dX10_goes_407 (lv_at hl 0 rfl) ?_
                          have tw259 : twM I252 = twM I := twM_kp hK rfl
                          refine m_calli (m_runS (As := [.int (v258)]) (rest := [.int (x5_13)]) hx hb hml hown hts hE hM hS hA ce_X10_stepX tb_1660 (V_X10_stepX_l l D A ad ns I252 L253 G (v258) hI (by first | omega | decide)) rfl rfl ⟨Nat.le_of_ble_eq_true rfl, Nat.le_of_ble_eq_true rfl⟩  rfl hl.1 rfl (Nat.le_of_ble_eq_true rfl) dX10_goes_409 ⟨Nat.le_of_ble_eq_true rfl, Nat.le_of_ble_eq_true rfl⟩) hS (fun r260 u H locs hw hM hS => ?_)
                          obtain ⟨rfl, xr260⟩ := hw
                          have hM : Mem D A ad ns I252 L253 G H := hM
                          refine lv_iadd hx hb dX10_goes_412 ?_
                          refine lv_topi (fun v261 ev261 => ?_)
                          have tv261 := a_add ev261 (by omega) (by omega)
                          refine lv_istore (lv' := [(5, .int (v261)), (7, .int (v258)), (8, .int (v236)), (14, .int (v235)), (10, .int (v225)), (13, .int (1000)), (12, .int (Ia13 (1006) ((v19).toNatClampNeg))), (11, .int (r35)), (9, .int (v19)), (6, .int (x6_13)), (0, .ref (ad (1000))), (1, .int (a0)), (2, .int (a1)), (3, .int (a2)), (4, .int (a3))]) hx hb dX10_goes_413 hl (by decide) rfl (fun ls hl => ?_)
                          refine lv_iload hx hb dX10_goes_415 (lv_at hl 9 rfl) ?_
                          refine lv_iload hx hb dX10_goes_417 (lv_at hl 1 rfl) ?_
                          refine m_calli (m_runS (As := [.int (v258)]) (rest := [.int (x6_13)]) hx hb hml hown hts hE hM hS hA ce_X10_stepY tb_1663 (V_X10_stepY_l l D A ad ns I252 L253 G (v258) hI (by first | omega | decide)) rfl rfl ⟨Nat.le_of_ble_eq_true rfl, Nat.le_of_ble_eq_true rfl⟩  rfl hl.1 rfl (Nat.le_of_ble_eq_true rfl) dX10_goes_419 ⟨Nat.le_of_ble_eq_true rfl, Nat.le_of_ble_eq_true rfl⟩) hS (fun r262 u H locs hw hM hS => ?_)
                          obtain ⟨rfl, xr262⟩ := hw
                          have hM : Mem D A ad ns I252 L253 G H := hM
                          refine lv_iadd hx hb dX10_goes_422 ?_
                          refine lv_topi (fun v263 ev263 => ?_)
                          have tv263 := a_add ev263 (by omega) (by omega)
                          refine lv_istore (lv' := [(6, .int (v263)), (5, .int (v261)), (7, .int (v258)), (8, .int (v236)), (14, .int (v235)), (10, .int (v225)), (13, .int (1000)), (12, .int (Ia13 (1006) ((v19).toNatClampNeg))), (11, .int (r35)), (9, .int (v19)), (0, .ref (ad (1000))), (1, .int (a0)), (2, .int (a1)), (3, .int (a2)), (4, .int (a3))]) hx hb dX10_goes_423 hl (by decide) rfl (fun ls hl => ?_)
                          refine lv_goto (tgt := 13) hx hb dX10_goes_425 (by decide) ?_
                          have tr100055 : (I252 (1000) 55).toInt = (v4 : Int32).toInt := congrArg Int32.toInt (((hkI252.get (1000) 55 rfl)).trans (show (u2 (u2 (u2 (u2 (u2 Ia13 (1000) 55 (v4)) (1000) 53 (v27)) (1049) ((v19).toNatClampNeg) (Ia13 (1049) ((v19).toNatClampNeg))) (1050) ((r35).toNatClampNeg) (v151)) (1000) 53 (v227)) (1000) 55 = v4 from by simp [u2_v]))
                          have h55n : (I252 (1000) 55).toInt = (v4 : Int32).toInt := congrArg Int32.toInt (((hkI252.get (1000) 55 rfl)).trans (show (u2 (u2 (u2 (u2 (u2 Ia13 (1000) 55 (v4)) (1000) 53 (v27)) (1049) ((v19).toNatClampNeg) (Ia13 (1049) ((v19).toNatClampNeg))) (1050) ((r35).toNatClampNeg) (v151)) (1000) 53 (v227)) (1000) 55 = v4 from by simp [u2_v]))
                          have h53 : v227 = (u2 (u2 (u2 (u2 Ia13 (1000) 55 (v4)) (1000) 53 (v27)) (1049) ((v19).toNatClampNeg) (Ia13 (1049) ((v19).toNatClampNeg))) (1050) ((r35).toNatClampNeg) (v151)) 1000 53 + mirG (twM Ia13) (Ia13 (1006) ((v19).toNatClampNeg)) (r170) := by rw [← hG, ev227]; simp [u2_v]
                          have hMI : MIM (twM Ia13) (Ia13 (1006) ((v19).toNatClampNeg)) x5_13 x6_13 x7_13 (r170) (u2 (u2 (u2 (u2 Ia13 (1000) 55 (v4)) (1000) 53 (v27)) (1049) ((v19).toNatClampNeg) (Ia13 (1049) ((v19).toNatClampNeg))) (1050) ((r35).toNatClampNeg) (v151)) I252 := by
                            refine MIM.y (by rw [← hon]; omega) ?_
                            rw [← h53, ← hon, show x5_13 + sX x7_13 = v249 from by rw [ev249, xr248.1], show x6_13 + sY x7_13 = v251 from by rw [ev251, xr250.1]]
                            exact xI252.2
                          exact ih13 (v236) (v258) (v263) (v261) I252 L253 _ _ ls hI hK (by first | omega | decide) (by first | omega | decide) (by omega) (by rw [← tw13]; exact FXM.step hF13 (by omega) (by omega) (by omega) (by omega) hop (STM.y hcS hym hmv htl hMI) (by unfold stpW; rw [if_pos hym, ← hmv]; exact and7 (a := Ia13 1009 (Ia13 (1006) ((v19).toNatClampNeg)).toNatClampNeg) hr4 (by omega) (by omega)) (by unfold stpL; rw [if_pos hym, ← hmv, ← htl]; exact hL3) (by rw [ev261, xr260.1]) (by rw [ev263, xr262.1])) (by omega) hM hS (lv_sub hl [3, 2, 0, 1, 10, 11, 12, 13, 14] rfl)
              · have hc31 := c31
                have q31 := q_nle hc31
                refine lv_iload hx hb dX10_goes_154 (lv_at hl 0 rfl) ?_
                refine lv_goto (tgt := 166) hx hb dX10_goes_156 (by decide) ?_
                refine m_iast (1049) hx hb hE hM hS (hJ.2 49 (by decide)).1 rfl (vp_in_iff.mpr (by omega)) dX10_goes_166 (fun H locs I264 eI264 hM hS => ?_)
                subst eI264
                have hI := hI.putF (n := 1049) (k := ((v19).toNatClampNeg)) (v := v29) rfl
                have hK := hK.put (n := 1049) (k := ((v19).toNatClampNeg)) (v := v29) (by first | rfl | simp [inR])
                have hv53 : v27 = Ia13 1000 53 + shr x8_13 (twM Ia13).air := by rw [ev27, shv25]; rfl
                have ha1 : AIM (twM Ia13) (clN x5_13 x6_13) x8_13 Ia13 (u2 (u2 (u2 Ia13 (1000) 55 (v4)) (1000) 53 (v27)) (1049) ((v19).toNatClampNeg) (v29)) := by rw [← hcl, hv53]; exact AIM.of v4 (by omega) (by rw [← hl1, if_pos (by omega)])
                refine lv_aload_n hx hb dX10_goes_167 rfl (lv_at hl 6 rfl) ?_
                refine lv_iload hx hb dX10_goes_168 (lv_at hl 5 rfl) ?_
                refine lv_iload hx hb dX10_goes_170 (lv_at hl 4 rfl) ?_
                have tw265 : twM (u2 (u2 (u2 Ia13 (1000) 55 (v4)) (1000) 53 (v27)) (1049) ((v19).toNatClampNeg) (v29)) = twM I := twM_kp hK rfl
                refine m_calli (m_runV (1000) (As := [.int (x5_13), .int (x6_13)]) (rest := []) hx hb hml hown hts hE hM hS hA ce_X10_yardOf tb_1652 (V_X10_yardOf_l l D A ad ns (u2 (u2 (u2 Ia13 (1000) 55 (v4)) (1000) 53 (v27)) (1049) ((v19).toNatClampNeg) (v29)) La13 G (x5_13) (x6_13) hJ hI (by first | omega | decide) (by first | omega | decide)) rfl rfl ⟨Nat.le_of_ble_eq_true rfl, Nat.le_of_ble_eq_true rfl⟩ hJ.1 rfl rfl (by decide) rfl hl.1 rfl (Nat.le_of_ble_eq_true rfl) dX10_goes_172 ⟨Nat.le_of_ble_eq_true rfl, Nat.le_of_ble_eq_true rfl⟩) hS (fun r266 u H locs hw hM hS => ?_)
                obtain ⟨rfl, xr266⟩ := hw
                have hM : Mem D A ad ns (u2 (u2 (u2 Ia13 (1000) 55 (v4)) (1000) 53 (v27)) (1049) ((v19).toNatClampNeg) (v29)) La13 G H := hM
                have hyv : r266 = (twM Ia13).yat (clN x5_13 x6_13) := by rw [tw13, ← tw265]; exact xr266.1
                refine lv_istore (lv' := [(11, .int (r266)), (8, .int (v29)), (10, .int (v25)), (9, .int (v19)), (7, .int (x7_13)), (6, .int (x6_13)), (5, .int (x5_13)), (0, .ref (ad (1000))), (1, .int (a0)), (2, .int (a1)), (3, .int (a2)), (4, .int (a3))]) hx hb dX10_goes_175 hl (by decide) rfl (fun ls hl => ?_)
                refine lv_iload hx hb dX10_goes_177 (lv_at hl 0 rfl) ?_
                refine lv_iconst (v := (-1)) hx hb dX10_goes_179 (by decide) ?_
                refine lv_icmp_eq (tgt := 221) hx hb dX10_goes_180 (by decide) (fun c267 => ?_) (fun c267 => ?_)
                · have hc267 := c267
                  have q267 := q_eq hc267
                  have hyn : ((twM Ia13).yat (clN x5_13 x6_13)).toInt = -1 := by rw [← hyv]; omega
                  have hcL : v29 = cellL (twM Ia13) x5_13 x6_13 x8_13 := cellL_n hyn hl1
                  have hcS : CEm (twM Ia13) x5_13 x6_13 x8_13 Ia13 (u2 (u2 (u2 Ia13 (1000) 55 (v4)) (1000) 53 (v27)) (1049) ((v19).toNatClampNeg) (v29)) := CEm.n ha1 hyn
                  refine lv_aload_n hx hb dX10_goes_221 rfl (lv_at hl 7 rfl) ?_
                  refine m_getr (1000) 6 (1006) hx hb hts hown hE oc10 hM hJ.1 rfl (by decide) rfl (hJ.2 6 (by decide)).2 (by decide) tb_1183 dX10_goes_222 ?_
                  refine lv_iload hx hb dX10_goes_225 (lv_at hl 3 rfl) ?_
                  refine m_iald (1006) hx hb hE hM (hJ.2 6 (by decide)).1 rfl (vp_in_iff.mpr (by omega)) dX10_goes_227 ?_
                  have g268 := hI.get (1006) ((v19).toNatClampNeg) (lo := -1) (hi := 23) rfl
                  have z269 : (u2 (u2 (u2 Ia13 (1000) 55 (v4)) (1000) 53 (v27)) (1049) ((v19).toNatClampNeg) (v29)) (1006) (v19).toNatClampNeg = Ia13 (1006) ((v19).toNatClampNeg) := (show (u2 (u2 (u2 Ia13 (1000) 55 (v4)) (1000) 53 (v27)) (1049) ((v19).toNatClampNeg) (v29)) (1006) ((v19).toNatClampNeg) = Ia13 (1006) ((v19).toNatClampNeg) from by simp [u2_v])
                  rw [z269] at g268 ⊢
                  refine lv_istore (lv' := [(12, .int (Ia13 (1006) ((v19).toNatClampNeg))), (11, .int (r266)), (8, .int (v29)), (10, .int (v25)), (9, .int (v19)), (7, .int (x7_13)), (6, .int (x6_13)), (5, .int (x5_13)), (0, .ref (ad (1000))), (1, .int (a0)), (2, .int (a1)), (3, .int (a2)), (4, .int (a3))]) hx hb dX10_goes_228 hl (by decide) rfl (fun ls hl => ?_)
                  refine lv_iload hx hb dX10_goes_230 (lv_at hl 0 rfl) ?_
                  refine lv_iconst (v := (-1)) hx hb dX10_goes_232 (by decide) ?_
                  refine lv_icmp_eq (tgt := 405) hx hb dX10_goes_233 (by decide) (fun c270 => ?_) (fun c270 => ?_)
                  · have hc270 := c270
                    have q270 := q_eq hc270
                    refine lv_iload hx hb dX10_goes_405 (lv_at hl 7 rfl) ?_
                    refine lv_iload hx hb dX10_goes_407 (lv_at hl 5 rfl) ?_
                    refine m_calli (m_runS (As := [.int (x7_13)]) (rest := [.int (x5_13)]) hx hb hml hown hts hE hM hS hA ce_X10_stepX tb_1660 (V_X10_stepX_l l D A ad ns (u2 (u2 (u2 Ia13 (1000) 55 (v4)) (1000) 53 (v27)) (1049) ((v19).toNatClampNeg) (v29)) La13 G (x7_13) hI (by first | omega | decide)) rfl rfl ⟨Nat.le_of_ble_eq_true rfl, Nat.le_of_ble_eq_true rfl⟩  rfl hl.1 rfl (Nat.le_of_ble_eq_true rfl) dX10_goes_409 ⟨Nat.le_of_ble_eq_true rfl, Nat.le_of_ble_eq_true rfl⟩) hS (fun r271 u H locs hw hM hS => ?_)
                    obtain ⟨rfl, xr271⟩ := hw
                    have hM : Mem D A ad ns (u2 (u2 (u2 Ia13 (1000) 55 (v4)) (1000) 53 (v27)) (1049) ((v19).toNatClampNeg) (v29)) La13 G H := hM
                    refine lv_iadd hx hb dX10_goes_412 ?_
                    refine lv_topi (fun v272 ev272 => ?_)
                    have tv272 := a_add ev272 (by omega) (by omega)
                    refine lv_istore (lv' := [(5, .int (v272)), (12, .int (Ia13 (1006) ((v19).toNatClampNeg))), (11, .int (r266)), (8, .int (v29)), (10, .int (v25)), (9, .int (v19)), (7, .int (x7_13)), (6, .int (x6_13)), (0, .ref (ad (1000))), (1, .int (a0)), (2, .int (a1)), (3, .int (a2)), (4, .int (a3))]) hx hb dX10_goes_413 hl (by decide) rfl (fun ls hl => ?_)
                    refine lv_iload hx hb dX10_goes_415 (lv_at hl 7 rfl) ?_
                    refine lv_iload hx hb dX10_goes_417 (lv_at hl 6 rfl) ?_
                    refine m_calli (m_runS (As := [.int (x7_13)]) (rest := [.int (x6_13)]) hx hb hml hown hts hE hM hS hA ce_X10_stepY tb_1663 (V_X10_stepY_l l D A ad ns (u2 (u2 (u2 Ia13 (1000) 55 (v4)) (1000) 53 (v27)) (1049) ((v19).toNatClampNeg) (v29)) La13 G (x7_13) hI (by first | omega | decide)) rfl rfl ⟨Nat.le_of_ble_eq_true rfl, Nat.le_of_ble_eq_true rfl⟩  rfl hl.1 rfl (Nat.le_of_ble_eq_true rfl) dX10_goes_419 ⟨Nat.le_of_ble_eq_true rfl, Nat.le_of_ble_eq_true rfl⟩) hS (fun r273 u H locs hw hM hS => ?_)
                    obtain ⟨rfl, xr273⟩ := hw
                    have hM : Mem D A ad ns (u2 (u2 (u2 Ia13 (1000) 55 (v4)) (1000) 53 (v27)) (1049) ((v19).toNatClampNeg) (v29)) La13 G H := hM
                    refine lv_iadd hx hb dX10_goes_422 ?_
                    refine lv_topi (fun v274 ev274 => ?_)
                    have tv274 := a_add ev274 (by omega) (by omega)
                    refine lv_istore (lv' := [(6, .int (v274)), (5, .int (v272)), (12, .int (Ia13 (1006) ((v19).toNatClampNeg))), (11, .int (r266)), (8, .int (v29)), (10, .int (v25)), (9, .int (v19)), (7, .int (x7_13)), (0, .ref (ad (1000))), (1, .int (a0)), (2, .int (a1)), (3, .int (a2)), (4, .int (a3))]) hx hb dX10_goes_423 hl (by decide) rfl (fun ls hl => ?_)
                    refine lv_goto (tgt := 13) hx hb dX10_goes_425 (by decide) ?_
                    have tr100055 : ((u2 (u2 (u2 Ia13 (1000) 55 (v4)) (1000) 53 (v27)) (1049) ((v19).toNatClampNeg) (v29)) (1000) 55).toInt = (v4 : Int32).toInt := congrArg Int32.toInt ((show (u2 (u2 (u2 Ia13 (1000) 55 (v4)) (1000) 53 (v27)) (1049) ((v19).toNatClampNeg) (v29)) (1000) 55 = v4 from by simp [u2_v]))
                    have tr100052 : ((u2 (u2 (u2 Ia13 (1000) 55 (v4)) (1000) 53 (v27)) (1049) ((v19).toNatClampNeg) (v29)) (1000) 52).toInt = (Ia13 (1000) 52 : Int32).toInt := congrArg Int32.toInt ((show (u2 (u2 (u2 Ia13 (1000) 55 (v4)) (1000) 53 (v27)) (1049) ((v19).toNatClampNeg) (v29)) (1000) 52 = Ia13 (1000) 52 from by simp [u2_v]))
                    have h55n : ((u2 (u2 (u2 Ia13 (1000) 55 (v4)) (1000) 53 (v27)) (1049) ((v19).toNatClampNeg) (v29)) (1000) 55).toInt = (v4 : Int32).toInt := congrArg Int32.toInt ((show (u2 (u2 (u2 Ia13 (1000) 55 (v4)) (1000) 53 (v27)) (1049) ((v19).toNatClampNeg) (v29)) (1000) 55 = v4 from by simp [u2_v]))
                    have hmv : Ia13 (1006) ((v19).toNatClampNeg) = (twM Ia13).mat (clN x5_13 x6_13) := by rw [← hcl]; rfl
                    have hnm : ¬ isM (twM Ia13) (clN x5_13 x6_13) := fun z => z.1 (by rw [← hmv]; omega)
                    exact ih13 (v29) (x7_13) (v274) (v272) (u2 (u2 (u2 Ia13 (1000) 55 (v4)) (1000) 53 (v27)) (1049) ((v19).toNatClampNeg) (v29)) La13 _ _ ls hI hK (by first | omega | decide) (by first | omega | decide) (by omega) (by rw [← tw13]; exact FXM.step hF13 (by omega) (by omega) (by omega) (by omega) hop (STM.n hcS hnm) (by unfold stpW; rw [if_neg hnm]) (by unfold stpL; rw [if_neg hnm]; exact hcL) (by rw [ev272, xr271.1]) (by rw [ev274, xr273.1])) (by omega) hM hS (lv_sub hl [4, 7, 0, 1, 8, 9, 10, 11, 12] rfl)
                  · have hc270 := c270
                    have q270 := q_ne hc270
                    refine lv_aload_n hx hb dX10_goes_236 rfl (lv_at hl 8 rfl) ?_
                    refine m_getr (1000) 15 (1015) hx hb hts hown hE oc10 hM hJ.1 rfl (by decide) rfl (hJ.2 15 (by decide)).2 (by decide) tb_1192 dX10_goes_237 ?_
                    refine lv_iload hx hb dX10_goes_240 (lv_at hl 0 rfl) ?_
                    refine m_iald (1015) hx hb hE hM (hJ.2 15 (by decide)).1 rfl (vp_in_iff.mpr (by omega)) dX10_goes_242 ?_
                    have z275 : (u2 (u2 (u2 Ia13 (1000) 55 (v4)) (1000) 53 (v27)) (1049) ((v19).toNatClampNeg) (v29)) (1015) (Ia13 (1006) ((v19).toNatClampNeg)).toNatClampNeg = Ia13 (1015) ((Ia13 (1006) ((v19).toNatClampNeg)).toNatClampNeg) := (show (u2 (u2 (u2 Ia13 (1000) 55 (v4)) (1000) 53 (v27)) (1049) ((v19).toNatClampNeg) (v29)) (1015) ((Ia13 (1006) ((v19).toNatClampNeg)).toNatClampNeg) = Ia13 (1015) ((Ia13 (1006) ((v19).toNatClampNeg)).toNatClampNeg) from by simp [u2_v])
                    rw [z275]
                    refine lv_if_ne (tgt := 405) hx hb dX10_goes_243 (by decide) (fun c276 => ?_) (fun c276 => ?_)
                    · have hc276 := c276
                      have q276 := q_ne hc276
                      refine lv_iload hx hb dX10_goes_405 (lv_at hl 7 rfl) ?_
                      refine lv_iload hx hb dX10_goes_407 (lv_at hl 5 rfl) ?_
                      refine m_calli (m_runS (As := [.int (x7_13)]) (rest := [.int (x5_13)]) hx hb hml hown hts hE hM hS hA ce_X10_stepX tb_1660 (V_X10_stepX_l l D A ad ns (u2 (u2 (u2 Ia13 (1000) 55 (v4)) (1000) 53 (v27)) (1049) ((v19).toNatClampNeg) (v29)) La13 G (x7_13) hI (by first | omega | decide)) rfl rfl ⟨Nat.le_of_ble_eq_true rfl, Nat.le_of_ble_eq_true rfl⟩  rfl hl.1 rfl (Nat.le_of_ble_eq_true rfl) dX10_goes_409 ⟨Nat.le_of_ble_eq_true rfl, Nat.le_of_ble_eq_true rfl⟩) hS (fun r277 u H locs hw hM hS => ?_)
                      obtain ⟨rfl, xr277⟩ := hw
                      have hM : Mem D A ad ns (u2 (u2 (u2 Ia13 (1000) 55 (v4)) (1000) 53 (v27)) (1049) ((v19).toNatClampNeg) (v29)) La13 G H := hM
                      refine lv_iadd hx hb dX10_goes_412 ?_
                      refine lv_topi (fun v278 ev278 => ?_)
                      have tv278 := a_add ev278 (by omega) (by omega)
                      refine lv_istore (lv' := [(5, .int (v278)), (12, .int (Ia13 (1006) ((v19).toNatClampNeg))), (11, .int (r266)), (8, .int (v29)), (10, .int (v25)), (9, .int (v19)), (7, .int (x7_13)), (6, .int (x6_13)), (0, .ref (ad (1000))), (1, .int (a0)), (2, .int (a1)), (3, .int (a2)), (4, .int (a3))]) hx hb dX10_goes_413 hl (by decide) rfl (fun ls hl => ?_)
                      refine lv_iload hx hb dX10_goes_415 (lv_at hl 7 rfl) ?_
                      refine lv_iload hx hb dX10_goes_417 (lv_at hl 6 rfl) ?_
                      refine m_calli (m_runS (As := [.int (x7_13)]) (rest := [.int (x6_13)]) hx hb hml hown hts hE hM hS hA ce_X10_stepY tb_1663 (V_X10_stepY_l l D A ad ns (u2 (u2 (u2 Ia13 (1000) 55 (v4)) (1000) 53 (v27)) (1049) ((v19).toNatClampNeg) (v29)) La13 G (x7_13) hI (by first | omega | decide)) rfl rfl ⟨Nat.le_of_ble_eq_true rfl, Nat.le_of_ble_eq_true rfl⟩  rfl hl.1 rfl (Nat.le_of_ble_eq_true rfl) dX10_goes_419 ⟨Nat.le_of_ble_eq_true rfl, Nat.le_of_ble_eq_true rfl⟩) hS (fun r279 u H locs hw hM hS => ?_)
                      obtain ⟨rfl, xr279⟩ := hw
                      have hM : Mem D A ad ns (u2 (u2 (u2 Ia13 (1000) 55 (v4)) (1000) 53 (v27)) (1049) ((v19).toNatClampNeg) (v29)) La13 G H := hM
                      refine lv_iadd hx hb dX10_goes_422 ?_
                      refine lv_topi (fun v280 ev280 => ?_)
                      have tv280 := a_add ev280 (by omega) (by omega)
                      refine lv_istore (lv' := [(6, .int (v280)), (5, .int (v278)), (12, .int (Ia13 (1006) ((v19).toNatClampNeg))), (11, .int (r266)), (8, .int (v29)), (10, .int (v25)), (9, .int (v19)), (7, .int (x7_13)), (0, .ref (ad (1000))), (1, .int (a0)), (2, .int (a1)), (3, .int (a2)), (4, .int (a3))]) hx hb dX10_goes_423 hl (by decide) rfl (fun ls hl => ?_)
                      refine lv_goto (tgt := 13) hx hb dX10_goes_425 (by decide) ?_
                      have tr100055 : ((u2 (u2 (u2 Ia13 (1000) 55 (v4)) (1000) 53 (v27)) (1049) ((v19).toNatClampNeg) (v29)) (1000) 55).toInt = (v4 : Int32).toInt := congrArg Int32.toInt ((show (u2 (u2 (u2 Ia13 (1000) 55 (v4)) (1000) 53 (v27)) (1049) ((v19).toNatClampNeg) (v29)) (1000) 55 = v4 from by simp [u2_v]))
                      have tr100052 : ((u2 (u2 (u2 Ia13 (1000) 55 (v4)) (1000) 53 (v27)) (1049) ((v19).toNatClampNeg) (v29)) (1000) 52).toInt = (Ia13 (1000) 52 : Int32).toInt := congrArg Int32.toInt ((show (u2 (u2 (u2 Ia13 (1000) 55 (v4)) (1000) 53 (v27)) (1049) ((v19).toNatClampNeg) (v29)) (1000) 52 = Ia13 (1000) 52 from by simp [u2_v]))
                      have h55n : ((u2 (u2 (u2 Ia13 (1000) 55 (v4)) (1000) 53 (v27)) (1049) ((v19).toNatClampNeg) (v29)) (1000) 55).toInt = (v4 : Int32).toInt := congrArg Int32.toInt ((show (u2 (u2 (u2 Ia13 (1000) 55 (v4)) (1000) 53 (v27)) (1049) ((v19).toNatClampNeg) (v29)) (1000) 55 = v4 from by simp [u2_v]))
                      have hmv : Ia13 (1006) ((v19).toNatClampNeg) = (twM Ia13).mat (clN x5_13 x6_13) := by rw [← hcl]; rfl
                      have hnm : ¬ isM (twM Ia13) (clN x5_13 x6_13) := fun z => by have z2 := z.2; rw [← hmv] at z2; exact q276 z2
                      exact ih13 (v29) (x7_13) (v280) (v278) (u2 (u2 (u2 Ia13 (1000) 55 (v4)) (1000) 53 (v27)) (1049) ((v19).toNatClampNeg) (v29)) La13 _ _ ls hI hK (by first | omega | decide) (by first | omega | decide) (by omega) (by rw [← tw13]; exact FXM.step hF13 (by omega) (by omega) (by omega) (by omega) hop (STM.n hcS hnm) (by unfold stpW; rw [if_neg hnm]) (by unfold stpL; rw [if_neg hnm]; exact hcL) (by rw [ev278, xr277.1]) (by rw [ev280, xr279.1])) (by omega) hM hS (lv_sub hl [4, 7, 0, 1, 8, 9, 10, 11, 12] rfl)
                    · have hc276 := c276
                      have q276 := q_eq hc276
                      have hm24 : (Ia13 (1006) ((v19).toNatClampNeg)).toNatClampNeg < 24 := by have z := tn (i := Ia13 (1006) ((v19).toNatClampNeg)) (by omega); omega
                      obtain ⟨hr1, hr2, hth, hr4⟩ := hTR3.2.2.2 _ hm24
                      have hr1 : 0 ≤ (Ia13 1010 (Ia13 (1006) ((v19).toNatClampNeg)).toNatClampNeg).toInt ∧ (Ia13 1010 (Ia13 (1006) ((v19).toNatClampNeg)).toNatClampNeg).toInt ≤ 1000 := hr1
                      have hr2 : 0 ≤ (Ia13 1014 (Ia13 (1006) ((v19).toNatClampNeg)).toNatClampNeg).toInt ∧ (Ia13 1014 (Ia13 (1006) ((v19).toNatClampNeg)).toNatClampNeg).toInt ≤ 1000 := hr2
                      have hth : 0 ≤ (Ia13 1011 (Ia13 (1006) ((v19).toNatClampNeg)).toNatClampNeg).toInt ∧ (Ia13 1011 (Ia13 (1006) ((v19).toNatClampNeg)).toNatClampNeg).toInt ≤ 1000 := hth
                      have hr4 : 0 ≤ (Ia13 1009 (Ia13 (1006) ((v19).toNatClampNeg)).toNatClampNeg).toInt ∧ (Ia13 1009 (Ia13 (1006) ((v19).toNatClampNeg)).toNatClampNeg).toInt ≤ 7 := hr4
                      have hmv : Ia13 (1006) ((v19).toNatClampNeg) = (twM Ia13).mat (clN x5_13 x6_13) := by rw [← hcl]; rfl
                      have hym : isM (twM Ia13) (clN x5_13 x6_13) := ⟨by rw [← hmv]; omega, by rw [← hmv]; exact q276⟩
                      refine lv_aload_n hx hb dX10_goes_246 rfl (lv_at hl 8 rfl) ?_
                      refine lv_iload hx hb dX10_goes_247 (lv_at hl 0 rfl) ?_
                      refine lv_iload hx hb dX10_goes_249 (lv_at hl 2 rfl) ?_
                      refine m_calli (m_runV (1000) (As := [.int (Ia13 (1006) ((v19).toNatClampNeg)), .int (v29)]) (rest := []) hx hb hml hown hts hE hM hS hA ce_X10_told tb_1656 (V_X10_told_l l D A ad ns (u2 (u2 (u2 Ia13 (1000) 55 (v4)) (1000) 53 (v27)) (1049) ((v19).toNatClampNeg) (v29)) La13 G (Ia13 (1006) ((v19).toNatClampNeg)) (v29) hJ hI (by rw [hK.get 1000 59 rfl]; exact hsk) (by first | omega | decide)) rfl rfl ⟨Nat.le_of_ble_eq_true rfl, Nat.le_of_ble_eq_true rfl⟩ hJ.1 rfl rfl (by decide) rfl hl.1 rfl (Nat.le_of_ble_eq_true rfl) dX10_goes_251 ⟨Nat.le_of_ble_eq_true rfl, Nat.le_of_ble_eq_true rfl⟩) hS (fun r281 u H locs hw hM hS => ?_)
                      obtain ⟨rfl, xr281⟩ := hw
                      have hM : Mem D A ad ns (u2 (u2 (u2 Ia13 (1000) 55 (v4)) (1000) 53 (v27)) (1049) ((v19).toNatClampNeg) (v29)) La13 G H := hM
                      have hrr281 := congrArg Int32.toInt xr281
                      refine lv_istore (lv' := [(8, .int (r281)), (12, .int (Ia13 (1006) ((v19).toNatClampNeg))), (11, .int (r266)), (10, .int (v25)), (9, .int (v19)), (7, .int (x7_13)), (6, .int (x6_13)), (5, .int (x5_13)), (0, .ref (ad (1000))), (1, .int (a0)), (2, .int (a1)), (3, .int (a2)), (4, .int (a3))]) hx hb dX10_goes_254 hl (by decide) rfl (fun ls hl => ?_)
                      refine lv_aload_n hx hb dX10_goes_256 rfl (lv_at hl 8 rfl) ?_
                      refine m_getr (1000) 10 (1010) hx hb hts hown hE oc10 hM hJ.1 rfl (by decide) rfl (hJ.2 10 (by decide)).2 (by decide) tb_1187 dX10_goes_257 ?_
                      refine lv_iload hx hb dX10_goes_260 (lv_at hl 1 rfl) ?_
                      refine m_iald (1010) hx hb hE hM (hJ.2 10 (by decide)).1 rfl (vp_in_iff.mpr (by omega)) dX10_goes_262 ?_
                      have z282 : (u2 (u2 (u2 Ia13 (1000) 55 (v4)) (1000) 53 (v27)) (1049) ((v19).toNatClampNeg) (v29)) (1010) (Ia13 (1006) ((v19).toNatClampNeg)).toNatClampNeg = Ia13 (1010) ((Ia13 (1006) ((v19).toNatClampNeg)).toNatClampNeg) := (show (u2 (u2 (u2 Ia13 (1000) 55 (v4)) (1000) 53 (v27)) (1049) ((v19).toNatClampNeg) (v29)) (1010) ((Ia13 (1006) ((v19).toNatClampNeg)).toNatClampNeg) = Ia13 (1010) ((Ia13 (1006) ((v19).toNatClampNeg)).toNatClampNeg) from by simp [u2_v])
                      rw [z282]
                      refine lv_aload_n hx hb dX10_goes_263 rfl (lv_at hl 8 rfl) ?_
                      refine m_getr (1000) 14 (1014) hx hb hts hown hE oc10 hM hJ.1 rfl (by decide) rfl (hJ.2 14 (by decide)).2 (by decide) tb_1191 dX10_goes_264 ?_
                      refine lv_iload hx hb dX10_goes_267 (lv_at hl 1 rfl) ?_
                      refine m_iald (1014) hx hb hE hM (hJ.2 14 (by decide)).1 rfl (vp_in_iff.mpr (by omega)) dX10_goes_269 ?_
                      have z283 : (u2 (u2 (u2 Ia13 (1000) 55 (v4)) (1000) 53 (v27)) (1049) ((v19).toNatClampNeg) (v29)) (1014) (Ia13 (1006) ((v19).toNatClampNeg)).toNatClampNeg = Ia13 (1014) ((Ia13 (1006) ((v19).toNatClampNeg)).toNatClampNeg) := (show (u2 (u2 (u2 Ia13 (1000) 55 (v4)) (1000) 53 (v27)) (1049) ((v19).toNatClampNeg) (v29)) (1014) ((Ia13 (1006) ((v19).toNatClampNeg)).toNatClampNeg) = Ia13 (1014) ((Ia13 (1006) ((v19).toNatClampNeg)).toNatClampNeg) from by simp [u2_v])
                      rw [z283]
                      refine lv_iadd hx hb dX10_goes_270 ?_
                      refine lv_topi (fun v284 ev284 => ?_)
                      have tv284 := a_add ev284 (by omega) (by omega)
                      refine lv_sipush (v := (1000)) hx hb dX10_goes_271 (by decide) ?_
                      refine lv_icmp_le (tgt := 283) hx hb dX10_goes_274 (by decide) (fun c285 => ?_) (fun c285 => ?_)
                      · have hc285 := c285
                        have q285 := q_le hc285
                        refine lv_aload_n hx hb dX10_goes_283 rfl (lv_at hl 8 rfl) ?_
                        refine m_getr (1000) 10 (1010) hx hb hts hown hE oc10 hM hJ.1 rfl (by decide) rfl (hJ.2 10 (by decide)).2 (by decide) tb_1187 dX10_goes_284 ?_
                        refine lv_iload hx hb dX10_goes_287 (lv_at hl 1 rfl) ?_
                        refine m_iald (1010) hx hb hE hM (hJ.2 10 (by decide)).1 rfl (vp_in_iff.mpr (by omega)) dX10_goes_289 ?_
                        have z286 : (u2 (u2 (u2 Ia13 (1000) 55 (v4)) (1000) 53 (v27)) (1049) ((v19).toNatClampNeg) (v29)) (1010) (Ia13 (1006) ((v19).toNatClampNeg)).toNatClampNeg = Ia13 (1010) ((Ia13 (1006) ((v19).toNatClampNeg)).toNatClampNeg) := (show (u2 (u2 (u2 Ia13 (1000) 55 (v4)) (1000) 53 (v27)) (1049) ((v19).toNatClampNeg) (v29)) (1010) ((Ia13 (1006) ((v19).toNatClampNeg)).toNatClampNeg) = Ia13 (1010) ((Ia13 (1006) ((v19).toNatClampNeg)).toNatClampNeg) from by simp [u2_v])
                        rw [z286]
                        refine lv_aload_n hx hb dX10_goes_290 rfl (lv_at hl 8 rfl) ?_
                        refine m_getr (1000) 14 (1014) hx hb hts hown hE oc10 hM hJ.1 rfl (by decide) rfl (hJ.2 14 (by decide)).2 (by decide) tb_1191 dX10_goes_291 ?_
                        refine lv_iload hx hb dX10_goes_294 (lv_at hl 1 rfl) ?_
                        refine m_iald (1014) hx hb hE hM (hJ.2 14 (by decide)).1 rfl (vp_in_iff.mpr (by omega)) dX10_goes_296 ?_
                        have z287 : (u2 (u2 (u2 Ia13 (1000) 55 (v4)) (1000) 53 (v27)) (1049) ((v19).toNatClampNeg) (v29)) (1014) (Ia13 (1006) ((v19).toNatClampNeg)).toNatClampNeg = Ia13 (1014) ((Ia13 (1006) ((v19).toNatClampNeg)).toNatClampNeg) := (show (u2 (u2 (u2 Ia13 (1000) 55 (v4)) (1000) 53 (v27)) (1049) ((v19).toNatClampNeg) (v29)) (1014) ((Ia13 (1006) ((v19).toNatClampNeg)).toNatClampNeg) = Ia13 (1014) ((Ia13 (1006) ((v19).toNatClampNeg)).toNatClampNeg) from by simp [u2_v])
                        rw [z287]
                        refine lv_iadd hx hb dX10_goes_297 ?_
                        refine lv_topi (fun v288 ev288 => ?_)
                        have tv288 := a_add ev288 (by omega) (by omega)
                        refine lv_istore (lv' := [(13, .int (v288)), (8, .int (r281)), (12, .int (Ia13 (1006) ((v19).toNatClampNeg))), (11, .int (r266)), (10, .int (v25)), (9, .int (v19)), (7, .int (x7_13)), (6, .int (x6_13)), (5, .int (x5_13)), (0, .ref (ad (1000))), (1, .int (a0)), (2, .int (a1)), (3, .int (a2)), (4, .int (a3))]) hx hb dX10_goes_298 hl (by decide) rfl (fun ls hl => ?_)
                        have hdu : v288 = lsT (twM Ia13) (Ia13 (1006) ((v19).toNatClampNeg)).toNatClampNeg := lsT_le ev288 (by omega)
                        have hdl : 0 ≤ (v288 : Int32).toInt ∧ (v288 : Int32).toInt ≤ 1000 := by rw [hdu]; exact lsT_r hr1 hr2
                        have htl : r281 = cellL (twM Ia13) x5_13 x6_13 x8_13 := xr281.trans hcL
                        refine lv_iload hx hb dX10_goes_300 (lv_at hl 1 rfl) ?_
                        refine lv_i2l hx hb dX10_goes_302 rfl ?_
                        refine lv_topl (fun v289 ev289 => ?_)
                        have tv289 := q_i2l ev289
                        refine lv_iload hx hb dX10_goes_303 (lv_at hl 0 rfl) ?_
                        refine lv_i2l hx hb dX10_goes_305 rfl ?_
                        refine lv_topl (fun v290 ev290 => ?_)
                        have tv290 := q_i2l ev290
                        refine lv_lmul hx hb dX10_goes_306 ?_
                        refine lv_topl (fun v291 ev291 => ?_)
                        refine lv_ldc2 (v := (1000)) hx hb hown (hts _ tb_1428) dX10_goes_307 ?_
                        refine lv_ldiv hx hb dX10_goes_310 (by decide) ?_
                        refine lv_topl (fun v292 ev292 => ?_)
                        refine lv_l2i hx hb dX10_goes_311 rfl ?_
                        refine lv_topi (fun v293 ev293 => ?_)
                        have shv293 : v293 = shr (r281) (v288) := shr_l ev289 ev290 ev291 ev292 ev293 (by omega) hdl
                        have sbv293 := shr_b (s := r281) (t := v288) (by omega) hdl
                        rw [← shv293] at sbv293
                        refine lv_istore (lv' := [(10, .int (v293)), (13, .int (v288)), (8, .int (r281)), (12, .int (Ia13 (1006) ((v19).toNatClampNeg))), (11, .int (r266)), (9, .int (v19)), (7, .int (x7_13)), (6, .int (x6_13)), (5, .int (x5_13)), (0, .ref (ad (1000))), (1, .int (a0)), (2, .int (a1)), (3, .int (a2)), (4, .int (a3))]) hx hb dX10_goes_312 hl (by decide) rfl (fun ls hl => ?_)
                        refine lv_aload_n hx hb dX10_goes_314 rfl (lv_at hl 9 rfl) ?_
                        refine lv_dup hx hb dX10_goes_315 rfl ?_
                        refine m_geti (1000) 53 hx hb hts hown hE oc10 hM hJ.1 rfl (by decide) rfl tb_1230 dX10_goes_316 ?_
                        have z294 : (u2 (u2 (u2 Ia13 (1000) 55 (v4)) (1000) 53 (v27)) (1049) ((v19).toNatClampNeg) (v29)) (1000) 53 = v27 := (show (u2 (u2 (u2 Ia13 (1000) 55 (v4)) (1000) 53 (v27)) (1049) ((v19).toNatClampNeg) (v29)) (1000) 53 = v27 from by simp [u2_v])
                        rw [z294]
                        refine lv_iload hx hb dX10_goes_319 (lv_at hl 0 rfl) ?_
                        refine lv_iadd hx hb dX10_goes_321 ?_
                        refine lv_topi (fun v295 ev295 => ?_)
                        refine m_puti (1000) 53 hx hb hts hown hE oc10 hM hS hJ.1 rfl (by decide) rfl rfl rfl rfl tb_1230 dX10_goes_322 (fun H locs I296 eI296 hM hS => ?_)
                        subst eI296
                        have hI := hI.putF (n := 1000) (k := 53) (v := v295) rfl
                        have hK := hK.put (n := 1000) (k := 53) (v := v295) (by first | rfl | simp [inR])
                        refine lv_iload hx hb dX10_goes_325 (lv_at hl 2 rfl) ?_
                        refine lv_iload hx hb dX10_goes_327 (lv_at hl 0 rfl) ?_
                        refine lv_isub hx hb dX10_goes_329 ?_
                        refine lv_topi (fun v297 ev297 => ?_)
                        have tv297 := a_sub ev297 (by omega) (by omega)
                        refine lv_istore (lv' := [(8, .int (v297)), (10, .int (v293)), (13, .int (v288)), (12, .int (Ia13 (1006) ((v19).toNatClampNeg))), (11, .int (r266)), (9, .int (v19)), (7, .int (x7_13)), (6, .int (x6_13)), (5, .int (x5_13)), (0, .ref (ad (1000))), (1, .int (a0)), (2, .int (a1)), (3, .int (a2)), (4, .int (a3))]) hx hb dX10_goes_330 hl (by decide) rfl (fun ls hl => ?_)
                        refine lv_iload hx hb dX10_goes_332 (lv_at hl 0 rfl) ?_
                        refine lv_i2l hx hb dX10_goes_334 rfl ?_
                        refine lv_topl (fun v298 ev298 => ?_)
                        have tv298 := q_i2l ev298
                        refine lv_aload_n hx hb dX10_goes_335 rfl (lv_at hl 9 rfl) ?_
                        refine m_getr (1000) 11 (1011) hx hb hts hown hE oc10 hM hJ.1 rfl (by decide) rfl (hJ.2 11 (by decide)).2 (by decide) tb_1188 dX10_goes_336 ?_
                        refine lv_iload hx hb dX10_goes_339 (lv_at hl 3 rfl) ?_
                        refine m_iald (1011) hx hb hE hM (hJ.2 11 (by decide)).1 rfl (vp_in_iff.mpr (by omega)) dX10_goes_341 ?_
                        have z299 : (u2 (u2 (u2 (u2 Ia13 (1000) 55 (v4)) (1000) 53 (v27)) (1049) ((v19).toNatClampNeg) (v29)) (1000) 53 (v295)) (1011) (Ia13 (1006) ((v19).toNatClampNeg)).toNatClampNeg = Ia13 (1011) ((Ia13 (1006) ((v19).toNatClampNeg)).toNatClampNeg) := (show (u2 (u2 (u2 (u2 Ia13 (1000) 55 (v4)) (1000) 53 (v27)) (1049) ((v19).toNatClampNeg) (v29)) (1000) 53 (v295)) (1011) ((Ia13 (1006) ((v19).toNatClampNeg)).toNatClampNeg) = Ia13 (1011) ((Ia13 (1006) ((v19).toNatClampNeg)).toNatClampNeg) from by simp [u2_v])
                        rw [z299]
                        refine lv_i2l hx hb dX10_goes_342 rfl ?_
                        refine lv_topl (fun v300 ev300 => ?_)
                        have tv300 := q_i2l ev300
                        refine lv_lmul hx hb dX10_goes_343 ?_
                        refine lv_topl (fun v301 ev301 => ?_)
                        refine lv_ldc2 (v := (1000)) hx hb hown (hts _ tb_1428) dX10_goes_344 ?_
                        refine lv_ldiv hx hb dX10_goes_347 (by decide) ?_
                        refine lv_topl (fun v302 ev302 => ?_)
                        refine lv_l2i hx hb dX10_goes_348 rfl ?_
                        refine lv_topi (fun v303 ev303 => ?_)
                        have shv303 : v303 = shr (v297) (Ia13 (1011) ((Ia13 (1006) ((v19).toNatClampNeg)).toNatClampNeg)) := shr_l ev298 ev300 ev301 ev302 ev303 (by omega) hth
                        have sbv303 := shr_b (s := v297) (t := Ia13 (1011) ((Ia13 (1006) ((v19).toNatClampNeg)).toNatClampNeg)) (by omega) hth
                        rw [← shv303] at sbv303
                        refine lv_istore (lv' := [(14, .int (v303)), (8, .int (v297)), (10, .int (v293)), (13, .int (v288)), (12, .int (Ia13 (1006) ((v19).toNatClampNeg))), (11, .int (r266)), (9, .int (v19)), (7, .int (x7_13)), (6, .int (x6_13)), (5, .int (x5_13)), (0, .ref (ad (1000))), (1, .int (a0)), (2, .int (a1)), (3, .int (a2)), (4, .int (a3))]) hx hb dX10_goes_349 hl (by decide) rfl (fun ls hl => ?_)
                        refine lv_iload hx hb dX10_goes_351 (lv_at hl 1 rfl) ?_
                        refine lv_iload hx hb dX10_goes_353 (lv_at hl 0 rfl) ?_
                        refine lv_isub hx hb dX10_goes_355 ?_
                        refine lv_topi (fun v304 ev304 => ?_)
                        have tv304 := a_sub ev304 (by omega) (by omega)
                        refine lv_istore (lv' := [(8, .int (v304)), (14, .int (v303)), (10, .int (v293)), (13, .int (v288)), (12, .int (Ia13 (1006) ((v19).toNatClampNeg))), (11, .int (r266)), (9, .int (v19)), (7, .int (x7_13)), (6, .int (x6_13)), (5, .int (x5_13)), (0, .ref (ad (1000))), (1, .int (a0)), (2, .int (a1)), (3, .int (a2)), (4, .int (a3))]) hx hb dX10_goes_356 hl (by decide) rfl (fun ls hl => ?_)
                        have hG : v293 = mirG (twM Ia13) (Ia13 (1006) ((v19).toNatClampNeg)) (r281) := by rw [shv293, hdu]; rfl
                        have hon : v303 = mirT (twM Ia13) (Ia13 (1006) ((v19).toNatClampNeg)) (r281) := by rw [shv303, ev297, hG]; rfl
                        have hL3 : v304 = mirL (twM Ia13) (Ia13 (1006) ((v19).toNatClampNeg)) (r281) := by rw [ev304, hon, ev297, hG]; rfl
                        refine lv_iload hx hb dX10_goes_358 (lv_at hl 1 rfl) ?_
                        refine lv_if_le (tgt := 387) hx hb dX10_goes_360 (by decide) (fun c305 => ?_) (fun c305 => ?_)
                        · have hc305 := c305
                          have q305 := q_le hc305
                          refine lv_aload_n hx hb dX10_goes_387 rfl (lv_at hl 10 rfl) ?_
                          refine m_getr (1000) 9 (1009) hx hb hts hown hE oc10 hM hJ.1 rfl (by decide) rfl (hJ.2 9 (by decide)).2 (by decide) tb_1186 dX10_goes_388 ?_
                          refine lv_iload hx hb dX10_goes_391 (lv_at hl 4 rfl) ?_
                          refine m_iald (1009) hx hb hE hM (hJ.2 9 (by decide)).1 rfl (vp_in_iff.mpr (by omega)) dX10_goes_393 ?_
                          have z306 : (u2 (u2 (u2 (u2 Ia13 (1000) 55 (v4)) (1000) 53 (v27)) (1049) ((v19).toNatClampNeg) (v29)) (1000) 53 (v295)) (1009) (Ia13 (1006) ((v19).toNatClampNeg)).toNatClampNeg = Ia13 (1009) ((Ia13 (1006) ((v19).toNatClampNeg)).toNatClampNeg) := (show (u2 (u2 (u2 (u2 Ia13 (1000) 55 (v4)) (1000) 53 (v27)) (1049) ((v19).toNatClampNeg) (v29)) (1000) 53 (v295)) (1009) ((Ia13 (1006) ((v19).toNatClampNeg)).toNatClampNeg) = Ia13 (1009) ((Ia13 (1006) ((v19).toNatClampNeg)).toNatClampNeg) from by simp [u2_v])
                          rw [z306]
                          refine lv_iload hx hb dX10_goes_394 (lv_at hl 7 rfl) ?_
                          refine lv_isub hx hb dX10_goes_396 ?_
                          refine lv_topi (fun v307 ev307 => ?_)
                          have tv307 := a_sub ev307 (by omega) (by omega)
                          refine lv_bipush (v := (8)) hx hb dX10_goes_397 (by decide) ?_
                          refine lv_iadd hx hb dX10_goes_399 ?_
                          refine lv_topi (fun v308 ev308 => ?_)
                          have tv308 := a_add ev308 (by omega) (by omega)
                          refine lv_bipush (v := (8)) hx hb dX10_goes_400 (by decide) ?_
                          refine lv_irem hx hb dX10_goes_402 (by decide) ?_
                          refine lv_topi (fun v309 ev309 => ?_)
                          have tv309 := a_rem (c := 8) ev309 (by decide) (by decide) (by omega)
                          refine lv_istore (lv' := [(7, .int (v309)), (8, .int (v304)), (14, .int (v303)), (10, .int (v293)), (13, .int (v288)), (12, .int (Ia13 (1006) ((v19).toNatClampNeg))), (11, .int (r266)), (9, .int (v19)), (6, .int (x6_13)), (5, .int (x5_13)), (0, .ref (ad (1000))), (1, .int (a0)), (2, .int (a1)), (3, .int (a2)), (4, .int (a3))]) hx hb dX10_goes_403 hl (by decide) rfl (fun ls hl => ?_)
                          refine lv_iload hx hb dX10_goes_405 (lv_at hl 9 rfl) ?_
                          refine lv_iload hx hb dX10_goes_407 (lv_at hl 0 rfl) ?_
                          have tw310 : twM (u2 (u2 (u2 (u2 Ia13 (1000) 55 (v4)) (1000) 53 (v27)) (1049) ((v19).toNatClampNeg) (v29)) (1000) 53 (v295)) = twM I := twM_kp hK rfl
                          refine m_calli (m_runS (As := [.int (v309)]) (rest := [.int (x5_13)]) hx hb hml hown hts hE hM hS hA ce_X10_stepX tb_1660 (V_X10_stepX_l l D A ad ns (u2 (u2 (u2 (u2 Ia13 (1000) 55 (v4)) (1000) 53 (v27)) (1049) ((v19).toNatClampNeg) (v29)) (1000) 53 (v295)) La13 G (v309) hI (by first | omega | decide)) rfl rfl ⟨Nat.le_of_ble_eq_true rfl, Nat.le_of_ble_eq_true rfl⟩  rfl hl.1 rfl (Nat.le_of_ble_eq_true rfl) dX10_goes_409 ⟨Nat.le_of_ble_eq_true rfl, Nat.le_of_ble_eq_true rfl⟩) hS (fun r311 u H locs hw hM hS => ?_)
                          obtain ⟨rfl, xr311⟩ := hw
                          have hM : Mem D A ad ns (u2 (u2 (u2 (u2 Ia13 (1000) 55 (v4)) (1000) 53 (v27)) (1049) ((v19).toNatClampNeg) (v29)) (1000) 53 (v295)) La13 G H := hM
                          refine lv_iadd hx hb dX10_goes_412 ?_
                          refine lv_topi (fun v312 ev312 => ?_)
                          have tv312 := a_add ev312 (by omega) (by omega)
                          refine lv_istore (lv' := [(5, .int (v312)), (7, .int (v309)), (8, .int (v304)), (14, .int (v303)), (10, .int (v293)), (13, .int (v288)), (12, .int (Ia13 (1006) ((v19).toNatClampNeg))), (11, .int (r266)), (9, .int (v19)), (6, .int (x6_13)), (0, .ref (ad (1000))), (1, .int (a0)), (2, .int (a1)), (3, .int (a2)), (4, .int (a3))]) hx hb dX10_goes_413 hl (by decide) rfl (fun ls hl => ?_)
                          refine lv_iload hx hb dX10_goes_415 (lv_at hl 9 rfl) ?_
                          refine lv_iload hx hb dX10_goes_417 (lv_at hl 1 rfl) ?_
                          refine m_calli (m_runS (As := [.int (v309)]) (rest := [.int (x6_13)]) hx hb hml hown hts hE hM hS hA ce_X10_stepY tb_1663 (V_X10_stepY_l l D A ad ns (u2 (u2 (u2 (u2 Ia13 (1000) 55 (v4)) (1000) 53 (v27)) (1049) ((v19).toNatClampNeg) (v29)) (1000) 53 (v295)) La13 G (v309) hI (by first | omega | decide)) rfl rfl ⟨Nat.le_of_ble_eq_true rfl, Nat.le_of_ble_eq_true rfl⟩  rfl hl.1 rfl (Nat.le_of_ble_eq_true rfl) dX10_goes_419 ⟨Nat.le_of_ble_eq_true rfl, Nat.le_of_ble_eq_true rfl⟩) hS (fun r313 u H locs hw hM hS => ?_)
                          obtain ⟨rfl, xr313⟩ := hw
                          have hM : Mem D A ad ns (u2 (u2 (u2 (u2 Ia13 (1000) 55 (v4)) (1000) 53 (v27)) (1049) ((v19).toNatClampNeg) (v29)) (1000) 53 (v295)) La13 G H := hM
                          refine lv_iadd hx hb dX10_goes_422 ?_
                          refine lv_topi (fun v314 ev314 => ?_)
                          have tv314 := a_add ev314 (by omega) (by omega)
                          refine lv_istore (lv' := [(6, .int (v314)), (5, .int (v312)), (7, .int (v309)), (8, .int (v304)), (14, .int (v303)), (10, .int (v293)), (13, .int (v288)), (12, .int (Ia13 (1006) ((v19).toNatClampNeg))), (11, .int (r266)), (9, .int (v19)), (0, .ref (ad (1000))), (1, .int (a0)), (2, .int (a1)), (3, .int (a2)), (4, .int (a3))]) hx hb dX10_goes_423 hl (by decide) rfl (fun ls hl => ?_)
                          refine lv_goto (tgt := 13) hx hb dX10_goes_425 (by decide) ?_
                          have tr100055 : ((u2 (u2 (u2 (u2 Ia13 (1000) 55 (v4)) (1000) 53 (v27)) (1049) ((v19).toNatClampNeg) (v29)) (1000) 53 (v295)) (1000) 55).toInt = (v4 : Int32).toInt := congrArg Int32.toInt ((show (u2 (u2 (u2 (u2 Ia13 (1000) 55 (v4)) (1000) 53 (v27)) (1049) ((v19).toNatClampNeg) (v29)) (1000) 53 (v295)) (1000) 55 = v4 from by simp [u2_v]))
                          have tr100052 : ((u2 (u2 (u2 (u2 Ia13 (1000) 55 (v4)) (1000) 53 (v27)) (1049) ((v19).toNatClampNeg) (v29)) (1000) 53 (v295)) (1000) 52).toInt = (Ia13 (1000) 52 : Int32).toInt := congrArg Int32.toInt ((show (u2 (u2 (u2 (u2 Ia13 (1000) 55 (v4)) (1000) 53 (v27)) (1049) ((v19).toNatClampNeg) (v29)) (1000) 53 (v295)) (1000) 52 = Ia13 (1000) 52 from by simp [u2_v]))
                          have h55n : ((u2 (u2 (u2 (u2 Ia13 (1000) 55 (v4)) (1000) 53 (v27)) (1049) ((v19).toNatClampNeg) (v29)) (1000) 53 (v295)) (1000) 55).toInt = (v4 : Int32).toInt := congrArg Int32.toInt ((show (u2 (u2 (u2 (u2 Ia13 (1000) 55 (v4)) (1000) 53 (v27)) (1049) ((v19).toNatClampNeg) (v29)) (1000) 53 (v295)) (1000) 55 = v4 from by simp [u2_v]))
                          have h53 : v295 = (u2 (u2 (u2 Ia13 (1000) 55 (v4)) (1000) 53 (v27)) (1049) ((v19).toNatClampNeg) (v29)) 1000 53 + mirG (twM Ia13) (Ia13 (1006) ((v19).toNatClampNeg)) (r281) := by rw [← hG, ev295]; simp [u2_v]
                          have hMI : MIM (twM Ia13) (Ia13 (1006) ((v19).toNatClampNeg)) x5_13 x6_13 x7_13 (r281) (u2 (u2 (u2 Ia13 (1000) 55 (v4)) (1000) 53 (v27)) (1049) ((v19).toNatClampNeg) (v29)) (u2 (u2 (u2 (u2 Ia13 (1000) 55 (v4)) (1000) 53 (v27)) (1049) ((v19).toNatClampNeg) (v29)) (1000) 53 (v295)) := by rw [h53]; exact MIM.n (by rw [← hon]; omega)
                          exact ih13 (v304) (v309) (v314) (v312) (u2 (u2 (u2 (u2 Ia13 (1000) 55 (v4)) (1000) 53 (v27)) (1049) ((v19).toNatClampNeg) (v29)) (1000) 53 (v295)) La13 _ _ ls hI hK (by first | omega | decide) (by first | omega | decide) (by omega) (by rw [← tw13]; exact FXM.step hF13 (by omega) (by omega) (by omega) (by omega) hop (STM.y hcS hym hmv htl hMI) (by unfold stpW; rw [if_pos hym, ← hmv]; exact and7 (a := Ia13 1009 (Ia13 (1006) ((v19).toNatClampNeg)).toNatClampNeg) hr4 (by omega) (by omega)) (by unfold stpL; rw [if_pos hym, ← hmv, ← htl]; exact hL3) (by rw [ev312, xr311.1]) (by rw [ev314, xr313.1])) (by omega) hM hS (lv_sub hl [3, 2, 0, 1, 10, 11, 12, 13, 14] rfl)
                        · have hc305 := c305
                          have q305 := q_nle hc305
                          refine lv_aload_n hx hb dX10_goes_363 rfl (lv_at hl 10 rfl) ?_
                          refine lv_iload hx hb dX10_goes_364 (lv_at hl 9 rfl) ?_
                          refine lv_iload hx hb dX10_goes_366 (lv_at hl 7 rfl) ?_
                          have tw315 : twM (u2 (u2 (u2 (u2 Ia13 (1000) 55 (v4)) (1000) 53 (v27)) (1049) ((v19).toNatClampNeg) (v29)) (1000) 53 (v295)) = twM I := twM_kp hK rfl
                          refine m_calli (m_runS (As := [.int (x7_13)]) (rest := [.int (x5_13), .ref (ad (1000))]) hx hb hml hown hts hE hM hS hA ce_X10_stepX tb_1660 (V_X10_stepX_l l D A ad ns (u2 (u2 (u2 (u2 Ia13 (1000) 55 (v4)) (1000) 53 (v27)) (1049) ((v19).toNatClampNeg) (v29)) (1000) 53 (v295)) La13 G (x7_13) hI (by first | omega | decide)) rfl rfl ⟨Nat.le_of_ble_eq_true rfl, Nat.le_of_ble_eq_true rfl⟩  rfl hl.1 rfl (Nat.le_of_ble_eq_true rfl) dX10_goes_368 ⟨Nat.le_of_ble_eq_true rfl, Nat.le_of_ble_eq_true rfl⟩) hS (fun r316 u H locs hw hM hS => ?_)
                          obtain ⟨rfl, xr316⟩ := hw
                          have hM : Mem D A ad ns (u2 (u2 (u2 (u2 Ia13 (1000) 55 (v4)) (1000) 53 (v27)) (1049) ((v19).toNatClampNeg) (v29)) (1000) 53 (v295)) La13 G H := hM
                          refine lv_iadd hx hb dX10_goes_371 ?_
                          refine lv_topi (fun v317 ev317 => ?_)
                          have tv317 := a_add ev317 (by omega) (by omega)
                          refine lv_iload hx hb dX10_goes_372 (lv_at hl 8 rfl) ?_
                          refine lv_iload hx hb dX10_goes_374 (lv_at hl 7 rfl) ?_
                          refine m_calli (m_runS (As := [.int (x7_13)]) (rest := [.int (x6_13), .int (v317), .ref (ad (1000))]) hx hb hml hown hts hE hM hS hA ce_X10_stepY tb_1663 (V_X10_stepY_l l D A ad ns (u2 (u2 (u2 (u2 Ia13 (1000) 55 (v4)) (1000) 53 (v27)) (1049) ((v19).toNatClampNeg) (v29)) (1000) 53 (v295)) La13 G (x7_13) hI (by first | omega | decide)) rfl rfl ⟨Nat.le_of_ble_eq_true rfl, Nat.le_of_ble_eq_true rfl⟩  rfl hl.1 rfl (Nat.le_of_ble_eq_true rfl) dX10_goes_376 ⟨Nat.le_of_ble_eq_true rfl, Nat.le_of_ble_eq_true rfl⟩) hS (fun r318 u H locs hw hM hS => ?_)
                          obtain ⟨rfl, xr318⟩ := hw
                          have hM : Mem D A ad ns (u2 (u2 (u2 (u2 Ia13 (1000) 55 (v4)) (1000) 53 (v27)) (1049) ((v19).toNatClampNeg) (v29)) (1000) 53 (v295)) La13 G H := hM
                          refine lv_iadd hx hb dX10_goes_379 ?_
                          refine lv_topi (fun v319 ev319 => ?_)
                          have tv319 := a_add ev319 (by omega) (by omega)
                          refine lv_iload hx hb dX10_goes_380 (lv_at hl 7 rfl) ?_
                          refine lv_iload hx hb dX10_goes_382 (lv_at hl 1 rfl) ?_
                          refine m_callv (m_runV (1000) (As := [.int (v317), .int (v319), .int (x7_13), .int (v303)]) (rest := []) hx hb hml hown hts hE hM hS hA ce_X10_waitsFor tb_1666 (V_X10_waitsFor_l l D A ad ns (u2 (u2 (u2 (u2 Ia13 (1000) 55 (v4)) (1000) 53 (v27)) (1049) ((v19).toNatClampNeg) (v29)) (1000) 53 (v295)) La13 G (v317) (v319) (x7_13) (v303) hJ hI (by first | omega | decide) (by first | omega | decide)) rfl rfl ⟨Nat.le_of_ble_eq_true rfl, Nat.le_of_ble_eq_true rfl⟩ hJ.1 rfl rfl (by decide) rfl hl.1 rfl (Nat.le_of_ble_eq_true rfl) dX10_goes_384 ⟨Nat.le_of_ble_eq_true rfl, Nat.le_of_ble_eq_true rfl⟩) hS (fun u H locs hw hM hS => ?_)
                          obtain ⟨I320, L321, rfl, hI, hkI320, xI320⟩ := hw
                          have hM : Mem D A ad ns I320 L321 G H := hM
                          have hK := hK.trans hkI320 rfl
                          have pw322 : ((u2 (u2 (u2 (u2 Ia13 (1000) 55 (v4)) (1000) 53 (v27)) (1049) ((v19).toNatClampNeg) (v29)) (1000) 53 (v295)) (1000) 52).toInt = (Ia13 (1000) 52 : Int32).toInt := congrArg Int32.toInt ((show (u2 (u2 (u2 (u2 Ia13 (1000) 55 (v4)) (1000) 53 (v27)) (1049) ((v19).toNatClampNeg) (v29)) (1000) 53 (v295)) (1000) 52 = Ia13 (1000) 52 from by simp [u2_v]))
                          refine lv_aload_n hx hb dX10_goes_387 rfl (lv_at hl 10 rfl) ?_
                          refine m_getr (1000) 9 (1009) hx hb hts hown hE oc10 hM hJ.1 rfl (by decide) rfl (hJ.2 9 (by decide)).2 (by decide) tb_1186 dX10_goes_388 ?_
                          refine lv_iload hx hb dX10_goes_391 (lv_at hl 4 rfl) ?_
                          refine m_iald (1009) hx hb hE hM (hJ.2 9 (by decide)).1 rfl (vp_in_iff.mpr (by omega)) dX10_goes_393 ?_
                          have z323 : I320 (1009) (Ia13 (1006) ((v19).toNatClampNeg)).toNatClampNeg = Ia13 (1009) ((Ia13 (1006) ((v19).toNatClampNeg)).toNatClampNeg) := ((congrFun (hkI320.getA (1009) rfl) ((Ia13 (1006) ((v19).toNatClampNeg)).toNatClampNeg))).trans (show (u2 (u2 (u2 (u2 Ia13 (1000) 55 (v4)) (1000) 53 (v27)) (1049) ((v19).toNatClampNeg) (v29)) (1000) 53 (v295)) (1009) ((Ia13 (1006) ((v19).toNatClampNeg)).toNatClampNeg) = Ia13 (1009) ((Ia13 (1006) ((v19).toNatClampNeg)).toNatClampNeg) from by simp [u2_v])
                          rw [z323]
                          refine lv_iload hx hb dX10_goes_394 (lv_at hl 7 rfl) ?_
                          refine lv_isub hx hb dX10_goes_396 ?_
                          refine lv_topi (fun v324 ev324 => ?_)
                          have tv324 := a_sub ev324 (by omega) (by omega)
                          refine lv_bipush (v := (8)) hx hb dX10_goes_397 (by decide) ?_
                          refine lv_iadd hx hb dX10_goes_399 ?_
                          refine lv_topi (fun v325 ev325 => ?_)
                          have tv325 := a_add ev325 (by omega) (by omega)
                          refine lv_bipush (v := (8)) hx hb dX10_goes_400 (by decide) ?_
                          refine lv_irem hx hb dX10_goes_402 (by decide) ?_
                          refine lv_topi (fun v326 ev326 => ?_)
                          have tv326 := a_rem (c := 8) ev326 (by decide) (by decide) (by omega)
                          refine lv_istore (lv' := [(7, .int (v326)), (8, .int (v304)), (14, .int (v303)), (10, .int (v293)), (13, .int (v288)), (12, .int (Ia13 (1006) ((v19).toNatClampNeg))), (11, .int (r266)), (9, .int (v19)), (6, .int (x6_13)), (5, .int (x5_13)), (0, .ref (ad (1000))), (1, .int (a0)), (2, .int (a1)), (3, .int (a2)), (4, .int (a3))]) hx hb dX10_goes_403 hl (by decide) rfl (fun ls hl => ?_)
                          refine lv_iload hx hb dX10_goes_405 (lv_at hl 9 rfl) ?_
                          refine lv_iload hx hb dX10_goes_407 (lv_at hl 0 rfl) ?_
                          have tw327 : twM I320 = twM I := twM_kp hK rfl
                          refine m_calli (m_runS (As := [.int (v326)]) (rest := [.int (x5_13)]) hx hb hml hown hts hE hM hS hA ce_X10_stepX tb_1660 (V_X10_stepX_l l D A ad ns I320 L321 G (v326) hI (by first | omega | decide)) rfl rfl ⟨Nat.le_of_ble_eq_true rfl, Nat.le_of_ble_eq_true rfl⟩  rfl hl.1 rfl (Nat.le_of_ble_eq_true rfl) dX10_goes_409 ⟨Nat.le_of_ble_eq_true rfl, Nat.le_of_ble_eq_true rfl⟩) hS (fun r328 u H locs hw hM hS => ?_)
                          obtain ⟨rfl, xr328⟩ := hw
                          have hM : Mem D A ad ns I320 L321 G H := hM
                          refine lv_iadd hx hb dX10_goes_412 ?_
                          refine lv_topi (fun v329 ev329 => ?_)
                          have tv329 := a_add ev329 (by omega) (by omega)
                          refine lv_istore (lv' := [(5, .int (v329)), (7, .int (v326)), (8, .int (v304)), (14, .int (v303)), (10, .int (v293)), (13, .int (v288)), (12, .int (Ia13 (1006) ((v19).toNatClampNeg))), (11, .int (r266)), (9, .int (v19)), (6, .int (x6_13)), (0, .ref (ad (1000))), (1, .int (a0)), (2, .int (a1)), (3, .int (a2)), (4, .int (a3))]) hx hb dX10_goes_413 hl (by decide) rfl (fun ls hl => ?_)
                          refine lv_iload hx hb dX10_goes_415 (lv_at hl 9 rfl) ?_
                          refine lv_iload hx hb dX10_goes_417 (lv_at hl 1 rfl) ?_
                          refine m_calli (m_runS (As := [.int (v326)]) (rest := [.int (x6_13)]) hx hb hml hown hts hE hM hS hA ce_X10_stepY tb_1663 (V_X10_stepY_l l D A ad ns I320 L321 G (v326) hI (by first | omega | decide)) rfl rfl ⟨Nat.le_of_ble_eq_true rfl, Nat.le_of_ble_eq_true rfl⟩  rfl hl.1 rfl (Nat.le_of_ble_eq_true rfl) dX10_goes_419 ⟨Nat.le_of_ble_eq_true rfl, Nat.le_of_ble_eq_true rfl⟩) hS (fun r330 u H locs hw hM hS => ?_)
                          obtain ⟨rfl, xr330⟩ := hw
                          have hM : Mem D A ad ns I320 L321 G H := hM
                          refine lv_iadd hx hb dX10_goes_422 ?_
                          refine lv_topi (fun v331 ev331 => ?_)
                          have tv331 := a_add ev331 (by omega) (by omega)
                          refine lv_istore (lv' := [(6, .int (v331)), (5, .int (v329)), (7, .int (v326)), (8, .int (v304)), (14, .int (v303)), (10, .int (v293)), (13, .int (v288)), (12, .int (Ia13 (1006) ((v19).toNatClampNeg))), (11, .int (r266)), (9, .int (v19)), (0, .ref (ad (1000))), (1, .int (a0)), (2, .int (a1)), (3, .int (a2)), (4, .int (a3))]) hx hb dX10_goes_423 hl (by decide) rfl (fun ls hl => ?_)
                          refine lv_goto (tgt := 13) hx hb dX10_goes_425 (by decide) ?_
                          have tr100055 : (I320 (1000) 55).toInt = (v4 : Int32).toInt := congrArg Int32.toInt (((hkI320.get (1000) 55 rfl)).trans (show (u2 (u2 (u2 (u2 Ia13 (1000) 55 (v4)) (1000) 53 (v27)) (1049) ((v19).toNatClampNeg) (v29)) (1000) 53 (v295)) (1000) 55 = v4 from by simp [u2_v]))
                          have h55n : (I320 (1000) 55).toInt = (v4 : Int32).toInt := congrArg Int32.toInt (((hkI320.get (1000) 55 rfl)).trans (show (u2 (u2 (u2 (u2 Ia13 (1000) 55 (v4)) (1000) 53 (v27)) (1049) ((v19).toNatClampNeg) (v29)) (1000) 53 (v295)) (1000) 55 = v4 from by simp [u2_v]))
                          have h53 : v295 = (u2 (u2 (u2 Ia13 (1000) 55 (v4)) (1000) 53 (v27)) (1049) ((v19).toNatClampNeg) (v29)) 1000 53 + mirG (twM Ia13) (Ia13 (1006) ((v19).toNatClampNeg)) (r281) := by rw [← hG, ev295]; simp [u2_v]
                          have hMI : MIM (twM Ia13) (Ia13 (1006) ((v19).toNatClampNeg)) x5_13 x6_13 x7_13 (r281) (u2 (u2 (u2 Ia13 (1000) 55 (v4)) (1000) 53 (v27)) (1049) ((v19).toNatClampNeg) (v29)) I320 := by
                            refine MIM.y (by rw [← hon]; omega) ?_
                            rw [← h53, ← hon, show x5_13 + sX x7_13 = v317 from by rw [ev317, xr316.1], show x6_13 + sY x7_13 = v319 from by rw [ev319, xr318.1]]
                            exact xI320.2
                          exact ih13 (v304) (v326) (v331) (v329) I320 L321 _ _ ls hI hK (by first | omega | decide) (by first | omega | decide) (by omega) (by rw [← tw13]; exact FXM.step hF13 (by omega) (by omega) (by omega) (by omega) hop (STM.y hcS hym hmv htl hMI) (by unfold stpW; rw [if_pos hym, ← hmv]; exact and7 (a := Ia13 1009 (Ia13 (1006) ((v19).toNatClampNeg)).toNatClampNeg) hr4 (by omega) (by omega)) (by unfold stpL; rw [if_pos hym, ← hmv, ← htl]; exact hL3) (by rw [ev329, xr328.1]) (by rw [ev331, xr330.1])) (by omega) hM hS (lv_sub hl [3, 2, 0, 1, 10, 11, 12, 13, 14] rfl)
                      · have hc285 := c285
                        have q285 := q_nle hc285
                        refine lv_sipush (v := (1000)) hx hb dX10_goes_277 (by decide) ?_
                        refine lv_goto (tgt := 298) hx hb dX10_goes_280 (by decide) ?_
                        refine lv_istore (lv' := [(13, .int (1000)), (8, .int (r281)), (12, .int (Ia13 (1006) ((v19).toNatClampNeg))), (11, .int (r266)), (10, .int (v25)), (9, .int (v19)), (7, .int (x7_13)), (6, .int (x6_13)), (5, .int (x5_13)), (0, .ref (ad (1000))), (1, .int (a0)), (2, .int (a1)), (3, .int (a2)), (4, .int (a3))]) hx hb dX10_goes_298 hl (by decide) rfl (fun ls hl => ?_)
                        have hdu : (1000 : Int32) = lsT (twM Ia13) (Ia13 (1006) ((v19).toNatClampNeg)).toNatClampNeg := lsT_gt ev284 (by omega)
                        have hdl : 0 ≤ (1000 : Int32).toInt ∧ (1000 : Int32).toInt ≤ 1000 := by rw [hdu]; exact lsT_r hr1 hr2
                        have htl : r281 = cellL (twM Ia13) x5_13 x6_13 x8_13 := xr281.trans hcL
                        refine lv_iload hx hb dX10_goes_300 (lv_at hl 1 rfl) ?_
                        refine lv_i2l hx hb dX10_goes_302 rfl ?_
                        refine lv_topl (fun v332 ev332 => ?_)
                        have tv332 := q_i2l ev332
                        refine lv_iload hx hb dX10_goes_303 (lv_at hl 0 rfl) ?_
                        refine lv_i2l hx hb dX10_goes_305 rfl ?_
                        refine lv_topl (fun v333 ev333 => ?_)
                        have tv333 := q_i2l ev333
                        refine lv_lmul hx hb dX10_goes_306 ?_
                        refine lv_topl (fun v334 ev334 => ?_)
                        refine lv_ldc2 (v := (1000)) hx hb hown (hts _ tb_1428) dX10_goes_307 ?_
                        refine lv_ldiv hx hb dX10_goes_310 (by decide) ?_
                        refine lv_topl (fun v335 ev335 => ?_)
                        refine lv_l2i hx hb dX10_goes_311 rfl ?_
                        refine lv_topi (fun v336 ev336 => ?_)
                        have shv336 : v336 = shr (r281) (1000) := shr_l ev332 ev333 ev334 ev335 ev336 (by omega) hdl
                        have sbv336 := shr_b (s := r281) (t := 1000) (by omega) hdl
                        rw [← shv336] at sbv336
                        refine lv_istore (lv' := [(10, .int (v336)), (13, .int (1000)), (8, .int (r281)), (12, .int (Ia13 (1006) ((v19).toNatClampNeg))), (11, .int (r266)), (9, .int (v19)), (7, .int (x7_13)), (6, .int (x6_13)), (5, .int (x5_13)), (0, .ref (ad (1000))), (1, .int (a0)), (2, .int (a1)), (3, .int (a2)), (4, .int (a3))]) hx hb dX10_goes_312 hl (by decide) rfl (fun ls hl => ?_)
                        refine lv_aload_n hx hb dX10_goes_314 rfl (lv_at hl 9 rfl) ?_
                        refine lv_dup hx hb dX10_goes_315 rfl ?_
                        refine m_geti (1000) 53 hx hb hts hown hE oc10 hM hJ.1 rfl (by decide) rfl tb_1230 dX10_goes_316 ?_
                        have z337 : (u2 (u2 (u2 Ia13 (1000) 55 (v4)) (1000) 53 (v27)) (1049) ((v19).toNatClampNeg) (v29)) (1000) 53 = v27 := (show (u2 (u2 (u2 Ia13 (1000) 55 (v4)) (1000) 53 (v27)) (1049) ((v19).toNatClampNeg) (v29)) (1000) 53 = v27 from by simp [u2_v])
                        rw [z337]
                        refine lv_iload hx hb dX10_goes_319 (lv_at hl 0 rfl) ?_
                        refine lv_iadd hx hb dX10_goes_321 ?_
                        refine lv_topi (fun v338 ev338 => ?_)
                        refine m_puti (1000) 53 hx hb hts hown hE oc10 hM hS hJ.1 rfl (by decide) rfl rfl rfl rfl tb_1230 dX10_goes_322 (fun H locs I339 eI339 hM hS => ?_)
                        subst eI339
                        have hI := hI.putF (n := 1000) (k := 53) (v := v338) rfl
                        have hK := hK.put (n := 1000) (k := 53) (v := v338) (by first | rfl | simp [inR])
                        refine lv_iload hx hb dX10_goes_325 (lv_at hl 2 rfl) ?_
                        refine lv_iload hx hb dX10_goes_327 (lv_at hl 0 rfl) ?_
                        refine lv_isub hx hb dX10_goes_329 ?_
                        refine lv_topi (fun v340 ev340 => ?_)
                        have tv340 := a_sub ev340 (by omega) (by omega)
                        refine lv_istore (lv' := [(8, .int (v340)), (10, .int (v336)), (13, .int (1000)), (12, .int (Ia13 (1006) ((v19).toNatClampNeg))), (11, .int (r266)), (9, .int (v19)), (7, .int (x7_13)), (6, .int (x6_13)), (5, .int (x5_13)), (0, .ref (ad (1000))), (1, .int (a0)), (2, .int (a1)), (3, .int (a2)), (4, .int (a3))]) hx hb dX10_goes_330 hl (by decide) rfl (fun ls hl => ?_)
                        refine lv_iload hx hb dX10_goes_332 (lv_at hl 0 rfl) ?_
                        refine lv_i2l hx hb dX10_goes_334 rfl ?_
                        refine lv_topl (fun v341 ev341 => ?_)
                        have tv341 := q_i2l ev341
                        refine lv_aload_n hx hb dX10_goes_335 rfl (lv_at hl 9 rfl) ?_
                        refine m_getr (1000) 11 (1011) hx hb hts hown hE oc10 hM hJ.1 rfl (by decide) rfl (hJ.2 11 (by decide)).2 (by decide) tb_1188 dX10_goes_336 ?_
                        refine lv_iload hx hb dX10_goes_339 (lv_at hl 3 rfl) ?_
                        refine m_iald (1011) hx hb hE hM (hJ.2 11 (by decide)).1 rfl (vp_in_iff.mpr (by omega)) dX10_goes_341 ?_
                        have z342 : (u2 (u2 (u2 (u2 Ia13 (1000) 55 (v4)) (1000) 53 (v27)) (1049) ((v19).toNatClampNeg) (v29)) (1000) 53 (v338)) (1011) (Ia13 (1006) ((v19).toNatClampNeg)).toNatClampNeg = Ia13 (1011) ((Ia13 (1006) ((v19).toNatClampNeg)).toNatClampNeg) := (show (u2 (u2 (u2 (u2 Ia13 (1000) 55 (v4)) (1000) 53 (v27)) (1049) ((v19).toNatClampNeg) (v29)) (1000) 53 (v338)) (1011) ((Ia13 (1006) ((v19).toNatClampNeg)).toNatClampNeg) = Ia13 (1011) ((Ia13 (1006) ((v19).toNatClampNeg)).toNatClampNeg) from by simp [u2_v])
                        rw [z342]
                        refine lv_i2l hx hb dX10_goes_342 rfl ?_
                        refine lv_topl (fun v343 ev343 => ?_)
                        have tv343 := q_i2l ev343
                        refine lv_lmul hx hb dX10_goes_343 ?_
                        refine lv_topl (fun v344 ev344 => ?_)
                        refine lv_ldc2 (v := (1000)) hx hb hown (hts _ tb_1428) dX10_goes_344 ?_
                        refine lv_ldiv hx hb dX10_goes_347 (by decide) ?_
                        refine lv_topl (fun v345 ev345 => ?_)
                        refine lv_l2i hx hb dX10_goes_348 rfl ?_
                        refine lv_topi (fun v346 ev346 => ?_)
                        have shv346 : v346 = shr (v340) (Ia13 (1011) ((Ia13 (1006) ((v19).toNatClampNeg)).toNatClampNeg)) := shr_l ev341 ev343 ev344 ev345 ev346 (by omega) hth
                        have sbv346 := shr_b (s := v340) (t := Ia13 (1011) ((Ia13 (1006) ((v19).toNatClampNeg)).toNatClampNeg)) (by omega) hth
                        rw [← shv346] at sbv346
                        refine lv_istore (lv' := [(14, .int (v346)), (8, .int (v340)), (10, .int (v336)), (13, .int (1000)), (12, .int (Ia13 (1006) ((v19).toNatClampNeg))), (11, .int (r266)), (9, .int (v19)), (7, .int (x7_13)), (6, .int (x6_13)), (5, .int (x5_13)), (0, .ref (ad (1000))), (1, .int (a0)), (2, .int (a1)), (3, .int (a2)), (4, .int (a3))]) hx hb dX10_goes_349 hl (by decide) rfl (fun ls hl => ?_)
                        refine lv_iload hx hb dX10_goes_351 (lv_at hl 1 rfl) ?_
                        refine lv_iload hx hb dX10_goes_353 (lv_at hl 0 rfl) ?_
                        refine lv_isub hx hb dX10_goes_355 ?_
                        refine lv_topi (fun v347 ev347 => ?_)
                        have tv347 := a_sub ev347 (by omega) (by omega)
                        refine lv_istore (lv' := [(8, .int (v347)), (14, .int (v346)), (10, .int (v336)), (13, .int (1000)), (12, .int (Ia13 (1006) ((v19).toNatClampNeg))), (11, .int (r266)), (9, .int (v19)), (7, .int (x7_13)), (6, .int (x6_13)), (5, .int (x5_13)), (0, .ref (ad (1000))), (1, .int (a0)), (2, .int (a1)), (3, .int (a2)), (4, .int (a3))]) hx hb dX10_goes_356 hl (by decide) rfl (fun ls hl => ?_)
                        have hG : v336 = mirG (twM Ia13) (Ia13 (1006) ((v19).toNatClampNeg)) (r281) := by rw [shv336, hdu]; rfl
                        have hon : v346 = mirT (twM Ia13) (Ia13 (1006) ((v19).toNatClampNeg)) (r281) := by rw [shv346, ev340, hG]; rfl
                        have hL3 : v347 = mirL (twM Ia13) (Ia13 (1006) ((v19).toNatClampNeg)) (r281) := by rw [ev347, hon, ev340, hG]; rfl
                        refine lv_iload hx hb dX10_goes_358 (lv_at hl 1 rfl) ?_
                        refine lv_if_le (tgt := 387) hx hb dX10_goes_360 (by decide) (fun c348 => ?_) (fun c348 => ?_)
                        · have hc348 := c348
                          have q348 := q_le hc348
                          refine lv_aload_n hx hb dX10_goes_387 rfl (lv_at hl 10 rfl) ?_
                          refine m_getr (1000) 9 (1009) hx hb hts hown hE oc10 hM hJ.1 rfl (by decide) rfl (hJ.2 9 (by decide)).2 (by decide) tb_1186 dX10_goes_388 ?_
                          refine lv_iload hx hb dX10_goes_391 (lv_at hl 4 rfl) ?_
                          refine m_iald (1009) hx hb hE hM (hJ.2 9 (by decide)).1 rfl (vp_in_iff.mpr (by omega)) dX10_goes_393 ?_
                          have z349 : (u2 (u2 (u2 (u2 Ia13 (1000) 55 (v4)) (1000) 53 (v27)) (1049) ((v19).toNatClampNeg) (v29)) (1000) 53 (v338)) (1009) (Ia13 (1006) ((v19).toNatClampNeg)).toNatClampNeg = Ia13 (1009) ((Ia13 (1006) ((v19).toNatClampNeg)).toNatClampNeg) := (show (u2 (u2 (u2 (u2 Ia13 (1000) 55 (v4)) (1000) 53 (v27)) (1049) ((v19).toNatClampNeg) (v29)) (1000) 53 (v338)) (1009) ((Ia13 (1006) ((v19).toNatClampNeg)).toNatClampNeg) = Ia13 (1009) ((Ia13 (1006) ((v19).toNatClampNeg)).toNatClampNeg) from by simp [u2_v])
                          rw [z349]
                          refine lv_iload hx hb dX10_goes_394 (lv_at hl 7 rfl) ?_
                          refine lv_isub hx hb dX10_goes_396 ?_
                          refine lv_topi (fun v350 ev350 => ?_)
                          have tv350 := a_sub ev350 (by omega) (by omega)
                          refine lv_bipush (v := (8)) hx hb dX10_goes_397 (by decide) ?_
                          refine lv_iadd hx hb dX10_goes_399 ?_
                          refine lv_topi (fun v351 ev351 => ?_)
                          have tv351 := a_add ev351 (by omega) (by omega)
                          refine lv_bipush (v := (8)) hx hb dX10_goes_400 (by decide) ?_
                          refine lv_irem hx hb dX10_goes_402 (by decide) ?_
                          refine lv_topi (fun v352 ev352 => ?_)
                          have tv352 := a_rem (c := 8) ev352 (by decide) (by decide) (by omega)
                          refine lv_istore (lv' := [(7, .int (v352)), (8, .int (v347)), (14, .int (v346)), (10, .int (v336)), (13, .int (1000)), (12, .int (Ia13 (1006) ((v19).toNatClampNeg))), (11, .int (r266)), (9, .int (v19)), (6, .int (x6_13)), (5, .int (x5_13)), (0, .ref (ad (1000))), (1, .int (a0)), (2, .int (a1)), (3, .int (a2)), (4, .int (a3))]) hx hb dX10_goes_403 hl (by decide) rfl (fun ls hl => ?_)
                          refine lv_iload hx hb dX10_goes_405 (lv_at hl 9 rfl) ?_
                          refine lv_iload hx hb dX10_goes_407 (lv_at hl 0 rfl) ?_
                          have tw353 : twM (u2 (u2 (u2 (u2 Ia13 (1000) 55 (v4)) (1000) 53 (v27)) (1049) ((v19).toNatClampNeg) (v29)) (1000) 53 (v338)) = twM I := twM_kp hK rfl
                          refine m_calli (m_runS (As := [.int (v352)]) (rest := [.int (x5_13)]) hx hb hml hown hts hE hM hS hA ce_X10_stepX tb_1660 (V_X10_stepX_l l D A ad ns (u2 (u2 (u2 (u2 Ia13 (1000) 55 (v4)) (1000) 53 (v27)) (1049) ((v19).toNatClampNeg) (v29)) (1000) 53 (v338)) La13 G (v352) hI (by first | omega | decide)) rfl rfl ⟨Nat.le_of_ble_eq_true rfl, Nat.le_of_ble_eq_true rfl⟩  rfl hl.1 rfl (Nat.le_of_ble_eq_true rfl) dX10_goes_409 ⟨Nat.le_of_ble_eq_true rfl, Nat.le_of_ble_eq_true rfl⟩) hS (fun r354 u H locs hw hM hS => ?_)
                          obtain ⟨rfl, xr354⟩ := hw
                          have hM : Mem D A ad ns (u2 (u2 (u2 (u2 Ia13 (1000) 55 (v4)) (1000) 53 (v27)) (1049) ((v19).toNatClampNeg) (v29)) (1000) 53 (v338)) La13 G H := hM
                          refine lv_iadd hx hb dX10_goes_412 ?_
                          refine lv_topi (fun v355 ev355 => ?_)
                          have tv355 := a_add ev355 (by omega) (by omega)
                          refine lv_istore (lv' := [(5, .int (v355)), (7, .int (v352)), (8, .int (v347)), (14, .int (v346)), (10, .int (v336)), (13, .int (1000)), (12, .int (Ia13 (1006) ((v19).toNatClampNeg))), (11, .int (r266)), (9, .int (v19)), (6, .int (x6_13)), (0, .ref (ad (1000))), (1, .int (a0)), (2, .int (a1)), (3, .int (a2)), (4, .int (a3))]) hx hb dX10_goes_413 hl (by decide) rfl (fun ls hl => ?_)
                          refine lv_iload hx hb dX10_goes_415 (lv_at hl 9 rfl) ?_
                          refine lv_iload hx hb dX10_goes_417 (lv_at hl 1 rfl) ?_
                          refine m_calli (m_runS (As := [.int (v352)]) (rest := [.int (x6_13)]) hx hb hml hown hts hE hM hS hA ce_X10_stepY tb_1663 (V_X10_stepY_l l D A ad ns (u2 (u2 (u2 (u2 Ia13 (1000) 55 (v4)) (1000) 53 (v27)) (1049) ((v19).toNatClampNeg) (v29)) (1000) 53 (v338)) La13 G (v352) hI (by first | omega | decide)) rfl rfl ⟨Nat.le_of_ble_eq_true rfl, Nat.le_of_ble_eq_true rfl⟩  rfl hl.1 rfl (Nat.le_of_ble_eq_true rfl) dX10_goes_419 ⟨Nat.le_of_ble_eq_true rfl, Nat.le_of_ble_eq_true rfl⟩) hS (fun r356 u H locs hw hM hS => ?_)
                          obtain ⟨rfl, xr356⟩ := hw
                          have hM : Mem D A ad ns (u2 (u2 (u2 (u2 Ia13 (1000) 55 (v4)) (1000) 53 (v27)) (1049) ((v19).toNatClampNeg) (v29)) (1000) 53 (v338)) La13 G H := hM
                          refine lv_iadd hx hb dX10_goes_422 ?_
                          refine lv_topi (fun v357 ev357 => ?_)
                          have tv357 := a_add ev357 (by omega) (by omega)
                          refine lv_istore (lv' := [(6, .int (v357)), (5, .int (v355)), (7, .int (v352)), (8, .int (v347)), (14, .int (v346)), (10, .int (v336)), (13, .int (1000)), (12, .int (Ia13 (1006) ((v19).toNatClampNeg))), (11, .int (r266)), (9, .int (v19)), (0, .ref (ad (1000))), (1, .int (a0)), (2, .int (a1)), (3, .int (a2)), (4, .int (a3))]) hx hb dX10_goes_423 hl (by decide) rfl (fun ls hl => ?_)
                          refine lv_goto (tgt := 13) hx hb dX10_goes_425 (by decide) ?_
                          have tr100055 : ((u2 (u2 (u2 (u2 Ia13 (1000) 55 (v4)) (1000) 53 (v27)) (1049) ((v19).toNatClampNeg) (v29)) (1000) 53 (v338)) (1000) 55).toInt = (v4 : Int32).toInt := congrArg Int32.toInt ((show (u2 (u2 (u2 (u2 Ia13 (1000) 55 (v4)) (1000) 53 (v27)) (1049) ((v19).toNatClampNeg) (v29)) (1000) 53 (v338)) (1000) 55 = v4 from by simp [u2_v]))
                          have tr100052 : ((u2 (u2 (u2 (u2 Ia13 (1000) 55 (v4)) (1000) 53 (v27)) (1049) ((v19).toNatClampNeg) (v29)) (1000) 53 (v338)) (1000) 52).toInt = (Ia13 (1000) 52 : Int32).toInt := congrArg Int32.toInt ((show (u2 (u2 (u2 (u2 Ia13 (1000) 55 (v4)) (1000) 53 (v27)) (1049) ((v19).toNatClampNeg) (v29)) (1000) 53 (v338)) (1000) 52 = Ia13 (1000) 52 from by simp [u2_v]))
                          have h55n : ((u2 (u2 (u2 (u2 Ia13 (1000) 55 (v4)) (1000) 53 (v27)) (1049) ((v19).toNatClampNeg) (v29)) (1000) 53 (v338)) (1000) 55).toInt = (v4 : Int32).toInt := congrArg Int32.toInt ((show (u2 (u2 (u2 (u2 Ia13 (1000) 55 (v4)) (1000) 53 (v27)) (1049) ((v19).toNatClampNeg) (v29)) (1000) 53 (v338)) (1000) 55 = v4 from by simp [u2_v]))
                          have h53 : v338 = (u2 (u2 (u2 Ia13 (1000) 55 (v4)) (1000) 53 (v27)) (1049) ((v19).toNatClampNeg) (v29)) 1000 53 + mirG (twM Ia13) (Ia13 (1006) ((v19).toNatClampNeg)) (r281) := by rw [← hG, ev338]; simp [u2_v]
                          have hMI : MIM (twM Ia13) (Ia13 (1006) ((v19).toNatClampNeg)) x5_13 x6_13 x7_13 (r281) (u2 (u2 (u2 Ia13 (1000) 55 (v4)) (1000) 53 (v27)) (1049) ((v19).toNatClampNeg) (v29)) (u2 (u2 (u2 (u2 Ia13 (1000) 55 (v4)) (1000) 53 (v27)) (1049) ((v19).toNatClampNeg) (v29)) (1000) 53 (v338)) := by rw [h53]; exact MIM.n (by rw [← hon]; omega)
                          exact ih13 (v347) (v352) (v357) (v355) (u2 (u2 (u2 (u2 Ia13 (1000) 55 (v4)) (1000) 53 (v27)) (1049) ((v19).toNatClampNeg) (v29)) (1000) 53 (v338)) La13 _ _ ls hI hK (by first | omega | decide) (by first | omega | decide) (by omega) (by rw [← tw13]; exact FXM.step hF13 (by omega) (by omega) (by omega) (by omega) hop (STM.y hcS hym hmv htl hMI) (by unfold stpW; rw [if_pos hym, ← hmv]; exact and7 (a := Ia13 1009 (Ia13 (1006) ((v19).toNatClampNeg)).toNatClampNeg) hr4 (by omega) (by omega)) (by unfold stpL; rw [if_pos hym, ← hmv, ← htl]; exact hL3) (by rw [ev355, xr354.1]) (by rw [ev357, xr356.1])) (by omega) hM hS (lv_sub hl [3, 2, 0, 1, 10, 11, 12, 13, 14] rfl)
                        · have hc348 := c348
                          have q348 := q_nle hc348
                          refine lv_aload_n hx hb dX10_goes_363 rfl (lv_at hl 10 rfl) ?_
                          refine lv_iload hx hb dX10_goes_364 (lv_at hl 9 rfl) ?_
                          refine lv_iload hx hb dX10_goes_366 (lv_at hl 7 rfl) ?_
                          have tw358 : twM (u2 (u2 (u2 (u2 Ia13 (1000) 55 (v4)) (1000) 53 (v27)) (1049) ((v19).toNatClampNeg) (v29)) (1000) 53 (v338)) = twM I := twM_kp hK rfl
                          refine m_calli (m_runS (As := [.int (x7_13)]) (rest := [.int (x5_13), .ref (ad (1000))]) hx hb hml hown hts hE hM hS hA ce_X10_stepX tb_1660 (V_X10_stepX_l l D A ad ns (u2 (u2 (u2 (u2 Ia13 (1000) 55 (v4)) (1000) 53 (v27)) (1049) ((v19).toNatClampNeg) (v29)) (1000) 53 (v338)) La13 G (x7_13) hI (by first | omega | decide)) rfl rfl ⟨Nat.le_of_ble_eq_true rfl, Nat.le_of_ble_eq_true rfl⟩  rfl hl.1 rfl (Nat.le_of_ble_eq_true rfl) dX10_goes_368 ⟨Nat.le_of_ble_eq_true rfl, Nat.le_of_ble_eq_true rfl⟩) hS (fun r359 u H locs hw hM hS => ?_)
                          obtain ⟨rfl, xr359⟩ := hw
                          have hM : Mem D A ad ns (u2 (u2 (u2 (u2 Ia13 (1000) 55 (v4)) (1000) 53 (v27)) (1049) ((v19).toNatClampNeg) (v29)) (1000) 53 (v338)) La13 G H := hM
                          refine lv_iadd hx hb dX10_goes_371 ?_
                          refine lv_topi (fun v360 ev360 => ?_)
                          have tv360 := a_add ev360 (by omega) (by omega)
                          refine lv_iload hx hb dX10_goes_372 (lv_at hl 8 rfl) ?_
                          refine lv_iload hx hb dX10_goes_374 (lv_at hl 7 rfl) ?_
                          refine m_calli (m_runS (As := [.int (x7_13)]) (rest := [.int (x6_13), .int (v360), .ref (ad (1000))]) hx hb hml hown hts hE hM hS hA ce_X10_stepY tb_1663 (V_X10_stepY_l l D A ad ns (u2 (u2 (u2 (u2 Ia13 (1000) 55 (v4)) (1000) 53 (v27)) (1049) ((v19).toNatClampNeg) (v29)) (1000) 53 (v338)) La13 G (x7_13) hI (by first | omega | decide)) rfl rfl ⟨Nat.le_of_ble_eq_true rfl, Nat.le_of_ble_eq_true rfl⟩  rfl hl.1 rfl (Nat.le_of_ble_eq_true rfl) dX10_goes_376 ⟨Nat.le_of_ble_eq_true rfl, Nat.le_of_ble_eq_true rfl⟩) hS (fun r361 u H locs hw hM hS => ?_)
                          obtain ⟨rfl, xr361⟩ := hw
                          have hM : Mem D A ad ns (u2 (u2 (u2 (u2 Ia13 (1000) 55 (v4)) (1000) 53 (v27)) (1049) ((v19).toNatClampNeg) (v29)) (1000) 53 (v338)) La13 G H := hM
                          refine lv_iadd hx hb dX10_goes_379 ?_
                          refine lv_topi (fun v362 ev362 => ?_)
                          have tv362 := a_add ev362 (by omega) (by omega)
                          refine lv_iload hx hb dX10_goes_380 (lv_at hl 7 rfl) ?_
                          refine lv_iload hx hb dX10_goes_382 (lv_at hl 1 rfl) ?_
                          refine m_callv (m_runV (1000) (As := [.int (v360), .int (v362), .int (x7_13), .int (v346)]) (rest := []) hx hb hml hown hts hE hM hS hA ce_X10_waitsFor tb_1666 (V_X10_waitsFor_l l D A ad ns (u2 (u2 (u2 (u2 Ia13 (1000) 55 (v4)) (1000) 53 (v27)) (1049) ((v19).toNatClampNeg) (v29)) (1000) 53 (v338)) La13 G (v360) (v362) (x7_13) (v346) hJ hI (by first | omega | decide) (by first | omega | decide)) rfl rfl ⟨Nat.le_of_ble_eq_true rfl, Nat.le_of_ble_eq_true rfl⟩ hJ.1 rfl rfl (by decide) rfl hl.1 rfl (Nat.le_of_ble_eq_true rfl) dX10_goes_384 ⟨Nat.le_of_ble_eq_true rfl, Nat.le_of_ble_eq_true rfl⟩) hS (fun u H locs hw hM hS => ?_)
                          obtain ⟨I363, L364, rfl, hI, hkI363, xI363⟩ := hw
                          have hM : Mem D A ad ns I363 L364 G H := hM
                          have hK := hK.trans hkI363 rfl
                          have pw365 : ((u2 (u2 (u2 (u2 Ia13 (1000) 55 (v4)) (1000) 53 (v27)) (1049) ((v19).toNatClampNeg) (v29)) (1000) 53 (v338)) (1000) 52).toInt = (Ia13 (1000) 52 : Int32).toInt := congrArg Int32.toInt ((show (u2 (u2 (u2 (u2 Ia13 (1000) 55 (v4)) (1000) 53 (v27)) (1049) ((v19).toNatClampNeg) (v29)) (1000) 53 (v338)) (1000) 52 = Ia13 (1000) 52 from by simp [u2_v]))
                          refine lv_aload_n hx hb dX10_goes_387 rfl (lv_at hl 10 rfl) ?_
                          refine m_getr (1000) 9 (1009) hx hb hts hown hE oc10 hM hJ.1 rfl (by decide) rfl (hJ.2 9 (by decide)).2 (by decide) tb_1186 dX10_goes_388 ?_
                          refine lv_iload hx hb dX10_goes_391 (lv_at hl 4 rfl) ?_
                          refine m_iald (1009) hx hb hE hM (hJ.2 9 (by decide)).1 rfl (vp_in_iff.mpr (by omega)) dX10_goes_393 ?_
                          have z366 : I363 (1009) (Ia13 (1006) ((v19).toNatClampNeg)).toNatClampNeg = Ia13 (1009) ((Ia13 (1006) ((v19).toNatClampNeg)).toNatClampNeg) := ((congrFun (hkI363.getA (1009) rfl) ((Ia13 (1006) ((v19).toNatClampNeg)).toNatClampNeg))).trans (show (u2 (u2 (u2 (u2 Ia13 (1000) 55 (v4)) (1000) 53 (v27)) (1049) ((v19).toNatClampNeg) (v29)) (1000) 53 (v338)) (1009) ((Ia13 (1006) ((v19).toNatClampNeg)).toNatClampNeg) = Ia13 (1009) ((Ia13 (1006) ((v19).toNatClampNeg)).toNatClampNeg) from by simp [u2_v])
                          rw [z366]
                          refine lv_iload hx hb dX10_goes_394 (lv_at hl 7 rfl) ?_
                          refine lv_isub hx hb dX10_goes_396 ?_
                          refine lv_topi (fun v367 ev367 => ?_)
                          have tv367 := a_sub ev367 (by omega) (by omega)
                          refine lv_bipush (v := (8)) hx hb dX10_goes_397 (by decide) ?_
                          refine lv_iadd hx hb dX10_goes_399 ?_
                          refine lv_topi (fun v368 ev368 => ?_)
                          have tv368 := a_add ev368 (by omega) (by omega)
                          refine lv_bipush (v := (8)) hx hb dX10_goes_400 (by decide) ?_
                          refine lv_irem hx hb dX10_goes_402 (by decide) ?_
                          refine lv_topi (fun v369 ev369 => ?_)
                          have tv369 := a_rem (c := 8) ev369 (by decide) (by decide) (by omega)
                          refine lv_istore (lv' := [(7, .int (v369)), (8, .int (v347)), (14, .int (v346)), (10, .int (v336)), (13, .int (1000)), (12, .int (Ia13 (1006) ((v19).toNatClampNeg))), (11, .int (r266)), (9, .int (v19)), (6, .int (x6_13)), (5, .int (x5_13)), (0, .ref (ad (1000))), (1, .int (a0)), (2, .int (a1)), (3, .int (a2)), (4, .int (a3))]) hx hb dX10_goes_403 hl (by decide) rfl (fun ls hl => ?_)
                          refine lv_iload hx hb dX10_goes_405 (lv_at hl 9 rfl) ?_
                          refine lv_iload hx hb dX10_goes_407 (lv_at hl 0 rfl) ?_
                          have tw370 : twM I363 = twM I := twM_kp hK rfl
                          refine m_calli (m_runS (As := [.int (v369)]) (rest := [.int (x5_13)]) hx hb hml hown hts hE hM hS hA ce_X10_stepX tb_1660 (V_X10_stepX_l l D A ad ns I363 L364 G (v369) hI (by first | omega | decide)) rfl rfl ⟨Nat.le_of_ble_eq_true rfl, Nat.le_of_ble_eq_true rfl⟩  rfl hl.1 rfl (Nat.le_of_ble_eq_true rfl) dX10_goes_409 ⟨Nat.le_of_ble_eq_true rfl, Nat.le_of_ble_eq_true rfl⟩) hS (fun r371 u H locs hw hM hS => ?_)
                          obtain ⟨rfl, xr371⟩ := hw
                          have hM : Mem D A ad ns I363 L364 G H := hM
                          refine lv_iadd hx hb dX10_goes_412 ?_
                          refine lv_topi (fun v372 ev372 => ?_)
                          have tv372 := a_add ev372 (by omega) (by omega)
                          refine lv_istore (lv' := [(5, .int (v372)), (7, .int (v369)), (8, .int (v347)), (14, .int (v346)), (10, .int (v336)), (13, .int (1000)), (12, .int (Ia13 (1006) ((v19).toNatClampNeg))), (11, .int (r266)), (9, .int (v19)), (6, .int (x6_13)), (0, .ref (ad (1000))), (1, .int (a0)), (2, .int (a1)), (3, .int (a2)), (4, .int (a3))]) hx hb dX10_goes_413 hl (by decide) rfl (fun ls hl => ?_)
                          refine lv_iload hx hb dX10_goes_415 (lv_at hl 9 rfl) ?_
                          refine lv_iload hx hb dX10_goes_417 (lv_at hl 1 rfl) ?_
                          refine m_calli (m_runS (As := [.int (v369)]) (rest := [.int (x6_13)]) hx hb hml hown hts hE hM hS hA ce_X10_stepY tb_1663 (V_X10_stepY_l l D A ad ns I363 L364 G (v369) hI (by first | omega | decide)) rfl rfl ⟨Nat.le_of_ble_eq_true rfl, Nat.le_of_ble_eq_true rfl⟩  rfl hl.1 rfl (Nat.le_of_ble_eq_true rfl) dX10_goes_419 ⟨Nat.le_of_ble_eq_true rfl, Nat.le_of_ble_eq_true rfl⟩) hS (fun r373 u H locs hw hM hS => ?_)
                          obtain ⟨rfl, xr373⟩ := hw
                          have hM : Mem D A ad ns I363 L364 G H := hM
                          refine lv_iadd hx hb dX10_goes_422 ?_
                          refine lv_topi (fun v374 ev374 => ?_)
                          have tv374 := a_add ev374 (by omega) (by omega)
                          refine lv_istore (lv' := [(6, .int (v374)), (5, .int (v372)), (7, .int (v369)), (8, .int (v347)), (14, .int (v346)), (10, .int (v336)), (13, .int (1000)), (12, .int (Ia13 (1006) ((v19).toNatClampNeg))), (11, .int (r266)), (9, .int (v19)), (0, .ref (ad (1000))), (1, .int (a0)), (2, .int (a1)), (3, .int (a2)), (4, .int (a3))]) hx hb dX10_goes_423 hl (by decide) rfl (fun ls hl => ?_)
                          refine lv_goto (tgt := 13) hx hb dX10_goes_425 (by decide) ?_
                          have tr100055 : (I363 (1000) 55).toInt = (v4 : Int32).toInt := congrArg Int32.toInt (((hkI363.get (1000) 55 rfl)).trans (show (u2 (u2 (u2 (u2 Ia13 (1000) 55 (v4)) (1000) 53 (v27)) (1049) ((v19).toNatClampNeg) (v29)) (1000) 53 (v338)) (1000) 55 = v4 from by simp [u2_v]))
                          have h55n : (I363 (1000) 55).toInt = (v4 : Int32).toInt := congrArg Int32.toInt (((hkI363.get (1000) 55 rfl)).trans (show (u2 (u2 (u2 (u2 Ia13 (1000) 55 (v4)) (1000) 53 (v27)) (1049) ((v19).toNatClampNeg) (v29)) (1000) 53 (v338)) (1000) 55 = v4 from by simp [u2_v]))
                          have h53 : v338 = (u2 (u2 (u2 Ia13 (1000) 55 (v4)) (1000) 53 (v27)) (1049) ((v19).toNatClampNeg) (v29)) 1000 53 + mirG (twM Ia13) (Ia13 (1006) ((v19).toNatClampNeg)) (r281) := by rw [← hG, ev338]; simp [u2_v]
                          have hMI : MIM (twM Ia13) (Ia13 (1006) ((v19).toNatClampNeg)) x5_13 x6_13 x7_13 (r281) (u2 (u2 (u2 Ia13 (1000) 55 (v4)) (1000) 53 (v27)) (1049) ((v19).toNatClampNeg) (v29)) I363 := by
                            refine MIM.y (by rw [← hon]; omega) ?_
                            rw [← h53, ← hon, show x5_13 + sX x7_13 = v360 from by rw [ev360, xr359.1], show x6_13 + sY x7_13 = v362 from by rw [ev362, xr361.1]]
                            exact xI363.2
                          exact ih13 (v347) (v369) (v374) (v372) I363 L364 _ _ ls hI hK (by first | omega | decide) (by first | omega | decide) (by omega) (by rw [← tw13]; exact FXM.step hF13 (by omega) (by omega) (by omega) (by omega) hop (STM.y hcS hym hmv htl hMI) (by unfold stpW; rw [if_pos hym, ← hmv]; exact and7 (a := Ia13 1009 (Ia13 (1006) ((v19).toNatClampNeg)).toNatClampNeg) hr4 (by omega) (by omega)) (by unfold stpL; rw [if_pos hym, ← hmv, ← htl]; exact hL3) (by rw [ev372, xr371.1]) (by rw [ev374, xr373.1])) (by omega) hM hS (lv_sub hl [3, 2, 0, 1, 10, 11, 12, 13, 14] rfl)
                · have hc267 := c267
                  have q267 := q_ne hc267
                  have htk : 0 ≤ (Ia13 1021 (r266).toNatClampNeg).toInt ∧ (Ia13 1021 (r266).toNatClampNeg).toInt ≤ 1000 := hTR3.2.2.1 _ (by have z := tn (i := r266) (by omega); omega)
                  refine lv_iload hx hb dX10_goes_183 (lv_at hl 1 rfl) ?_
                  refine lv_i2l hx hb dX10_goes_185 rfl ?_
                  refine lv_topl (fun v375 ev375 => ?_)
                  have tv375 := q_i2l ev375
                  refine lv_aload_n hx hb dX10_goes_186 rfl (lv_at hl 7 rfl) ?_
                  refine m_getr (1000) 21 (1021) hx hb hts hown hE oc10 hM hJ.1 rfl (by decide) rfl (hJ.2 21 (by decide)).2 (by decide) tb_1198 dX10_goes_187 ?_
                  refine lv_iload hx hb dX10_goes_190 (lv_at hl 0 rfl) ?_
                  refine m_iald (1021) hx hb hE hM (hJ.2 21 (by decide)).1 rfl (vp_in_iff.mpr (by omega)) dX10_goes_192 ?_
                  have z376 : (u2 (u2 (u2 Ia13 (1000) 55 (v4)) (1000) 53 (v27)) (1049) ((v19).toNatClampNeg) (v29)) (1021) (r266).toNatClampNeg = Ia13 (1021) ((r266).toNatClampNeg) := (show (u2 (u2 (u2 Ia13 (1000) 55 (v4)) (1000) 53 (v27)) (1049) ((v19).toNatClampNeg) (v29)) (1021) ((r266).toNatClampNeg) = Ia13 (1021) ((r266).toNatClampNeg) from by simp [u2_v])
                  rw [z376]
                  refine lv_i2l hx hb dX10_goes_193 rfl ?_
                  refine lv_topl (fun v377 ev377 => ?_)
                  have tv377 := q_i2l ev377
                  refine lv_lmul hx hb dX10_goes_194 ?_
                  refine lv_topl (fun v378 ev378 => ?_)
                  refine lv_ldc2 (v := (1000)) hx hb hown (hts _ tb_1428) dX10_goes_195 ?_
                  refine lv_ldiv hx hb dX10_goes_198 (by decide) ?_
                  refine lv_topl (fun v379 ev379 => ?_)
                  refine lv_l2i hx hb dX10_goes_199 rfl ?_
                  refine lv_topi (fun v380 ev380 => ?_)
                  have shv380 : v380 = shr (v29) (Ia13 (1021) ((r266).toNatClampNeg)) := shr_l ev375 ev377 ev378 ev379 ev380 (by omega) htk
                  have sbv380 := shr_b (s := v29) (t := Ia13 (1021) ((r266).toNatClampNeg)) (by omega) htk
                  rw [← shv380] at sbv380
                  refine lv_istore (lv' := [(10, .int (v380)), (11, .int (r266)), (8, .int (v29)), (9, .int (v19)), (7, .int (x7_13)), (6, .int (x6_13)), (5, .int (x5_13)), (0, .ref (ad (1000))), (1, .int (a0)), (2, .int (a1)), (3, .int (a2)), (4, .int (a3))]) hx hb dX10_goes_200 hl (by decide) rfl (fun ls hl => ?_)
                  refine lv_aload_n hx hb dX10_goes_202 rfl (lv_at hl 7 rfl) ?_
                  refine m_getr (1000) 50 (1050) hx hb hts hown hE oc10 hM hJ.1 rfl (by decide) rfl (hJ.2 50 (by decide)).2 (by decide) tb_1227 dX10_goes_203 ?_
                  refine lv_iload hx hb dX10_goes_206 (lv_at hl 1 rfl) ?_
                  refine lv_dup2_11 hx hb dX10_goes_208 rfl rfl ?_
                  refine m_iald (1050) hx hb hE hM (hJ.2 50 (by decide)).1 rfl (vp_in_iff.mpr (by omega)) dX10_goes_209 ?_
                  have z381 : (u2 (u2 (u2 Ia13 (1000) 55 (v4)) (1000) 53 (v27)) (1049) ((v19).toNatClampNeg) (v29)) (1050) (r266).toNatClampNeg = Ia13 (1050) ((r266).toNatClampNeg) := (show (u2 (u2 (u2 Ia13 (1000) 55 (v4)) (1000) 53 (v27)) (1049) ((v19).toNatClampNeg) (v29)) (1050) ((r266).toNatClampNeg) = Ia13 (1050) ((r266).toNatClampNeg) from by simp [u2_v])
                  rw [z381]
                  refine lv_iload hx hb dX10_goes_210 (lv_at hl 0 rfl) ?_
                  refine lv_iadd hx hb dX10_goes_212 ?_
                  refine lv_topi (fun v382 ev382 => ?_)
                  refine m_iast (1050) hx hb hE hM hS (hJ.2 50 (by decide)).1 rfl (vp_in_iff.mpr (by omega)) dX10_goes_213 (fun H locs I383 eI383 hM hS => ?_)
                  subst eI383
                  have hI := hI.putF (n := 1050) (k := ((r266).toNatClampNeg)) (v := v382) rfl
                  have hK := hK.put (n := 1050) (k := ((r266).toNatClampNeg)) (v := v382) (by first | rfl | simp [inR])
                  refine lv_iload hx hb dX10_goes_214 (lv_at hl 2 rfl) ?_
                  refine lv_iload hx hb dX10_goes_216 (lv_at hl 0 rfl) ?_
                  refine lv_isub hx hb dX10_goes_218 ?_
                  refine lv_topi (fun v384 ev384 => ?_)
                  have tv384 := a_sub ev384 (by omega) (by omega)
                  refine lv_istore (lv' := [(8, .int (v384)), (10, .int (v380)), (11, .int (r266)), (9, .int (v19)), (7, .int (x7_13)), (6, .int (x6_13)), (5, .int (x5_13)), (0, .ref (ad (1000))), (1, .int (a0)), (2, .int (a1)), (3, .int (a2)), (4, .int (a3))]) hx hb dX10_goes_219 hl (by decide) rfl (fun ls hl => ?_)
                  have hyn : ((twM Ia13).yat (clN x5_13 x6_13)).toInt ≠ -1 := by rw [← hyv]; omega
                  have hg2 : v380 = shr (airL (twM Ia13) x8_13) ((twM Ia13).tk ((twM Ia13).yat (clN x5_13 x6_13)).toNatClampNeg) := by rw [shv380, hl1, ← hyv]; rfl
                  have hcL : v384 = cellL (twM Ia13) x5_13 x6_13 x8_13 := cellL_y hyn (by rw [ev384, hg2, ← hl1])
                  have hcS : CEm (twM Ia13) x5_13 x6_13 x8_13 Ia13 (u2 (u2 (u2 (u2 Ia13 (1000) 55 (v4)) (1000) 53 (v27)) (1049) ((v19).toNatClampNeg) (v29)) (1050) ((r266).toNatClampNeg) (v382)) := by
                    have h50 : v382 = (u2 (u2 (u2 Ia13 (1000) 55 (v4)) (1000) 53 (v27)) (1049) ((v19).toNatClampNeg) (v29)) 1050 (r266).toNatClampNeg + v380 := by rw [ev382]; simp [u2_v]
                    rw [h50]
                    exact CEm.y ha1 hyn (congrArg Int32.toNatClampNeg hyv) (by have z := tn (i := r266) (by omega); omega) (by rw [hyv]; exact hg2)
                  refine lv_aload_n hx hb dX10_goes_221 rfl (lv_at hl 7 rfl) ?_
                  refine m_getr (1000) 6 (1006) hx hb hts hown hE oc10 hM hJ.1 rfl (by decide) rfl (hJ.2 6 (by decide)).2 (by decide) tb_1183 dX10_goes_222 ?_
                  refine lv_iload hx hb dX10_goes_225 (lv_at hl 3 rfl) ?_
                  refine m_iald (1006) hx hb hE hM (hJ.2 6 (by decide)).1 rfl (vp_in_iff.mpr (by omega)) dX10_goes_227 ?_
                  have g385 := hI.get (1006) ((v19).toNatClampNeg) (lo := -1) (hi := 23) rfl
                  have z386 : (u2 (u2 (u2 (u2 Ia13 (1000) 55 (v4)) (1000) 53 (v27)) (1049) ((v19).toNatClampNeg) (v29)) (1050) ((r266).toNatClampNeg) (v382)) (1006) (v19).toNatClampNeg = Ia13 (1006) ((v19).toNatClampNeg) := (show (u2 (u2 (u2 (u2 Ia13 (1000) 55 (v4)) (1000) 53 (v27)) (1049) ((v19).toNatClampNeg) (v29)) (1050) ((r266).toNatClampNeg) (v382)) (1006) ((v19).toNatClampNeg) = Ia13 (1006) ((v19).toNatClampNeg) from by simp [u2_v])
                  rw [z386] at g385 ⊢
                  refine lv_istore (lv' := [(12, .int (Ia13 (1006) ((v19).toNatClampNeg))), (8, .int (v384)), (10, .int (v380)), (11, .int (r266)), (9, .int (v19)), (7, .int (x7_13)), (6, .int (x6_13)), (5, .int (x5_13)), (0, .ref (ad (1000))), (1, .int (a0)), (2, .int (a1)), (3, .int (a2)), (4, .int (a3))]) hx hb dX10_goes_228 hl (by decide) rfl (fun ls hl => ?_)
                  refine lv_iload hx hb dX10_goes_230 (lv_at hl 0 rfl) ?_
                  refine lv_iconst (v := (-1)) hx hb dX10_goes_232 (by decide) ?_
                  refine lv_icmp_eq (tgt := 405) hx hb dX10_goes_233 (by decide) (fun c387 => ?_) (fun c387 => ?_)
                  · have hc387 := c387
                    have q387 := q_eq hc387
                    refine lv_iload hx hb dX10_goes_405 (lv_at hl 7 rfl) ?_
                    refine lv_iload hx hb dX10_goes_407 (lv_at hl 5 rfl) ?_
                    have tw388 : twM (u2 (u2 (u2 (u2 Ia13 (1000) 55 (v4)) (1000) 53 (v27)) (1049) ((v19).toNatClampNeg) (v29)) (1050) ((r266).toNatClampNeg) (v382)) = twM I := twM_kp hK rfl
                    refine m_calli (m_runS (As := [.int (x7_13)]) (rest := [.int (x5_13)]) hx hb hml hown hts hE hM hS hA ce_X10_stepX tb_1660 (V_X10_stepX_l l D A ad ns (u2 (u2 (u2 (u2 Ia13 (1000) 55 (v4)) (1000) 53 (v27)) (1049) ((v19).toNatClampNeg) (v29)) (1050) ((r266).toNatClampNeg) (v382)) La13 G (x7_13) hI (by first | omega | decide)) rfl rfl ⟨Nat.le_of_ble_eq_true rfl, Nat.le_of_ble_eq_true rfl⟩  rfl hl.1 rfl (Nat.le_of_ble_eq_true rfl) dX10_goes_409 ⟨Nat.le_of_ble_eq_true rfl, Nat.le_of_ble_eq_true rfl⟩) hS (fun r389 u H locs hw hM hS => ?_)
                    obtain ⟨rfl, xr389⟩ := hw
                    have hM : Mem D A ad ns (u2 (u2 (u2 (u2 Ia13 (1000) 55 (v4)) (1000) 53 (v27)) (1049) ((v19).toNatClampNeg) (v29)) (1050) ((r266).toNatClampNeg) (v382)) La13 G H := hM
                    refine lv_iadd hx hb dX10_goes_412 ?_
                    refine lv_topi (fun v390 ev390 => ?_)
                    have tv390 := a_add ev390 (by omega) (by omega)
                    refine lv_istore (lv' := [(5, .int (v390)), (12, .int (Ia13 (1006) ((v19).toNatClampNeg))), (8, .int (v384)), (10, .int (v380)), (11, .int (r266)), (9, .int (v19)), (7, .int (x7_13)), (6, .int (x6_13)), (0, .ref (ad (1000))), (1, .int (a0)), (2, .int (a1)), (3, .int (a2)), (4, .int (a3))]) hx hb dX10_goes_413 hl (by decide) rfl (fun ls hl => ?_)
                    refine lv_iload hx hb dX10_goes_415 (lv_at hl 7 rfl) ?_
                    refine lv_iload hx hb dX10_goes_417 (lv_at hl 6 rfl) ?_
                    refine m_calli (m_runS (As := [.int (x7_13)]) (rest := [.int (x6_13)]) hx hb hml hown hts hE hM hS hA ce_X10_stepY tb_1663 (V_X10_stepY_l l D A ad ns (u2 (u2 (u2 (u2 Ia13 (1000) 55 (v4)) (1000) 53 (v27)) (1049) ((v19).toNatClampNeg) (v29)) (1050) ((r266).toNatClampNeg) (v382)) La13 G (x7_13) hI (by first | omega | decide)) rfl rfl ⟨Nat.le_of_ble_eq_true rfl, Nat.le_of_ble_eq_true rfl⟩  rfl hl.1 rfl (Nat.le_of_ble_eq_true rfl) dX10_goes_419 ⟨Nat.le_of_ble_eq_true rfl, Nat.le_of_ble_eq_true rfl⟩) hS (fun r391 u H locs hw hM hS => ?_)
                    obtain ⟨rfl, xr391⟩ := hw
                    have hM : Mem D A ad ns (u2 (u2 (u2 (u2 Ia13 (1000) 55 (v4)) (1000) 53 (v27)) (1049) ((v19).toNatClampNeg) (v29)) (1050) ((r266).toNatClampNeg) (v382)) La13 G H := hM
                    refine lv_iadd hx hb dX10_goes_422 ?_
                    refine lv_topi (fun v392 ev392 => ?_)
                    have tv392 := a_add ev392 (by omega) (by omega)
                    refine lv_istore (lv' := [(6, .int (v392)), (5, .int (v390)), (12, .int (Ia13 (1006) ((v19).toNatClampNeg))), (8, .int (v384)), (10, .int (v380)), (11, .int (r266)), (9, .int (v19)), (7, .int (x7_13)), (0, .ref (ad (1000))), (1, .int (a0)), (2, .int (a1)), (3, .int (a2)), (4, .int (a3))]) hx hb dX10_goes_423 hl (by decide) rfl (fun ls hl => ?_)
                    refine lv_goto (tgt := 13) hx hb dX10_goes_425 (by decide) ?_
                    have tr100055 : ((u2 (u2 (u2 (u2 Ia13 (1000) 55 (v4)) (1000) 53 (v27)) (1049) ((v19).toNatClampNeg) (v29)) (1050) ((r266).toNatClampNeg) (v382)) (1000) 55).toInt = (v4 : Int32).toInt := congrArg Int32.toInt ((show (u2 (u2 (u2 (u2 Ia13 (1000) 55 (v4)) (1000) 53 (v27)) (1049) ((v19).toNatClampNeg) (v29)) (1050) ((r266).toNatClampNeg) (v382)) (1000) 55 = v4 from by simp [u2_v]))
                    have tr100052 : ((u2 (u2 (u2 (u2 Ia13 (1000) 55 (v4)) (1000) 53 (v27)) (1049) ((v19).toNatClampNeg) (v29)) (1050) ((r266).toNatClampNeg) (v382)) (1000) 52).toInt = (Ia13 (1000) 52 : Int32).toInt := congrArg Int32.toInt ((show (u2 (u2 (u2 (u2 Ia13 (1000) 55 (v4)) (1000) 53 (v27)) (1049) ((v19).toNatClampNeg) (v29)) (1050) ((r266).toNatClampNeg) (v382)) (1000) 52 = Ia13 (1000) 52 from by simp [u2_v]))
                    have h55n : ((u2 (u2 (u2 (u2 Ia13 (1000) 55 (v4)) (1000) 53 (v27)) (1049) ((v19).toNatClampNeg) (v29)) (1050) ((r266).toNatClampNeg) (v382)) (1000) 55).toInt = (v4 : Int32).toInt := congrArg Int32.toInt ((show (u2 (u2 (u2 (u2 Ia13 (1000) 55 (v4)) (1000) 53 (v27)) (1049) ((v19).toNatClampNeg) (v29)) (1050) ((r266).toNatClampNeg) (v382)) (1000) 55 = v4 from by simp [u2_v]))
                    have hmv : Ia13 (1006) ((v19).toNatClampNeg) = (twM Ia13).mat (clN x5_13 x6_13) := by rw [← hcl]; rfl
                    have hnm : ¬ isM (twM Ia13) (clN x5_13 x6_13) := fun z => z.1 (by rw [← hmv]; omega)
                    exact ih13 (v384) (x7_13) (v392) (v390) (u2 (u2 (u2 (u2 Ia13 (1000) 55 (v4)) (1000) 53 (v27)) (1049) ((v19).toNatClampNeg) (v29)) (1050) ((r266).toNatClampNeg) (v382)) La13 _ _ ls hI hK (by first | omega | decide) (by first | omega | decide) (by omega) (by rw [← tw13]; exact FXM.step hF13 (by omega) (by omega) (by omega) (by omega) hop (STM.n hcS hnm) (by unfold stpW; rw [if_neg hnm]) (by unfold stpL; rw [if_neg hnm]; exact hcL) (by rw [ev390, xr389.1]) (by rw [ev392, xr391.1])) (by omega) hM hS (lv_sub hl [3, 7, 0, 1, 8, 9, 10, 11, 12] rfl)
                  · have hc387 := c387
                    have q387 := q_ne hc387
                    refine lv_aload_n hx hb dX10_goes_236 rfl (lv_at hl 8 rfl) ?_
                    refine m_getr (1000) 15 (1015) hx hb hts hown hE oc10 hM hJ.1 rfl (by decide) rfl (hJ.2 15 (by decide)).2 (by decide) tb_1192 dX10_goes_237 ?_
                    refine lv_iload hx hb dX10_goes_240 (lv_at hl 0 rfl) ?_
                    refine m_iald (1015) hx hb hE hM (hJ.2 15 (by decide)).1 rfl (vp_in_iff.mpr (by omega)) dX10_goes_242 ?_
                    have z393 : (u2 (u2 (u2 (u2 Ia13 (1000) 55 (v4)) (1000) 53 (v27)) (1049) ((v19).toNatClampNeg) (v29)) (1050) ((r266).toNatClampNeg) (v382)) (1015) (Ia13 (1006) ((v19).toNatClampNeg)).toNatClampNeg = Ia13 (1015) ((Ia13 (1006) ((v19).toNatClampNeg)).toNatClampNeg) := (show (u2 (u2 (u2 (u2 Ia13 (1000) 55 (v4)) (1000) 53 (v27)) (1049) ((v19).toNatClampNeg) (v29)) (1050) ((r266).toNatClampNeg) (v382)) (1015) ((Ia13 (1006) ((v19).toNatClampNeg)).toNatClampNeg) = Ia13 (1015) ((Ia13 (1006) ((v19).toNatClampNeg)).toNatClampNeg) from by simp [u2_v])
                    rw [z393]
                    refine lv_if_ne (tgt := 405) hx hb dX10_goes_243 (by decide) (fun c394 => ?_) (fun c394 => ?_)
                    · have hc394 := c394
                      have q394 := q_ne hc394
                      refine lv_iload hx hb dX10_goes_405 (lv_at hl 7 rfl) ?_
                      refine lv_iload hx hb dX10_goes_407 (lv_at hl 5 rfl) ?_
                      have tw395 : twM (u2 (u2 (u2 (u2 Ia13 (1000) 55 (v4)) (1000) 53 (v27)) (1049) ((v19).toNatClampNeg) (v29)) (1050) ((r266).toNatClampNeg) (v382)) = twM I := twM_kp hK rfl
                      refine m_calli (m_runS (As := [.int (x7_13)]) (rest := [.int (x5_13)]) hx hb hml hown hts hE hM hS hA ce_X10_stepX tb_1660 (V_X10_stepX_l l D A ad ns (u2 (u2 (u2 (u2 Ia13 (1000) 55 (v4)) (1000) 53 (v27)) (1049) ((v19).toNatClampNeg) (v29)) (1050) ((r266).toNatClampNeg) (v382)) La13 G (x7_13) hI (by first | omega | decide)) rfl rfl ⟨Nat.le_of_ble_eq_true rfl, Nat.le_of_ble_eq_true rfl⟩  rfl hl.1 rfl (Nat.le_of_ble_eq_true rfl) dX10_goes_409 ⟨Nat.le_of_ble_eq_true rfl, Nat.le_of_ble_eq_true rfl⟩) hS (fun r396 u H locs hw hM hS => ?_)
                      obtain ⟨rfl, xr396⟩ := hw
                      have hM : Mem D A ad ns (u2 (u2 (u2 (u2 Ia13 (1000) 55 (v4)) (1000) 53 (v27)) (1049) ((v19).toNatClampNeg) (v29)) (1050) ((r266).toNatClampNeg) (v382)) La13 G H := hM
                      refine lv_iadd hx hb dX10_goes_412 ?_
                      refine lv_topi (fun v397 ev397 => ?_)
                      have tv397 := a_add ev397 (by omega) (by omega)
                      refine lv_istore (lv' := [(5, .int (v397)), (12, .int (Ia13 (1006) ((v19).toNatClampNeg))), (8, .int (v384)), (10, .int (v380)), (11, .int (r266)), (9, .int (v19)), (7, .int (x7_13)), (6, .int (x6_13)), (0, .ref (ad (1000))), (1, .int (a0)), (2, .int (a1)), (3, .int (a2)), (4, .int (a3))]) hx hb dX10_goes_413 hl (by decide) rfl (fun ls hl => ?_)
                      refine lv_iload hx hb dX10_goes_415 (lv_at hl 7 rfl) ?_
                      refine lv_iload hx hb dX10_goes_417 (lv_at hl 6 rfl) ?_
                      refine m_calli (m_runS (As := [.int (x7_13)]) (rest := [.int (x6_13)]) hx hb hml hown hts hE hM hS hA ce_X10_stepY tb_1663 (V_X10_stepY_l l D A ad ns (u2 (u2 (u2 (u2 Ia13 (1000) 55 (v4)) (1000) 53 (v27)) (1049) ((v19).toNatClampNeg) (v29)) (1050) ((r266).toNatClampNeg) (v382)) La13 G (x7_13) hI (by first | omega | decide)) rfl rfl ⟨Nat.le_of_ble_eq_true rfl, Nat.le_of_ble_eq_true rfl⟩  rfl hl.1 rfl (Nat.le_of_ble_eq_true rfl) dX10_goes_419 ⟨Nat.le_of_ble_eq_true rfl, Nat.le_of_ble_eq_true rfl⟩) hS (fun r398 u H locs hw hM hS => ?_)
                      obtain ⟨rfl, xr398⟩ := hw
                      have hM : Mem D A ad ns (u2 (u2 (u2 (u2 Ia13 (1000) 55 (v4)) (1000) 53 (v27)) (1049) ((v19).toNatClampNeg) (v29)) (1050) ((r266).toNatClampNeg) (v382)) La13 G H := hM
                      refine lv_iadd hx hb dX10_goes_422 ?_
                      refine lv_topi (fun v399 ev399 => ?_)
                      have tv399 := a_add ev399 (by omega) (by omega)
                      refine lv_istore (lv' := [(6, .int (v399)), (5, .int (v397)), (12, .int (Ia13 (1006) ((v19).toNatClampNeg))), (8, .int (v384)), (10, .int (v380)), (11, .int (r266)), (9, .int (v19)), (7, .int (x7_13)), (0, .ref (ad (1000))), (1, .int (a0)), (2, .int (a1)), (3, .int (a2)), (4, .int (a3))]) hx hb dX10_goes_423 hl (by decide) rfl (fun ls hl => ?_)
                      refine lv_goto (tgt := 13) hx hb dX10_goes_425 (by decide) ?_
                      have tr100055 : ((u2 (u2 (u2 (u2 Ia13 (1000) 55 (v4)) (1000) 53 (v27)) (1049) ((v19).toNatClampNeg) (v29)) (1050) ((r266).toNatClampNeg) (v382)) (1000) 55).toInt = (v4 : Int32).toInt := congrArg Int32.toInt ((show (u2 (u2 (u2 (u2 Ia13 (1000) 55 (v4)) (1000) 53 (v27)) (1049) ((v19).toNatClampNeg) (v29)) (1050) ((r266).toNatClampNeg) (v382)) (1000) 55 = v4 from by simp [u2_v]))
                      have tr100052 : ((u2 (u2 (u2 (u2 Ia13 (1000) 55 (v4)) (1000) 53 (v27)) (1049) ((v19).toNatClampNeg) (v29)) (1050) ((r266).toNatClampNeg) (v382)) (1000) 52).toInt = (Ia13 (1000) 52 : Int32).toInt := congrArg Int32.toInt ((show (u2 (u2 (u2 (u2 Ia13 (1000) 55 (v4)) (1000) 53 (v27)) (1049) ((v19).toNatClampNeg) (v29)) (1050) ((r266).toNatClampNeg) (v382)) (1000) 52 = Ia13 (1000) 52 from by simp [u2_v]))
                      have h55n : ((u2 (u2 (u2 (u2 Ia13 (1000) 55 (v4)) (1000) 53 (v27)) (1049) ((v19).toNatClampNeg) (v29)) (1050) ((r266).toNatClampNeg) (v382)) (1000) 55).toInt = (v4 : Int32).toInt := congrArg Int32.toInt ((show (u2 (u2 (u2 (u2 Ia13 (1000) 55 (v4)) (1000) 53 (v27)) (1049) ((v19).toNatClampNeg) (v29)) (1050) ((r266).toNatClampNeg) (v382)) (1000) 55 = v4 from by simp [u2_v]))
                      have hmv : Ia13 (1006) ((v19).toNatClampNeg) = (twM Ia13).mat (clN x5_13 x6_13) := by rw [← hcl]; rfl
                      have hnm : ¬ isM (twM Ia13) (clN x5_13 x6_13) := fun z => by have z2 := z.2; rw [← hmv] at z2; exact q394 z2
                      exact ih13 (v384) (x7_13) (v399) (v397) (u2 (u2 (u2 (u2 Ia13 (1000) 55 (v4)) (1000) 53 (v27)) (1049) ((v19).toNatClampNeg) (v29)) (1050) ((r266).toNatClampNeg) (v382)) La13 _ _ ls hI hK (by first | omega | decide) (by first | omega | decide) (by omega) (by rw [← tw13]; exact FXM.step hF13 (by omega) (by omega) (by omega) (by omega) hop (STM.n hcS hnm) (by unfold stpW; rw [if_neg hnm]) (by unfold stpL; rw [if_neg hnm]; exact hcL) (by rw [ev397, xr396.1]) (by rw [ev399, xr398.1])) (by omega) hM hS (lv_sub hl [3, 7, 0, 1, 8, 9, 10, 11, 12] rfl)
                    · have hc394 := c394
                      have q394 := q_eq hc394
                      have hm24 : (Ia13 (1006) ((v19).toNatClampNeg)).toNatClampNeg < 24 := by have z := tn (i := Ia13 (1006) ((v19).toNatClampNeg)) (by omega); omega
                      obtain ⟨hr1, hr2, hth, hr4⟩ := hTR3.2.2.2 _ hm24
                      have hr1 : 0 ≤ (Ia13 1010 (Ia13 (1006) ((v19).toNatClampNeg)).toNatClampNeg).toInt ∧ (Ia13 1010 (Ia13 (1006) ((v19).toNatClampNeg)).toNatClampNeg).toInt ≤ 1000 := hr1
                      have hr2 : 0 ≤ (Ia13 1014 (Ia13 (1006) ((v19).toNatClampNeg)).toNatClampNeg).toInt ∧ (Ia13 1014 (Ia13 (1006) ((v19).toNatClampNeg)).toNatClampNeg).toInt ≤ 1000 := hr2
                      have hth : 0 ≤ (Ia13 1011 (Ia13 (1006) ((v19).toNatClampNeg)).toNatClampNeg).toInt ∧ (Ia13 1011 (Ia13 (1006) ((v19).toNatClampNeg)).toNatClampNeg).toInt ≤ 1000 := hth
                      have hr4 : 0 ≤ (Ia13 1009 (Ia13 (1006) ((v19).toNatClampNeg)).toNatClampNeg).toInt ∧ (Ia13 1009 (Ia13 (1006) ((v19).toNatClampNeg)).toNatClampNeg).toInt ≤ 7 := hr4
                      have hmv : Ia13 (1006) ((v19).toNatClampNeg) = (twM Ia13).mat (clN x5_13 x6_13) := by rw [← hcl]; rfl
                      have hym : isM (twM Ia13) (clN x5_13 x6_13) := ⟨by rw [← hmv]; omega, by rw [← hmv]; exact q394⟩
                      refine lv_aload_n hx hb dX10_goes_246 rfl (lv_at hl 8 rfl) ?_
                      refine lv_iload hx hb dX10_goes_247 (lv_at hl 0 rfl) ?_
                      refine lv_iload hx hb dX10_goes_249 (lv_at hl 1 rfl) ?_
                      have tw400 : twM (u2 (u2 (u2 (u2 Ia13 (1000) 55 (v4)) (1000) 53 (v27)) (1049) ((v19).toNatClampNeg) (v29)) (1050) ((r266).toNatClampNeg) (v382)) = twM I := twM_kp hK rfl
                      refine m_calli (m_runV (1000) (As := [.int (Ia13 (1006) ((v19).toNatClampNeg)), .int (v384)]) (rest := []) hx hb hml hown hts hE hM hS hA ce_X10_told tb_1656 (V_X10_told_l l D A ad ns (u2 (u2 (u2 (u2 Ia13 (1000) 55 (v4)) (1000) 53 (v27)) (1049) ((v19).toNatClampNeg) (v29)) (1050) ((r266).toNatClampNeg) (v382)) La13 G (Ia13 (1006) ((v19).toNatClampNeg)) (v384) hJ hI (by rw [hK.get 1000 59 rfl]; exact hsk) (by first | omega | decide)) rfl rfl ⟨Nat.le_of_ble_eq_true rfl, Nat.le_of_ble_eq_true rfl⟩ hJ.1 rfl rfl (by decide) rfl hl.1 rfl (Nat.le_of_ble_eq_true rfl) dX10_goes_251 ⟨Nat.le_of_ble_eq_true rfl, Nat.le_of_ble_eq_true rfl⟩) hS (fun r401 u H locs hw hM hS => ?_)
                      obtain ⟨rfl, xr401⟩ := hw
                      have hM : Mem D A ad ns (u2 (u2 (u2 (u2 Ia13 (1000) 55 (v4)) (1000) 53 (v27)) (1049) ((v19).toNatClampNeg) (v29)) (1050) ((r266).toNatClampNeg) (v382)) La13 G H := hM
                      have hrr401 := congrArg Int32.toInt xr401
                      refine lv_istore (lv' := [(8, .int (r401)), (12, .int (Ia13 (1006) ((v19).toNatClampNeg))), (10, .int (v380)), (11, .int (r266)), (9, .int (v19)), (7, .int (x7_13)), (6, .int (x6_13)), (5, .int (x5_13)), (0, .ref (ad (1000))), (1, .int (a0)), (2, .int (a1)), (3, .int (a2)), (4, .int (a3))]) hx hb dX10_goes_254 hl (by decide) rfl (fun ls hl => ?_)
                      refine lv_aload_n hx hb dX10_goes_256 rfl (lv_at hl 8 rfl) ?_
                      refine m_getr (1000) 10 (1010) hx hb hts hown hE oc10 hM hJ.1 rfl (by decide) rfl (hJ.2 10 (by decide)).2 (by decide) tb_1187 dX10_goes_257 ?_
                      refine lv_iload hx hb dX10_goes_260 (lv_at hl 1 rfl) ?_
                      refine m_iald (1010) hx hb hE hM (hJ.2 10 (by decide)).1 rfl (vp_in_iff.mpr (by omega)) dX10_goes_262 ?_
                      have z402 : (u2 (u2 (u2 (u2 Ia13 (1000) 55 (v4)) (1000) 53 (v27)) (1049) ((v19).toNatClampNeg) (v29)) (1050) ((r266).toNatClampNeg) (v382)) (1010) (Ia13 (1006) ((v19).toNatClampNeg)).toNatClampNeg = Ia13 (1010) ((Ia13 (1006) ((v19).toNatClampNeg)).toNatClampNeg) := (show (u2 (u2 (u2 (u2 Ia13 (1000) 55 (v4)) (1000) 53 (v27)) (1049) ((v19).toNatClampNeg) (v29)) (1050) ((r266).toNatClampNeg) (v382)) (1010) ((Ia13 (1006) ((v19).toNatClampNeg)).toNatClampNeg) = Ia13 (1010) ((Ia13 (1006) ((v19).toNatClampNeg)).toNatClampNeg) from by simp [u2_v])
                      rw [z402]
                      refine lv_aload_n hx hb dX10_goes_263 rfl (lv_at hl 8 rfl) ?_
                      refine m_getr (1000) 14 (1014) hx hb hts hown hE oc10 hM hJ.1 rfl (by decide) rfl (hJ.2 14 (by decide)).2 (by decide) tb_1191 dX10_goes_264 ?_
                      refine lv_iload hx hb dX10_goes_267 (lv_at hl 1 rfl) ?_
                      refine m_iald (1014) hx hb hE hM (hJ.2 14 (by decide)).1 rfl (vp_in_iff.mpr (by omega)) dX10_goes_269 ?_
                      have z403 : (u2 (u2 (u2 (u2 Ia13 (1000) 55 (v4)) (1000) 53 (v27)) (1049) ((v19).toNatClampNeg) (v29)) (1050) ((r266).toNatClampNeg) (v382)) (1014) (Ia13 (1006) ((v19).toNatClampNeg)).toNatClampNeg = Ia13 (1014) ((Ia13 (1006) ((v19).toNatClampNeg)).toNatClampNeg) := (show (u2 (u2 (u2 (u2 Ia13 (1000) 55 (v4)) (1000) 53 (v27)) (1049) ((v19).toNatClampNeg) (v29)) (1050) ((r266).toNatClampNeg) (v382)) (1014) ((Ia13 (1006) ((v19).toNatClampNeg)).toNatClampNeg) = Ia13 (1014) ((Ia13 (1006) ((v19).toNatClampNeg)).toNatClampNeg) from by simp [u2_v])
                      rw [z403]
                      refine lv_iadd hx hb dX10_goes_270 ?_
                      refine lv_topi (fun v404 ev404 => ?_)
                      have tv404 := a_add ev404 (by omega) (by omega)
                      refine lv_sipush (v := (1000)) hx hb dX10_goes_271 (by decide) ?_
                      refine lv_icmp_le (tgt := 283) hx hb dX10_goes_274 (by decide) (fun c405 => ?_) (fun c405 => ?_)
                      · have hc405 := c405
                        have q405 := q_le hc405
                        refine lv_aload_n hx hb dX10_goes_283 rfl (lv_at hl 8 rfl) ?_
                        refine m_getr (1000) 10 (1010) hx hb hts hown hE oc10 hM hJ.1 rfl (by decide) rfl (hJ.2 10 (by decide)).2 (by decide) tb_1187 dX10_goes_284 ?_
                        refine lv_iload hx hb dX10_goes_287 (lv_at hl 1 rfl) ?_
                        refine m_iald (1010) hx hb hE hM (hJ.2 10 (by decide)).1 rfl (vp_in_iff.mpr (by omega)) dX10_goes_289 ?_
                        have z406 : (u2 (u2 (u2 (u2 Ia13 (1000) 55 (v4)) (1000) 53 (v27)) (1049) ((v19).toNatClampNeg) (v29)) (1050) ((r266).toNatClampNeg) (v382)) (1010) (Ia13 (1006) ((v19).toNatClampNeg)).toNatClampNeg = Ia13 (1010) ((Ia13 (1006) ((v19).toNatClampNeg)).toNatClampNeg) := (show (u2 (u2 (u2 (u2 Ia13 (1000) 55 (v4)) (1000) 53 (v27)) (1049) ((v19).toNatClampNeg) (v29)) (1050) ((r266).toNatClampNeg) (v382)) (1010) ((Ia13 (1006) ((v19).toNatClampNeg)).toNatClampNeg) = Ia13 (1010) ((Ia13 (1006) ((v19).toNatClampNeg)).toNatClampNeg) from by simp [u2_v])
                        rw [z406]
                        refine lv_aload_n hx hb dX10_goes_290 rfl (lv_at hl 8 rfl) ?_
                        refine m_getr (1000) 14 (1014) hx hb hts hown hE oc10 hM hJ.1 rfl (by decide) rfl (hJ.2 14 (by decide)).2 (by decide) tb_1191 dX10_goes_291 ?_
                        refine lv_iload hx hb dX10_goes_294 (lv_at hl 1 rfl) ?_
                        refine m_iald (1014) hx hb hE hM (hJ.2 14 (by decide)).1 rfl (vp_in_iff.mpr (by omega)) dX10_goes_296 ?_
                        have z407 : (u2 (u2 (u2 (u2 Ia13 (1000) 55 (v4)) (1000) 53 (v27)) (1049) ((v19).toNatClampNeg) (v29)) (1050) ((r266).toNatClampNeg) (v382)) (1014) (Ia13 (1006) ((v19).toNatClampNeg)).toNatClampNeg = Ia13 (1014) ((Ia13 (1006) ((v19).toNatClampNeg)).toNatClampNeg) := (show (u2 (u2 (u2 (u2 Ia13 (1000) 55 (v4)) (1000) 53 (v27)) (1049) ((v19).toNatClampNeg) (v29)) (1050) ((r266).toNatClampNeg) (v382)) (1014) ((Ia13 (1006) ((v19).toNatClampNeg)).toNatClampNeg) = Ia13 (1014) ((Ia13 (1006) ((v19).toNatClampNeg)).toNatClampNeg) from by simp [u2_v])
                        rw [z407]
                        refine lv_iadd hx hb dX10_goes_297 ?_
                        refine lv_topi (fun v408 ev408 => ?_)
                        have tv408 := a_add ev408 (by omega) (by omega)
                        refine lv_istore (lv' := [(13, .int (v408)), (8, .int (r401)), (12, .int (Ia13 (1006) ((v19).toNatClampNeg))), (10, .int (v380)), (11, .int (r266)), (9, .int (v19)), (7, .int (x7_13)), (6, .int (x6_13)), (5, .int (x5_13)), (0, .ref (ad (1000))), (1, .int (a0)), (2, .int (a1)), (3, .int (a2)), (4, .int (a3))]) hx hb dX10_goes_298 hl (by decide) rfl (fun ls hl => ?_)
                        have hdu : v408 = lsT (twM Ia13) (Ia13 (1006) ((v19).toNatClampNeg)).toNatClampNeg := lsT_le ev408 (by omega)
                        have hdl : 0 ≤ (v408 : Int32).toInt ∧ (v408 : Int32).toInt ≤ 1000 := by rw [hdu]; exact lsT_r hr1 hr2
                        have htl : r401 = cellL (twM Ia13) x5_13 x6_13 x8_13 := xr401.trans hcL
                        refine lv_iload hx hb dX10_goes_300 (lv_at hl 1 rfl) ?_
                        refine lv_i2l hx hb dX10_goes_302 rfl ?_
                        refine lv_topl (fun v409 ev409 => ?_)
                        have tv409 := q_i2l ev409
                        refine lv_iload hx hb dX10_goes_303 (lv_at hl 0 rfl) ?_
                        refine lv_i2l hx hb dX10_goes_305 rfl ?_
                        refine lv_topl (fun v410 ev410 => ?_)
                        have tv410 := q_i2l ev410
                        refine lv_lmul hx hb dX10_goes_306 ?_
                        refine lv_topl (fun v411 ev411 => ?_)
                        refine lv_ldc2 (v := (1000)) hx hb hown (hts _ tb_1428) dX10_goes_307 ?_
                        refine lv_ldiv hx hb dX10_goes_310 (by decide) ?_
                        refine lv_topl (fun v412 ev412 => ?_)
                        refine lv_l2i hx hb dX10_goes_311 rfl ?_
                        refine lv_topi (fun v413 ev413 => ?_)
                        have shv413 : v413 = shr (r401) (v408) := shr_l ev409 ev410 ev411 ev412 ev413 (by omega) hdl
                        have sbv413 := shr_b (s := r401) (t := v408) (by omega) hdl
                        rw [← shv413] at sbv413
                        refine lv_istore (lv' := [(10, .int (v413)), (13, .int (v408)), (8, .int (r401)), (12, .int (Ia13 (1006) ((v19).toNatClampNeg))), (11, .int (r266)), (9, .int (v19)), (7, .int (x7_13)), (6, .int (x6_13)), (5, .int (x5_13)), (0, .ref (ad (1000))), (1, .int (a0)), (2, .int (a1)), (3, .int (a2)), (4, .int (a3))]) hx hb dX10_goes_312 hl (by decide) rfl (fun ls hl => ?_)
                        refine lv_aload_n hx hb dX10_goes_314 rfl (lv_at hl 9 rfl) ?_
                        refine lv_dup hx hb dX10_goes_315 rfl ?_
                        refine m_geti (1000) 53 hx hb hts hown hE oc10 hM hJ.1 rfl (by decide) rfl tb_1230 dX10_goes_316 ?_
                        have z414 : (u2 (u2 (u2 (u2 Ia13 (1000) 55 (v4)) (1000) 53 (v27)) (1049) ((v19).toNatClampNeg) (v29)) (1050) ((r266).toNatClampNeg) (v382)) (1000) 53 = v27 := (show (u2 (u2 (u2 (u2 Ia13 (1000) 55 (v4)) (1000) 53 (v27)) (1049) ((v19).toNatClampNeg) (v29)) (1050) ((r266).toNatClampNeg) (v382)) (1000) 53 = v27 from by simp [u2_v])
                        rw [z414]
                        refine lv_iload hx hb dX10_goes_319 (lv_at hl 0 rfl) ?_
                        refine lv_iadd hx hb dX10_goes_321 ?_
                        refine lv_topi (fun v415 ev415 => ?_)
                        refine m_puti (1000) 53 hx hb hts hown hE oc10 hM hS hJ.1 rfl (by decide) rfl rfl rfl rfl tb_1230 dX10_goes_322 (fun H locs I416 eI416 hM hS => ?_)
                        subst eI416
                        have hI := hI.putF (n := 1000) (k := 53) (v := v415) rfl
                        have hK := hK.put (n := 1000) (k := 53) (v := v415) (by first | rfl | simp [inR])
                        refine lv_iload hx hb dX10_goes_325 (lv_at hl 2 rfl) ?_
                        refine lv_iload hx hb dX10_goes_327 (lv_at hl 0 rfl) ?_
                        refine lv_isub hx hb dX10_goes_329 ?_
                        refine lv_topi (fun v417 ev417 => ?_)
                        have tv417 := a_sub ev417 (by omega) (by omega)
                        refine lv_istore (lv' := [(8, .int (v417)), (10, .int (v413)), (13, .int (v408)), (12, .int (Ia13 (1006) ((v19).toNatClampNeg))), (11, .int (r266)), (9, .int (v19)), (7, .int (x7_13)), (6, .int (x6_13)), (5, .int (x5_13)), (0, .ref (ad (1000))), (1, .int (a0)), (2, .int (a1)), (3, .int (a2)), (4, .int (a3))]) hx hb dX10_goes_330 hl (by decide) rfl (fun ls hl => ?_)
                        refine lv_iload hx hb dX10_goes_332 (lv_at hl 0 rfl) ?_
                        refine lv_i2l hx hb dX10_goes_334 rfl ?_
                        refine lv_topl (fun v418 ev418 => ?_)
                        have tv418 := q_i2l ev418
                        refine lv_aload_n hx hb dX10_goes_335 rfl (lv_at hl 9 rfl) ?_
                        refine m_getr (1000) 11 (1011) hx hb hts hown hE oc10 hM hJ.1 rfl (by decide) rfl (hJ.2 11 (by decide)).2 (by decide) tb_1188 dX10_goes_336 ?_
                        refine lv_iload hx hb dX10_goes_339 (lv_at hl 3 rfl) ?_
                        refine m_iald (1011) hx hb hE hM (hJ.2 11 (by decide)).1 rfl (vp_in_iff.mpr (by omega)) dX10_goes_341 ?_
                        have z419 : (u2 (u2 (u2 (u2 (u2 Ia13 (1000) 55 (v4)) (1000) 53 (v27)) (1049) ((v19).toNatClampNeg) (v29)) (1050) ((r266).toNatClampNeg) (v382)) (1000) 53 (v415)) (1011) (Ia13 (1006) ((v19).toNatClampNeg)).toNatClampNeg = Ia13 (1011) ((Ia13 (1006) ((v19).toNatClampNeg)).toNatClampNeg) := (show (u2 (u2 (u2 (u2 (u2 Ia13 (1000) 55 (v4)) (1000) 53 (v27)) (1049) ((v19).toNatClampNeg) (v29)) (1050) ((r266).toNatClampNeg) (v382)) (1000) 53 (v415)) (1011) ((Ia13 (1006) ((v19).toNatClampNeg)).toNatClampNeg) = Ia13 (1011) ((Ia13 (1006) ((v19).toNatClampNeg)).toNatClampNeg) from by simp [u2_v])
                        rw [z419]
                        refine lv_i2l hx hb dX10_goes_342 rfl ?_
                        refine lv_topl (fun v420 ev420 => ?_)
                        have tv420 := q_i2l ev420
                        refine lv_lmul hx hb dX10_goes_343 ?_
                        refine lv_topl (fun v421 ev421 => ?_)
                        refine lv_ldc2 (v := (1000)) hx hb hown (hts _ tb_1428) dX10_goes_344 ?_
                        refine lv_ldiv hx hb dX10_goes_347 (by decide) ?_
                        refine lv_topl (fun v422 ev422 => ?_)
                        refine lv_l2i hx hb dX10_goes_348 rfl ?_
                        refine lv_topi (fun v423 ev423 => ?_)
                        have shv423 : v423 = shr (v417) (Ia13 (1011) ((Ia13 (1006) ((v19).toNatClampNeg)).toNatClampNeg)) := shr_l ev418 ev420 ev421 ev422 ev423 (by omega) hth
                        have sbv423 := shr_b (s := v417) (t := Ia13 (1011) ((Ia13 (1006) ((v19).toNatClampNeg)).toNatClampNeg)) (by omega) hth
                        rw [← shv423] at sbv423
                        refine lv_istore (lv' := [(14, .int (v423)), (8, .int (v417)), (10, .int (v413)), (13, .int (v408)), (12, .int (Ia13 (1006) ((v19).toNatClampNeg))), (11, .int (r266)), (9, .int (v19)), (7, .int (x7_13)), (6, .int (x6_13)), (5, .int (x5_13)), (0, .ref (ad (1000))), (1, .int (a0)), (2, .int (a1)), (3, .int (a2)), (4, .int (a3))]) hx hb dX10_goes_349 hl (by decide) rfl (fun ls hl => ?_)
                        refine lv_iload hx hb dX10_goes_351 (lv_at hl 1 rfl) ?_
                        refine lv_iload hx hb dX10_goes_353 (lv_at hl 0 rfl) ?_
                        refine lv_isub hx hb dX10_goes_355 ?_
                        refine lv_topi (fun v424 ev424 => ?_)
                        have tv424 := a_sub ev424 (by omega) (by omega)
                        refine lv_istore (lv' := [(8, .int (v424)), (14, .int (v423)), (10, .int (v413)), (13, .int (v408)), (12, .int (Ia13 (1006) ((v19).toNatClampNeg))), (11, .int (r266)), (9, .int (v19)), (7, .int (x7_13)), (6, .int (x6_13)), (5, .int (x5_13)), (0, .ref (ad (1000))), (1, .int (a0)), (2, .int (a1)), (3, .int (a2)), (4, .int (a3))]) hx hb dX10_goes_356 hl (by decide) rfl (fun ls hl => ?_)
                        have hG : v413 = mirG (twM Ia13) (Ia13 (1006) ((v19).toNatClampNeg)) (r401) := by rw [shv413, hdu]; rfl
                        have hon : v423 = mirT (twM Ia13) (Ia13 (1006) ((v19).toNatClampNeg)) (r401) := by rw [shv423, ev417, hG]; rfl
                        have hL3 : v424 = mirL (twM Ia13) (Ia13 (1006) ((v19).toNatClampNeg)) (r401) := by rw [ev424, hon, ev417, hG]; rfl
                        refine lv_iload hx hb dX10_goes_358 (lv_at hl 1 rfl) ?_
                        refine lv_if_le (tgt := 387) hx hb dX10_goes_360 (by decide) (fun c425 => ?_) (fun c425 => ?_)
                        · have hc425 := c425
                          have q425 := q_le hc425
                          refine lv_aload_n hx hb dX10_goes_387 rfl (lv_at hl 10 rfl) ?_
                          refine m_getr (1000) 9 (1009) hx hb hts hown hE oc10 hM hJ.1 rfl (by decide) rfl (hJ.2 9 (by decide)).2 (by decide) tb_1186 dX10_goes_388 ?_
                          refine lv_iload hx hb dX10_goes_391 (lv_at hl 4 rfl) ?_
                          refine m_iald (1009) hx hb hE hM (hJ.2 9 (by decide)).1 rfl (vp_in_iff.mpr (by omega)) dX10_goes_393 ?_
                          have z426 : (u2 (u2 (u2 (u2 (u2 Ia13 (1000) 55 (v4)) (1000) 53 (v27)) (1049) ((v19).toNatClampNeg) (v29)) (1050) ((r266).toNatClampNeg) (v382)) (1000) 53 (v415)) (1009) (Ia13 (1006) ((v19).toNatClampNeg)).toNatClampNeg = Ia13 (1009) ((Ia13 (1006) ((v19).toNatClampNeg)).toNatClampNeg) := (show (u2 (u2 (u2 (u2 (u2 Ia13 (1000) 55 (v4)) (1000) 53 (v27)) (1049) ((v19).toNatClampNeg) (v29)) (1050) ((r266).toNatClampNeg) (v382)) (1000) 53 (v415)) (1009) ((Ia13 (1006) ((v19).toNatClampNeg)).toNatClampNeg) = Ia13 (1009) ((Ia13 (1006) ((v19).toNatClampNeg)).toNatClampNeg) from by simp [u2_v])
                          rw [z426]
                          refine lv_iload hx hb dX10_goes_394 (lv_at hl 7 rfl) ?_
                          refine lv_isub hx hb dX10_goes_396 ?_
                          refine lv_topi (fun v427 ev427 => ?_)
                          have tv427 := a_sub ev427 (by omega) (by omega)
                          refine lv_bipush (v := (8)) hx hb dX10_goes_397 (by decide) ?_
                          refine lv_iadd hx hb dX10_goes_399 ?_
                          refine lv_topi (fun v428 ev428 => ?_)
                          have tv428 := a_add ev428 (by omega) (by omega)
                          refine lv_bipush (v := (8)) hx hb dX10_goes_400 (by decide) ?_
                          refine lv_irem hx hb dX10_goes_402 (by decide) ?_
                          refine lv_topi (fun v429 ev429 => ?_)
                          have tv429 := a_rem (c := 8) ev429 (by decide) (by decide) (by omega)
                          refine lv_istore (lv' := [(7, .int (v429)), (8, .int (v424)), (14, .int (v423)), (10, .int (v413)), (13, .int (v408)), (12, .int (Ia13 (1006) ((v19).toNatClampNeg))), (11, .int (r266)), (9, .int (v19)), (6, .int (x6_13)), (5, .int (x5_13)), (0, .ref (ad (1000))), (1, .int (a0)), (2, .int (a1)), (3, .int (a2)), (4, .int (a3))]) hx hb dX10_goes_403 hl (by decide) rfl (fun ls hl => ?_)
                          refine lv_iload hx hb dX10_goes_405 (lv_at hl 9 rfl) ?_
                          refine lv_iload hx hb dX10_goes_407 (lv_at hl 0 rfl) ?_
                          have tw430 : twM (u2 (u2 (u2 (u2 (u2 Ia13 (1000) 55 (v4)) (1000) 53 (v27)) (1049) ((v19).toNatClampNeg) (v29)) (1050) ((r266).toNatClampNeg) (v382)) (1000) 53 (v415)) = twM I := twM_kp hK rfl
                          refine m_calli (m_runS (As := [.int (v429)]) (rest := [.int (x5_13)]) hx hb hml hown hts hE hM hS hA ce_X10_stepX tb_1660 (V_X10_stepX_l l D A ad ns (u2 (u2 (u2 (u2 (u2 Ia13 (1000) 55 (v4)) (1000) 53 (v27)) (1049) ((v19).toNatClampNeg) (v29)) (1050) ((r266).toNatClampNeg) (v382)) (1000) 53 (v415)) La13 G (v429) hI (by first | omega | decide)) rfl rfl ⟨Nat.le_of_ble_eq_true rfl, Nat.le_of_ble_eq_true rfl⟩  rfl hl.1 rfl (Nat.le_of_ble_eq_true rfl) dX10_goes_409 ⟨Nat.le_of_ble_eq_true rfl, Nat.le_of_ble_eq_true rfl⟩) hS (fun r431 u H locs hw hM hS => ?_)
                          obtain ⟨rfl, xr431⟩ := hw
                          have hM : Mem D A ad ns (u2 (u2 (u2 (u2 (u2 Ia13 (1000) 55 (v4)) (1000) 53 (v27)) (1049) ((v19).toNatClampNeg) (v29)) (1050) ((r266).toNatClampNeg) (v382)) (1000) 53 (v415)) La13 G H := hM
                          refine lv_iadd hx hb dX10_goes_412 ?_
                          refine lv_topi (fun v432 ev432 => ?_)
                          have tv432 := a_add ev432 (by omega) (by omega)
                          refine lv_istore (lv' := [(5, .int (v432)), (7, .int (v429)), (8, .int (v424)), (14, .int (v423)), (10, .int (v413)), (13, .int (v408)), (12, .int (Ia13 (1006) ((v19).toNatClampNeg))), (11, .int (r266)), (9, .int (v19)), (6, .int (x6_13)), (0, .ref (ad (1000))), (1, .int (a0)), (2, .int (a1)), (3, .int (a2)), (4, .int (a3))]) hx hb dX10_goes_413 hl (by decide) rfl (fun ls hl => ?_)
                          refine lv_iload hx hb dX10_goes_415 (lv_at hl 9 rfl) ?_
                          refine lv_iload hx hb dX10_goes_417 (lv_at hl 1 rfl) ?_
                          refine m_calli (m_runS (As := [.int (v429)]) (rest := [.int (x6_13)]) hx hb hml hown hts hE hM hS hA ce_X10_stepY tb_1663 (V_X10_stepY_l l D A ad ns (u2 (u2 (u2 (u2 (u2 Ia13 (1000) 55 (v4)) (1000) 53 (v27)) (1049) ((v19).toNatClampNeg) (v29)) (1050) ((r266).toNatClampNeg) (v382)) (1000) 53 (v415)) La13 G (v429) hI (by first | omega | decide)) rfl rfl ⟨Nat.le_of_ble_eq_true rfl, Nat.le_of_ble_eq_true rfl⟩  rfl hl.1 rfl (Nat.le_of_ble_eq_true rfl) dX10_goes_419 ⟨Nat.le_of_ble_eq_true rfl, Nat.le_of_ble_eq_true rfl⟩) hS (fun r433 u H locs hw hM hS => ?_)
                          obtain ⟨rfl, xr433⟩ := hw
                          have hM : Mem D A ad ns (u2 (u2 (u2 (u2 (u2 Ia13 (1000) 55 (v4)) (1000) 53 (v27)) (1049) ((v19).toNatClampNeg) (v29)) (1050) ((r266).toNatClampNeg) (v382)) (1000) 53 (v415)) La13 G H := hM
                          refine lv_iadd hx hb dX10_goes_422 ?_
                          refine lv_topi (fun v434 ev434 => ?_)
                          have tv434 := a_add ev434 (by omega) (by omega)
                          refine lv_istore (lv' := [(6, .int (v434)), (5, .int (v432)), (7, .int (v429)), (8, .int (v424)), (14, .int (v423)), (10, .int (v413)), (13, .int (v408)), (12, .int (Ia13 (1006) ((v19).toNatClampNeg))), (11, .int (r266)), (9, .int (v19)), (0, .ref (ad (1000))), (1, .int (a0)), (2, .int (a1)), (3, .int (a2)), (4, .int (a3))]) hx hb dX10_goes_423 hl (by decide) rfl (fun ls hl => ?_)
                          refine lv_goto (tgt := 13) hx hb dX10_goes_425 (by decide) ?_
                          have tr100055 : ((u2 (u2 (u2 (u2 (u2 Ia13 (1000) 55 (v4)) (1000) 53 (v27)) (1049) ((v19).toNatClampNeg) (v29)) (1050) ((r266).toNatClampNeg) (v382)) (1000) 53 (v415)) (1000) 55).toInt = (v4 : Int32).toInt := congrArg Int32.toInt ((show (u2 (u2 (u2 (u2 (u2 Ia13 (1000) 55 (v4)) (1000) 53 (v27)) (1049) ((v19).toNatClampNeg) (v29)) (1050) ((r266).toNatClampNeg) (v382)) (1000) 53 (v415)) (1000) 55 = v4 from by simp [u2_v]))
                          have tr100052 : ((u2 (u2 (u2 (u2 (u2 Ia13 (1000) 55 (v4)) (1000) 53 (v27)) (1049) ((v19).toNatClampNeg) (v29)) (1050) ((r266).toNatClampNeg) (v382)) (1000) 53 (v415)) (1000) 52).toInt = (Ia13 (1000) 52 : Int32).toInt := congrArg Int32.toInt ((show (u2 (u2 (u2 (u2 (u2 Ia13 (1000) 55 (v4)) (1000) 53 (v27)) (1049) ((v19).toNatClampNeg) (v29)) (1050) ((r266).toNatClampNeg) (v382)) (1000) 53 (v415)) (1000) 52 = Ia13 (1000) 52 from by simp [u2_v]))
                          have h55n : ((u2 (u2 (u2 (u2 (u2 Ia13 (1000) 55 (v4)) (1000) 53 (v27)) (1049) ((v19).toNatClampNeg) (v29)) (1050) ((r266).toNatClampNeg) (v382)) (1000) 53 (v415)) (1000) 55).toInt = (v4 : Int32).toInt := congrArg Int32.toInt ((show (u2 (u2 (u2 (u2 (u2 Ia13 (1000) 55 (v4)) (1000) 53 (v27)) (1049) ((v19).toNatClampNeg) (v29)) (1050) ((r266).toNatClampNeg) (v382)) (1000) 53 (v415)) (1000) 55 = v4 from by simp [u2_v]))
                          have h53 : v415 = (u2 (u2 (u2 (u2 Ia13 (1000) 55 (v4)) (1000) 53 (v27)) (1049) ((v19).toNatClampNeg) (v29)) (1050) ((r266).toNatClampNeg) (v382)) 1000 53 + mirG (twM Ia13) (Ia13 (1006) ((v19).toNatClampNeg)) (r401) := by rw [← hG, ev415]; simp [u2_v]
                          have hMI : MIM (twM Ia13) (Ia13 (1006) ((v19).toNatClampNeg)) x5_13 x6_13 x7_13 (r401) (u2 (u2 (u2 (u2 Ia13 (1000) 55 (v4)) (1000) 53 (v27)) (1049) ((v19).toNatClampNeg) (v29)) (1050) ((r266).toNatClampNeg) (v382)) (u2 (u2 (u2 (u2 (u2 Ia13 (1000) 55 (v4)) (1000) 53 (v27)) (1049) ((v19).toNatClampNeg) (v29)) (1050) ((r266).toNatClampNeg) (v382)) (1000) 53 (v415)) := by rw [h53]; exact MIM.n (by rw [← hon]; omega)
                          exact ih13 (v424) (v429) (v434) (v432) (u2 (u2 (u2 (u2 (u2 Ia13 (1000) 55 (v4)) (1000) 53 (v27)) (1049) ((v19).toNatClampNeg) (v29)) (1050) ((r266).toNatClampNeg) (v382)) (1000) 53 (v415)) La13 _ _ ls hI hK (by first | omega | decide) (by first | omega | decide) (by omega) (by rw [← tw13]; exact FXM.step hF13 (by omega) (by omega) (by omega) (by omega) hop (STM.y hcS hym hmv htl hMI) (by unfold stpW; rw [if_pos hym, ← hmv]; exact and7 (a := Ia13 1009 (Ia13 (1006) ((v19).toNatClampNeg)).toNatClampNeg) hr4 (by omega) (by omega)) (by unfold stpL; rw [if_pos hym, ← hmv, ← htl]; exact hL3) (by rw [ev432, xr431.1]) (by rw [ev434, xr433.1])) (by omega) hM hS (lv_sub hl [3, 2, 0, 1, 10, 11, 12, 13, 14] rfl)
                        · have hc425 := c425
                          have q425 := q_nle hc425
                          refine lv_aload_n hx hb dX10_goes_363 rfl (lv_at hl 10 rfl) ?_
                          refine lv_iload hx hb dX10_goes_364 (lv_at hl 9 rfl) ?_
                          refine lv_iload hx hb dX10_goes_366 (lv_at hl 7 rfl) ?_
                          have tw435 : twM (u2 (u2 (u2 (u2 (u2 Ia13 (1000) 55 (v4)) (1000) 53 (v27)) (1049) ((v19).toNatClampNeg) (v29)) (1050) ((r266).toNatClampNeg) (v382)) (1000) 53 (v415)) = twM I := twM_kp hK rfl
                          refine m_calli (m_runS (As := [.int (x7_13)]) (rest := [.int (x5_13), .ref (ad (1000))]) hx hb hml hown hts hE hM hS hA ce_X10_stepX tb_1660 (V_X10_stepX_l l D A ad ns (u2 (u2 (u2 (u2 (u2 Ia13 (1000) 55 (v4)) (1000) 53 (v27)) (1049) ((v19).toNatClampNeg) (v29)) (1050) ((r266).toNatClampNeg) (v382)) (1000) 53 (v415)) La13 G (x7_13) hI (by first | omega | decide)) rfl rfl ⟨Nat.le_of_ble_eq_true rfl, Nat.le_of_ble_eq_true rfl⟩  rfl hl.1 rfl (Nat.le_of_ble_eq_true rfl) dX10_goes_368 ⟨Nat.le_of_ble_eq_true rfl, Nat.le_of_ble_eq_true rfl⟩) hS (fun r436 u H locs hw hM hS => ?_)
                          obtain ⟨rfl, xr436⟩ := hw
                          have hM : Mem D A ad ns (u2 (u2 (u2 (u2 (u2 Ia13 (1000) 55 (v4)) (1000) 53 (v27)) (1049) ((v19).toNatClampNeg) (v29)) (1050) ((r266).toNatClampNeg) (v382)) (1000) 53 (v415)) La13 G H := hM
                          refine lv_iadd hx hb dX10_goes_371 ?_
                          refine lv_topi (fun v437 ev437 => ?_)
                          have tv437 := a_add ev437 (by omega) (by omega)
                          refine lv_iload hx hb dX10_goes_372 (lv_at hl 8 rfl) ?_
                          refine lv_iload hx hb dX10_goes_374 (lv_at hl 7 rfl) ?_
                          refine m_calli (m_runS (As := [.int (x7_13)]) (rest := [.int (x6_13), .int (v437), .ref (ad (1000))]) hx hb hml hown hts hE hM hS hA ce_X10_stepY tb_1663 (V_X10_stepY_l l D A ad ns (u2 (u2 (u2 (u2 (u2 Ia13 (1000) 55 (v4)) (1000) 53 (v27)) (1049) ((v19).toNatClampNeg) (v29)) (1050) ((r266).toNatClampNeg) (v382)) (1000) 53 (v415)) La13 G (x7_13) hI (by first | omega | decide)) rfl rfl ⟨Nat.le_of_ble_eq_true rfl, Nat.le_of_ble_eq_true rfl⟩  rfl hl.1 rfl (Nat.le_of_ble_eq_true rfl) dX10_goes_376 ⟨Nat.le_of_ble_eq_true rfl, Nat.le_of_ble_eq_true rfl⟩) hS (fun r438 u H locs hw hM hS => ?_)
                          obtain ⟨rfl, xr438⟩ := hw
                          have hM : Mem D A ad ns (u2 (u2 (u2 (u2 (u2 Ia13 (1000) 55 (v4)) (1000) 53 (v27)) (1049) ((v19).toNatClampNeg) (v29)) (1050) ((r266).toNatClampNeg) (v382)) (1000) 53 (v415)) La13 G H := hM
                          refine lv_iadd hx hb dX10_goes_379 ?_
                          refine lv_topi (fun v439 ev439 => ?_)
                          have tv439 := a_add ev439 (by omega) (by omega)
                          refine lv_iload hx hb dX10_goes_380 (lv_at hl 7 rfl) ?_
                          refine lv_iload hx hb dX10_goes_382 (lv_at hl 1 rfl) ?_
                          refine m_callv (m_runV (1000) (As := [.int (v437), .int (v439), .int (x7_13), .int (v423)]) (rest := []) hx hb hml hown hts hE hM hS hA ce_X10_waitsFor tb_1666 (V_X10_waitsFor_l l D A ad ns (u2 (u2 (u2 (u2 (u2 Ia13 (1000) 55 (v4)) (1000) 53 (v27)) (1049) ((v19).toNatClampNeg) (v29)) (1050) ((r266).toNatClampNeg) (v382)) (1000) 53 (v415)) La13 G (v437) (v439) (x7_13) (v423) hJ hI (by first | omega | decide) (by first | omega | decide)) rfl rfl ⟨Nat.le_of_ble_eq_true rfl, Nat.le_of_ble_eq_true rfl⟩ hJ.1 rfl rfl (by decide) rfl hl.1 rfl (Nat.le_of_ble_eq_true rfl) dX10_goes_384 ⟨Nat.le_of_ble_eq_true rfl, Nat.le_of_ble_eq_true rfl⟩) hS (fun u H locs hw hM hS => ?_)
                          obtain ⟨I440, L441, rfl, hI, hkI440, xI440⟩ := hw
                          have hM : Mem D A ad ns I440 L441 G H := hM
                          have hK := hK.trans hkI440 rfl
                          have pw442 : ((u2 (u2 (u2 (u2 (u2 Ia13 (1000) 55 (v4)) (1000) 53 (v27)) (1049) ((v19).toNatClampNeg) (v29)) (1050) ((r266).toNatClampNeg) (v382)) (1000) 53 (v415)) (1000) 52).toInt = (Ia13 (1000) 52 : Int32).toInt := congrArg Int32.toInt ((show (u2 (u2 (u2 (u2 (u2 Ia13 (1000) 55 (v4)) (1000) 53 (v27)) (1049) ((v19).toNatClampNeg) (v29)) (1050) ((r266).toNatClampNeg) (v382)) (1000) 53 (v415)) (1000) 52 = Ia13 (1000) 52 from by simp [u2_v]))
                          refine lv_aload_n hx hb dX10_goes_387 rfl (lv_at hl 10 rfl) ?_
                          refine m_getr (1000) 9 (1009) hx hb hts hown hE oc10 hM hJ.1 rfl (by decide) rfl (hJ.2 9 (by decide)).2 (by decide) tb_1186 dX10_goes_388 ?_
                          refine lv_iload hx hb dX10_goes_391 (lv_at hl 4 rfl) ?_
                          refine m_iald (1009) hx hb hE hM (hJ.2 9 (by decide)).1 rfl (vp_in_iff.mpr (by omega)) dX10_goes_393 ?_
                          have z443 : I440 (1009) (Ia13 (1006) ((v19).toNatClampNeg)).toNatClampNeg = Ia13 (1009) ((Ia13 (1006) ((v19).toNatClampNeg)).toNatClampNeg) := ((congrFun (hkI440.getA (1009) rfl) ((Ia13 (1006) ((v19).toNatClampNeg)).toNatClampNeg))).trans (show (u2 (u2 (u2 (u2 (u2 Ia13 (1000) 55 (v4)) (1000) 53 (v27)) (1049) ((v19).toNatClampNeg) (v29)) (1050) ((r266).toNatClampNeg) (v382)) (1000) 53 (v415)) (1009) ((Ia13 (1006) ((v19).toNatClampNeg)).toNatClampNeg) = Ia13 (1009) ((Ia13 (1006) ((v19).toNatClampNeg)).toNatClampNeg) from by simp [u2_v])
                          rw [z443]
                          refine lv_iload hx hb dX10_goes_394 (lv_at hl 7 rfl) ?_
                          refine lv_isub hx hb dX10_goes_396 ?_
                          refine lv_topi (fun v444 ev444 => ?_)
                          have tv444 := a_sub ev444 (by omega) (by omega)
                          refine lv_bipush (v := (8)) hx hb dX10_goes_397 (by decide) ?_
                          refine lv_iadd hx hb dX10_goes_399 ?_
                          refine lv_topi (fun v445 ev445 => ?_)
                          have tv445 := a_add ev445 (by omega) (by omega)
                          refine lv_bipush (v := (8)) hx hb dX10_goes_400 (by decide) ?_
                          refine lv_irem hx hb dX10_goes_402 (by decide) ?_
                          refine lv_topi (fun v446 ev446 => ?_)
                          have tv446 := a_rem (c := 8) ev446 (by decide) (by decide) (by omega)
                          refine lv_istore (lv' := [(7, .int (v446)), (8, .int (v424)), (14, .int (v423)), (10, .int (v413)), (13, .int (v408)), (12, .int (Ia13 (1006) ((v19).toNatClampNeg))), (11, .int (r266)), (9, .int (v19)), (6, .int (x6_13)), (5, .int (x5_13)), (0, .ref (ad (1000))), (1, .int (a0)), (2, .int (a1)), (3, .int (a2)), (4, .int (a3))]) hx hb dX10_goes_403 hl (by decide) rfl (fun ls hl => ?_)
                          refine lv_iload hx hb dX10_goes_405 (lv_at hl 9 rfl) ?_
                          refine lv_iload hx hb dX10_goes_407 (lv_at hl 0 rfl) ?_
                          have tw447 : twM I440 = twM I := twM_kp hK rfl
                          refine m_calli (m_runS (As := [.int (v446)]) (rest := [.int (x5_13)]) hx hb hml hown hts hE hM hS hA ce_X10_stepX tb_1660 (V_X10_stepX_l l D A ad ns I440 L441 G (v446) hI (by first | omega | decide)) rfl rfl ⟨Nat.le_of_ble_eq_true rfl, Nat.le_of_ble_eq_true rfl⟩  rfl hl.1 rfl (Nat.le_of_ble_eq_true rfl) dX10_goes_409 ⟨Nat.le_of_ble_eq_true rfl, Nat.le_of_ble_eq_true rfl⟩) hS (fun r448 u H locs hw hM hS => ?_)
                          obtain ⟨rfl, xr448⟩ := hw
                          have hM : Mem D A ad ns I440 L441 G H := hM
                          refine lv_iadd hx hb dX10_goes_412 ?_
                          refine lv_topi (fun v449 ev449 => ?_)
                          have tv449 := a_add ev449 (by omega) (by omega)
                          refine lv_istore (lv' := [(5, .int (v449)), (7, .int (v446)), (8, .int (v424)), (14, .int (v423)), (10, .int (v413)), (13, .int (v408)), (12, .int (Ia13 (1006) ((v19).toNatClampNeg))), (11, .int (r266)), (9, .int (v19)), (6, .int (x6_13)), (0, .ref (ad (1000))), (1, .int (a0)), (2, .int (a1)), (3, .int (a2)), (4, .int (a3))]) hx hb dX10_goes_413 hl (by decide) rfl (fun ls hl => ?_)
                          refine lv_iload hx hb dX10_goes_415 (lv_at hl 9 rfl) ?_
                          refine lv_iload hx hb dX10_goes_417 (lv_at hl 1 rfl) ?_
                          refine m_calli (m_runS (As := [.int (v446)]) (rest := [.int (x6_13)]) hx hb hml hown hts hE hM hS hA ce_X10_stepY tb_1663 (V_X10_stepY_l l D A ad ns I440 L441 G (v446) hI (by first | omega | decide)) rfl rfl ⟨Nat.le_of_ble_eq_true rfl, Nat.le_of_ble_eq_true rfl⟩  rfl hl.1 rfl (Nat.le_of_ble_eq_true rfl) dX10_goes_419 ⟨Nat.le_of_ble_eq_true rfl, Nat.le_of_ble_eq_true rfl⟩) hS (fun r450 u H locs hw hM hS => ?_)
                          obtain ⟨rfl, xr450⟩ := hw
                          have hM : Mem D A ad ns I440 L441 G H := hM
                          refine lv_iadd hx hb dX10_goes_422 ?_
                          refine lv_topi (fun v451 ev451 => ?_)
                          have tv451 := a_add ev451 (by omega) (by omega)
                          refine lv_istore (lv' := [(6, .int (v451)), (5, .int (v449)), (7, .int (v446)), (8, .int (v424)), (14, .int (v423)), (10, .int (v413)), (13, .int (v408)), (12, .int (Ia13 (1006) ((v19).toNatClampNeg))), (11, .int (r266)), (9, .int (v19)), (0, .ref (ad (1000))), (1, .int (a0)), (2, .int (a1)), (3, .int (a2)), (4, .int (a3))]) hx hb dX10_goes_423 hl (by decide) rfl (fun ls hl => ?_)
                          refine lv_goto (tgt := 13) hx hb dX10_goes_425 (by decide) ?_
                          have tr100055 : (I440 (1000) 55).toInt = (v4 : Int32).toInt := congrArg Int32.toInt (((hkI440.get (1000) 55 rfl)).trans (show (u2 (u2 (u2 (u2 (u2 Ia13 (1000) 55 (v4)) (1000) 53 (v27)) (1049) ((v19).toNatClampNeg) (v29)) (1050) ((r266).toNatClampNeg) (v382)) (1000) 53 (v415)) (1000) 55 = v4 from by simp [u2_v]))
                          have h55n : (I440 (1000) 55).toInt = (v4 : Int32).toInt := congrArg Int32.toInt (((hkI440.get (1000) 55 rfl)).trans (show (u2 (u2 (u2 (u2 (u2 Ia13 (1000) 55 (v4)) (1000) 53 (v27)) (1049) ((v19).toNatClampNeg) (v29)) (1050) ((r266).toNatClampNeg) (v382)) (1000) 53 (v415)) (1000) 55 = v4 from by simp [u2_v]))
                          have h53 : v415 = (u2 (u2 (u2 (u2 Ia13 (1000) 55 (v4)) (1000) 53 (v27)) (1049) ((v19).toNatClampNeg) (v29)) (1050) ((r266).toNatClampNeg) (v382)) 1000 53 + mirG (twM Ia13) (Ia13 (1006) ((v19).toNatClampNeg)) (r401) := by rw [← hG, ev415]; simp [u2_v]
                          have hMI : MIM (twM Ia13) (Ia13 (1006) ((v19).toNatClampNeg)) x5_13 x6_13 x7_13 (r401) (u2 (u2 (u2 (u2 Ia13 (1000) 55 (v4)) (1000) 53 (v27)) (1049) ((v19).toNatClampNeg) (v29)) (1050) ((r266).toNatClampNeg) (v382)) I440 := by
                            refine MIM.y (by rw [← hon]; omega) ?_
                            rw [← h53, ← hon, show x5_13 + sX x7_13 = v437 from by rw [ev437, xr436.1], show x6_13 + sY x7_13 = v439 from by rw [ev439, xr438.1]]
                            exact xI440.2
                          exact ih13 (v424) (v446) (v451) (v449) I440 L441 _ _ ls hI hK (by first | omega | decide) (by first | omega | decide) (by omega) (by rw [← tw13]; exact FXM.step hF13 (by omega) (by omega) (by omega) (by omega) hop (STM.y hcS hym hmv htl hMI) (by unfold stpW; rw [if_pos hym, ← hmv]; exact and7 (a := Ia13 1009 (Ia13 (1006) ((v19).toNatClampNeg)).toNatClampNeg) hr4 (by omega) (by omega)) (by unfold stpL; rw [if_pos hym, ← hmv, ← htl]; exact hL3) (by rw [ev449, xr448.1]) (by rw [ev451, xr450.1])) (by omega) hM hS (lv_sub hl [3, 2, 0, 1, 10, 11, 12, 13, 14] rfl)
                      · have hc405 := c405
                        have q405 := q_nle hc405
                        refine lv_sipush (v := (1000)) hx hb dX10_goes_277 (by decide) ?_
                        refine lv_goto (tgt := 298) hx hb dX10_goes_280 (by decide) ?_
                        refine lv_istore (lv' := [(13, .int (1000)), (8, .int (r401)), (12, .int (Ia13 (1006) ((v19).toNatClampNeg))), (10, .int (v380)), (11, .int (r266)), (9, .int (v19)), (7, .int (x7_13)), (6, .int (x6_13)), (5, .int (x5_13)), (0, .ref (ad (1000))), (1, .int (a0)), (2, .int (a1)), (3, .int (a2)), (4, .int (a3))]) hx hb dX10_goes_298 hl (by decide) rfl (fun ls hl => ?_)
                        have hdu : (1000 : Int32) = lsT (twM Ia13) (Ia13 (1006) ((v19).toNatClampNeg)).toNatClampNeg := lsT_gt ev404 (by omega)
                        have hdl : 0 ≤ (1000 : Int32).toInt ∧ (1000 : Int32).toInt ≤ 1000 := by rw [hdu]; exact lsT_r hr1 hr2
                        have htl : r401 = cellL (twM Ia13) x5_13 x6_13 x8_13 := xr401.trans hcL
                        refine lv_iload hx hb dX10_goes_300 (lv_at hl 1 rfl) ?_
                        refine lv_i2l hx hb dX10_goes_302 rfl ?_
                        refine lv_topl (fun v452 ev452 => ?_)
                        have tv452 := q_i2l ev452
                        refine lv_iload hx hb dX10_goes_303 (lv_at hl 0 rfl) ?_
                        refine lv_i2l hx hb dX10_goes_305 rfl ?_
                        refine lv_topl (fun v453 ev453 => ?_)
                        have tv453 := q_i2l ev453
                        refine lv_lmul hx hb dX10_goes_306 ?_
                        refine lv_topl (fun v454 ev454 => ?_)
                        refine lv_ldc2 (v := (1000)) hx hb hown (hts _ tb_1428) dX10_goes_307 ?_
                        refine lv_ldiv hx hb dX10_goes_310 (by decide) ?_
                        refine lv_topl (fun v455 ev455 => ?_)
                        refine lv_l2i hx hb dX10_goes_311 rfl ?_
                        refine lv_topi (fun v456 ev456 => ?_)
                        have shv456 : v456 = shr (r401) (1000) := shr_l ev452 ev453 ev454 ev455 ev456 (by omega) hdl
                        have sbv456 := shr_b (s := r401) (t := 1000) (by omega) hdl
                        rw [← shv456] at sbv456
                        refine lv_istore (lv' := [(10, .int (v456)), (13, .int (1000)), (8, .int (r401)), (12, .int (Ia13 (1006) ((v19).toNatClampNeg))), (11, .int (r266)), (9, .int (v19)), (7, .int (x7_13)), (6, .int (x6_13)), (5, .int (x5_13)), (0, .ref (ad (1000))), (1, .int (a0)), (2, .int (a1)), (3, .int (a2)), (4, .int (a3))]) hx hb dX10_goes_312 hl (by decide) rfl (fun ls hl => ?_)
                        refine lv_aload_n hx hb dX10_goes_314 rfl (lv_at hl 9 rfl) ?_
                        refine lv_dup hx hb dX10_goes_315 rfl ?_
                        refine m_geti (1000) 53 hx hb hts hown hE oc10 hM hJ.1 rfl (by decide) rfl tb_1230 dX10_goes_316 ?_
                        have z457 : (u2 (u2 (u2 (u2 Ia13 (1000) 55 (v4)) (1000) 53 (v27)) (1049) ((v19).toNatClampNeg) (v29)) (1050) ((r266).toNatClampNeg) (v382)) (1000) 53 = v27 := (show (u2 (u2 (u2 (u2 Ia13 (1000) 55 (v4)) (1000) 53 (v27)) (1049) ((v19).toNatClampNeg) (v29)) (1050) ((r266).toNatClampNeg) (v382)) (1000) 53 = v27 from by simp [u2_v])
                        rw [z457]
                        refine lv_iload hx hb dX10_goes_319 (lv_at hl 0 rfl) ?_
                        refine lv_iadd hx hb dX10_goes_321 ?_
                        refine lv_topi (fun v458 ev458 => ?_)
                        refine m_puti (1000) 53 hx hb hts hown hE oc10 hM hS hJ.1 rfl (by decide) rfl rfl rfl rfl tb_1230 dX10_goes_322 (fun H locs I459 eI459 hM hS => ?_)
                        subst eI459
                        have hI := hI.putF (n := 1000) (k := 53) (v := v458) rfl
                        have hK := hK.put (n := 1000) (k := 53) (v := v458) (by first | rfl | simp [inR])
                        refine lv_iload hx hb dX10_goes_325 (lv_at hl 2 rfl) ?_
                        refine lv_iload hx hb dX10_goes_327 (lv_at hl 0 rfl) ?_
                        refine lv_isub hx hb dX10_goes_329 ?_
                        refine lv_topi (fun v460 ev460 => ?_)
                        have tv460 := a_sub ev460 (by omega) (by omega)
                        refine lv_istore (lv' := [(8, .int (v460)), (10, .int (v456)), (13, .int (1000)), (12, .int (Ia13 (1006) ((v19).toNatClampNeg))), (11, .int (r266)), (9, .int (v19)), (7, .int (x7_13)), (6, .int (x6_13)), (5, .int (x5_13)), (0, .ref (ad (1000))), (1, .int (a0)), (2, .int (a1)), (3, .int (a2)), (4, .int (a3))]) hx hb dX10_goes_330 hl (by decide) rfl (fun ls hl => ?_)
                        refine lv_iload hx hb dX10_goes_332 (lv_at hl 0 rfl) ?_
                        refine lv_i2l hx hb dX10_goes_334 rfl ?_
                        refine lv_topl (fun v461 ev461 => ?_)
                        have tv461 := q_i2l ev461
                        refine lv_aload_n hx hb dX10_goes_335 rfl (lv_at hl 9 rfl) ?_
                        refine m_getr (1000) 11 (1011) hx hb hts hown hE oc10 hM hJ.1 rfl (by decide) rfl (hJ.2 11 (by decide)).2 (by decide) tb_1188 dX10_goes_336 ?_
                        refine lv_iload hx hb dX10_goes_339 (lv_at hl 3 rfl) ?_
                        refine m_iald (1011) hx hb hE hM (hJ.2 11 (by decide)).1 rfl (vp_in_iff.mpr (by omega)) dX10_goes_341 ?_
                        have z462 : (u2 (u2 (u2 (u2 (u2 Ia13 (1000) 55 (v4)) (1000) 53 (v27)) (1049) ((v19).toNatClampNeg) (v29)) (1050) ((r266).toNatClampNeg) (v382)) (1000) 53 (v458)) (1011) (Ia13 (1006) ((v19).toNatClampNeg)).toNatClampNeg = Ia13 (1011) ((Ia13 (1006) ((v19).toNatClampNeg)).toNatClampNeg) := (show (u2 (u2 (u2 (u2 (u2 Ia13 (1000) 55 (v4)) (1000) 53 (v27)) (1049) ((v19).toNatClampNeg) (v29)) (1050) ((r266).toNatClampNeg) (v382)) (1000) 53 (v458)) (1011) ((Ia13 (1006) ((v19).toNatClampNeg)).toNatClampNeg) = Ia13 (1011) ((Ia13 (1006) ((v19).toNatClampNeg)).toNatClampNeg) from by simp [u2_v])
                        rw [z462]
                        refine lv_i2l hx hb dX10_goes_342 rfl ?_
                        refine lv_topl (fun v463 ev463 => ?_)
                        have tv463 := q_i2l ev463
                        refine lv_lmul hx hb dX10_goes_343 ?_
                        refine lv_topl (fun v464 ev464 => ?_)
                        refine lv_ldc2 (v := (1000)) hx hb hown (hts _ tb_1428) dX10_goes_344 ?_
                        refine lv_ldiv hx hb dX10_goes_347 (by decide) ?_
                        refine lv_topl (fun v465 ev465 => ?_)
                        refine lv_l2i hx hb dX10_goes_348 rfl ?_
                        refine lv_topi (fun v466 ev466 => ?_)
                        have shv466 : v466 = shr (v460) (Ia13 (1011) ((Ia13 (1006) ((v19).toNatClampNeg)).toNatClampNeg)) := shr_l ev461 ev463 ev464 ev465 ev466 (by omega) hth
                        have sbv466 := shr_b (s := v460) (t := Ia13 (1011) ((Ia13 (1006) ((v19).toNatClampNeg)).toNatClampNeg)) (by omega) hth
                        rw [← shv466] at sbv466
                        refine lv_istore (lv' := [(14, .int (v466)), (8, .int (v460)), (10, .int (v456)), (13, .int (1000)), (12, .int (Ia13 (1006) ((v19).toNatClampNeg))), (11, .int (r266)), (9, .int (v19)), (7, .int (x7_13)), (6, .int (x6_13)), (5, .int (x5_13)), (0, .ref (ad (1000))), (1, .int (a0)), (2, .int (a1)), (3, .int (a2)), (4, .int (a3))]) hx hb dX10_goes_349 hl (by decide) rfl (fun ls hl => ?_)
                        refine lv_iload hx hb dX10_goes_351 (lv_at hl 1 rfl) ?_
                        refine lv_iload hx hb dX10_goes_353 (lv_at hl 0 rfl) ?_
                        refine lv_isub hx hb dX10_goes_355 ?_
                        refine lv_topi (fun v467 ev467 => ?_)
                        have tv467 := a_sub ev467 (by omega) (by omega)
                        refine lv_istore (lv' := [(8, .int (v467)), (14, .int (v466)), (10, .int (v456)), (13, .int (1000)), (12, .int (Ia13 (1006) ((v19).toNatClampNeg))), (11, .int (r266)), (9, .int (v19)), (7, .int (x7_13)), (6, .int (x6_13)), (5, .int (x5_13)), (0, .ref (ad (1000))), (1, .int (a0)), (2, .int (a1)), (3, .int (a2)), (4, .int (a3))]) hx hb dX10_goes_356 hl (by decide) rfl (fun ls hl => ?_)
                        have hG : v456 = mirG (twM Ia13) (Ia13 (1006) ((v19).toNatClampNeg)) (r401) := by rw [shv456, hdu]; rfl
                        have hon : v466 = mirT (twM Ia13) (Ia13 (1006) ((v19).toNatClampNeg)) (r401) := by rw [shv466, ev460, hG]; rfl
                        have hL3 : v467 = mirL (twM Ia13) (Ia13 (1006) ((v19).toNatClampNeg)) (r401) := by rw [ev467, hon, ev460, hG]; rfl
                        refine lv_iload hx hb dX10_goes_358 (lv_at hl 1 rfl) ?_
                        refine lv_if_le (tgt := 387) hx hb dX10_goes_360 (by decide) (fun c468 => ?_) (fun c468 => ?_)
                        · have hc468 := c468
                          have q468 := q_le hc468
                          refine lv_aload_n hx hb dX10_goes_387 rfl (lv_at hl 10 rfl) ?_
                          refine m_getr (1000) 9 (1009) hx hb hts hown hE oc10 hM hJ.1 rfl (by decide) rfl (hJ.2 9 (by decide)).2 (by decide) tb_1186 dX10_goes_388 ?_
                          refine lv_iload hx hb dX10_goes_391 (lv_at hl 4 rfl) ?_
                          refine m_iald (1009) hx hb hE hM (hJ.2 9 (by decide)).1 rfl (vp_in_iff.mpr (by omega)) dX10_goes_393 ?_
                          have z469 : (u2 (u2 (u2 (u2 (u2 Ia13 (1000) 55 (v4)) (1000) 53 (v27)) (1049) ((v19).toNatClampNeg) (v29)) (1050) ((r266).toNatClampNeg) (v382)) (1000) 53 (v458)) (1009) (Ia13 (1006) ((v19).toNatClampNeg)).toNatClampNeg = Ia13 (1009) ((Ia13 (1006) ((v19).toNatClampNeg)).toNatClampNeg) := (show (u2 (u2 (u2 (u2 (u2 Ia13 (1000) 55 (v4)) (1000) 53 (v27)) (1049) ((v19).toNatClampNeg) (v29)) (1050) ((r266).toNatClampNeg) (v382)) (1000) 53 (v458)) (1009) ((Ia13 (1006) ((v19).toNatClampNeg)).toNatClampNeg) = Ia13 (1009) ((Ia13 (1006) ((v19).toNatClampNeg)).toNatClampNeg) from by simp [u2_v])
                          rw [z469]
                          refine lv_iload hx hb dX10_goes_394 (lv_at hl 7 rfl) ?_
                          refine lv_isub hx hb dX10_goes_396 ?_
                          refine lv_topi (fun v470 ev470 => ?_)
                          have tv470 := a_sub ev470 (by omega) (by omega)
                          refine lv_bipush (v := (8)) hx hb dX10_goes_397 (by decide) ?_
                          refine lv_iadd hx hb dX10_goes_399 ?_
                          refine lv_topi (fun v471 ev471 => ?_)
                          have tv471 := a_add ev471 (by omega) (by omega)
                          refine lv_bipush (v := (8)) hx hb dX10_goes_400 (by decide) ?_
                          refine lv_irem hx hb dX10_goes_402 (by decide) ?_
                          refine lv_topi (fun v472 ev472 => ?_)
                          have tv472 := a_rem (c := 8) ev472 (by decide) (by decide) (by omega)
                          refine lv_istore (lv' := [(7, .int (v472)), (8, .int (v467)), (14, .int (v466)), (10, .int (v456)), (13, .int (1000)), (12, .int (Ia13 (1006) ((v19).toNatClampNeg))), (11, .int (r266)), (9, .int (v19)), (6, .int (x6_13)), (5, .int (x5_13)), (0, .ref (ad (1000))), (1, .int (a0)), (2, .int (a1)), (3, .int (a2)), (4, .int (a3))]) hx hb dX10_goes_403 hl (by decide) rfl (fun ls hl => ?_)
                          refine lv_iload hx hb dX10_goes_405 (lv_at hl 9 rfl) ?_
                          refine lv_iload hx hb dX10_goes_407 (lv_at hl 0 rfl) ?_
                          have tw473 : twM (u2 (u2 (u2 (u2 (u2 Ia13 (1000) 55 (v4)) (1000) 53 (v27)) (1049) ((v19).toNatClampNeg) (v29)) (1050) ((r266).toNatClampNeg) (v382)) (1000) 53 (v458)) = twM I := twM_kp hK rfl
                          refine m_calli (m_runS (As := [.int (v472)]) (rest := [.int (x5_13)]) hx hb hml hown hts hE hM hS hA ce_X10_stepX tb_1660 (V_X10_stepX_l l D A ad ns (u2 (u2 (u2 (u2 (u2 Ia13 (1000) 55 (v4)) (1000) 53 (v27)) (1049) ((v19).toNatClampNeg) (v29)) (1050) ((r266).toNatClampNeg) (v382)) (1000) 53 (v458)) La13 G (v472) hI (by first | omega | decide)) rfl rfl ⟨Nat.le_of_ble_eq_true rfl, Nat.le_of_ble_eq_true rfl⟩  rfl hl.1 rfl (Nat.le_of_ble_eq_true rfl) dX10_goes_409 ⟨Nat.le_of_ble_eq_true rfl, Nat.le_of_ble_eq_true rfl⟩) hS (fun r474 u H locs hw hM hS => ?_)
                          obtain ⟨rfl, xr474⟩ := hw
                          have hM : Mem D A ad ns (u2 (u2 (u2 (u2 (u2 Ia13 (1000) 55 (v4)) (1000) 53 (v27)) (1049) ((v19).toNatClampNeg) (v29)) (1050) ((r266).toNatClampNeg) (v382)) (1000) 53 (v458)) La13 G H := hM
                          refine lv_iadd hx hb dX10_goes_412 ?_
                          refine lv_topi (fun v475 ev475 => ?_)
                          have tv475 := a_add ev475 (by omega) (by omega)
                          refine lv_istore (lv' := [(5, .int (v475)), (7, .int (v472)), (8, .int (v467)), (14, .int (v466)), (10, .int (v456)), (13, .int (1000)), (12, .int (Ia13 (1006) ((v19).toNatClampNeg))), (11, .int (r266)), (9, .int (v19)), (6, .int (x6_13)), (0, .ref (ad (1000))), (1, .int (a0)), (2, .int (a1)), (3, .int (a2)), (4, .int (a3))]) hx hb dX10_goes_413 hl (by decide) rfl (fun ls hl => ?_)
                          refine lv_iload hx hb dX10_goes_415 (lv_at hl 9 rfl) ?_
                          refine lv_iload hx hb dX10_goes_417 (lv_at hl 1 rfl) ?_
                          refine m_calli (m_runS (As := [.int (v472)]) (rest := [.int (x6_13)]) hx hb hml hown hts hE hM hS hA ce_X10_stepY tb_1663 (V_X10_stepY_l l D A ad ns (u2 (u2 (u2 (u2 (u2 Ia13 (1000) 55 (v4)) (1000) 53 (v27)) (1049) ((v19).toNatClampNeg) (v29)) (1050) ((r266).toNatClampNeg) (v382)) (1000) 53 (v458)) La13 G (v472) hI (by first | omega | decide)) rfl rfl ⟨Nat.le_of_ble_eq_true rfl, Nat.le_of_ble_eq_true rfl⟩  rfl hl.1 rfl (Nat.le_of_ble_eq_true rfl) dX10_goes_419 ⟨Nat.le_of_ble_eq_true rfl, Nat.le_of_ble_eq_true rfl⟩) hS (fun r476 u H locs hw hM hS => ?_)
                          obtain ⟨rfl, xr476⟩ := hw
                          have hM : Mem D A ad ns (u2 (u2 (u2 (u2 (u2 Ia13 (1000) 55 (v4)) (1000) 53 (v27)) (1049) ((v19).toNatClampNeg) (v29)) (1050) ((r266).toNatClampNeg) (v382)) (1000) 53 (v458)) La13 G H := hM
                          refine lv_iadd hx hb dX10_goes_422 ?_
                          refine lv_topi (fun v477 ev477 => ?_)
                          have tv477 := a_add ev477 (by omega) (by omega)
                          refine lv_istore (lv' := [(6, .int (v477)), (5, .int (v475)), (7, .int (v472)), (8, .int (v467)), (14, .int (v466)), (10, .int (v456)), (13, .int (1000)), (12, .int (Ia13 (1006) ((v19).toNatClampNeg))), (11, .int (r266)), (9, .int (v19)), (0, .ref (ad (1000))), (1, .int (a0)), (2, .int (a1)), (3, .int (a2)), (4, .int (a3))]) hx hb dX10_goes_423 hl (by decide) rfl (fun ls hl => ?_)
                          refine lv_goto (tgt := 13) hx hb dX10_goes_425 (by decide) ?_
                          have tr100055 : ((u2 (u2 (u2 (u2 (u2 Ia13 (1000) 55 (v4)) (1000) 53 (v27)) (1049) ((v19).toNatClampNeg) (v29)) (1050) ((r266).toNatClampNeg) (v382)) (1000) 53 (v458)) (1000) 55).toInt = (v4 : Int32).toInt := congrArg Int32.toInt ((show (u2 (u2 (u2 (u2 (u2 Ia13 (1000) 55 (v4)) (1000) 53 (v27)) (1049) ((v19).toNatClampNeg) (v29)) (1050) ((r266).toNatClampNeg) (v382)) (1000) 53 (v458)) (1000) 55 = v4 from by simp [u2_v]))
                          have tr100052 : ((u2 (u2 (u2 (u2 (u2 Ia13 (1000) 55 (v4)) (1000) 53 (v27)) (1049) ((v19).toNatClampNeg) (v29)) (1050) ((r266).toNatClampNeg) (v382)) (1000) 53 (v458)) (1000) 52).toInt = (Ia13 (1000) 52 : Int32).toInt := congrArg Int32.toInt ((show (u2 (u2 (u2 (u2 (u2 Ia13 (1000) 55 (v4)) (1000) 53 (v27)) (1049) ((v19).toNatClampNeg) (v29)) (1050) ((r266).toNatClampNeg) (v382)) (1000) 53 (v458)) (1000) 52 = Ia13 (1000) 52 from by simp [u2_v]))
                          have h55n : ((u2 (u2 (u2 (u2 (u2 Ia13 (1000) 55 (v4)) (1000) 53 (v27)) (1049) ((v19).toNatClampNeg) (v29)) (1050) ((r266).toNatClampNeg) (v382)) (1000) 53 (v458)) (1000) 55).toInt = (v4 : Int32).toInt := congrArg Int32.toInt ((show (u2 (u2 (u2 (u2 (u2 Ia13 (1000) 55 (v4)) (1000) 53 (v27)) (1049) ((v19).toNatClampNeg) (v29)) (1050) ((r266).toNatClampNeg) (v382)) (1000) 53 (v458)) (1000) 55 = v4 from by simp [u2_v]))
                          have h53 : v458 = (u2 (u2 (u2 (u2 Ia13 (1000) 55 (v4)) (1000) 53 (v27)) (1049) ((v19).toNatClampNeg) (v29)) (1050) ((r266).toNatClampNeg) (v382)) 1000 53 + mirG (twM Ia13) (Ia13 (1006) ((v19).toNatClampNeg)) (r401) := by rw [← hG, ev458]; simp [u2_v]
                          have hMI : MIM (twM Ia13) (Ia13 (1006) ((v19).toNatClampNeg)) x5_13 x6_13 x7_13 (r401) (u2 (u2 (u2 (u2 Ia13 (1000) 55 (v4)) (1000) 53 (v27)) (1049) ((v19).toNatClampNeg) (v29)) (1050) ((r266).toNatClampNeg) (v382)) (u2 (u2 (u2 (u2 (u2 Ia13 (1000) 55 (v4)) (1000) 53 (v27)) (1049) ((v19).toNatClampNeg) (v29)) (1050) ((r266).toNatClampNeg) (v382)) (1000) 53 (v458)) := by rw [h53]; exact MIM.n (by rw [← hon]; omega)
                          exact ih13 (v467) (v472) (v477) (v475) (u2 (u2 (u2 (u2 (u2 Ia13 (1000) 55 (v4)) (1000) 53 (v27)) (1049) ((v19).toNatClampNeg) (v29)) (1050) ((r266).toNatClampNeg) (v382)) (1000) 53 (v458)) La13 _ _ ls hI hK (by first | omega | decide) (by first | omega | decide) (by omega) (by rw [← tw13]; exact FXM.step hF13 (by omega) (by omega) (by omega) (by omega) hop (STM.y hcS hym hmv htl hMI) (by unfold stpW; rw [if_pos hym, ← hmv]; exact and7 (a := Ia13 1009 (Ia13 (1006) ((v19).toNatClampNeg)).toNatClampNeg) hr4 (by omega) (by omega)) (by unfold stpL; rw [if_pos hym, ← hmv, ← htl]; exact hL3) (by rw [ev475, xr474.1]) (by rw [ev477, xr476.1])) (by omega) hM hS (lv_sub hl [3, 2, 0, 1, 10, 11, 12, 13, 14] rfl)
                        · have hc468 := c468
                          have q468 := q_nle hc468
                          refine lv_aload_n hx hb dX10_goes_363 rfl (lv_at hl 10 rfl) ?_
                          refine lv_iload hx hb dX10_goes_364 (lv_at hl 9 rfl) ?_
                          refine lv_iload hx hb dX10_goes_366 (lv_at hl 7 rfl) ?_
                          have tw478 : twM (u2 (u2 (u2 (u2 (u2 Ia13 (1000) 55 (v4)) (1000) 53 (v27)) (1049) ((v19).toNatClampNeg) (v29)) (1050) ((r266).toNatClampNeg) (v382)) (1000) 53 (v458)) = twM I := twM_kp hK rfl
                          refine m_calli (m_runS (As := [.int (x7_13)]) (rest := [.int (x5_13), .ref (ad (1000))]) hx hb hml hown hts hE hM hS hA ce_X10_stepX tb_1660 (V_X10_stepX_l l D A ad ns (u2 (u2 (u2 (u2 (u2 Ia13 (1000) 55 (v4)) (1000) 53 (v27)) (1049) ((v19).toNatClampNeg) (v29)) (1050) ((r266).toNatClampNeg) (v382)) (1000) 53 (v458)) La13 G (x7_13) hI (by first | omega | decide)) rfl rfl ⟨Nat.le_of_ble_eq_true rfl, Nat.le_of_ble_eq_true rfl⟩  rfl hl.1 rfl (Nat.le_of_ble_eq_true rfl) dX10_goes_368 ⟨Nat.le_of_ble_eq_true rfl, Nat.le_of_ble_eq_true rfl⟩) hS (fun r479 u H locs hw hM hS => ?_)
                          obtain ⟨rfl, xr479⟩ := hw
                          have hM : Mem D A ad ns (u2 (u2 (u2 (u2 (u2 Ia13 (1000) 55 (v4)) (1000) 53 (v27)) (1049) ((v19).toNatClampNeg) (v29)) (1050) ((r266).toNatClampNeg) (v382)) (1000) 53 (v458)) La13 G H := hM
                          refine lv_iadd hx hb dX10_goes_371 ?_
                          refine lv_topi (fun v480 ev480 => ?_)
                          have tv480 := a_add ev480 (by omega) (by omega)
                          refine lv_iload hx hb dX10_goes_372 (lv_at hl 8 rfl) ?_
                          refine lv_iload hx hb dX10_goes_374 (lv_at hl 7 rfl) ?_
                          refine m_calli (m_runS (As := [.int (x7_13)]) (rest := [.int (x6_13), .int (v480), .ref (ad (1000))]) hx hb hml hown hts hE hM hS hA ce_X10_stepY tb_1663 (V_X10_stepY_l l D A ad ns (u2 (u2 (u2 (u2 (u2 Ia13 (1000) 55 (v4)) (1000) 53 (v27)) (1049) ((v19).toNatClampNeg) (v29)) (1050) ((r266).toNatClampNeg) (v382)) (1000) 53 (v458)) La13 G (x7_13) hI (by first | omega | decide)) rfl rfl ⟨Nat.le_of_ble_eq_true rfl, Nat.le_of_ble_eq_true rfl⟩  rfl hl.1 rfl (Nat.le_of_ble_eq_true rfl) dX10_goes_376 ⟨Nat.le_of_ble_eq_true rfl, Nat.le_of_ble_eq_true rfl⟩) hS (fun r481 u H locs hw hM hS => ?_)
                          obtain ⟨rfl, xr481⟩ := hw
                          have hM : Mem D A ad ns (u2 (u2 (u2 (u2 (u2 Ia13 (1000) 55 (v4)) (1000) 53 (v27)) (1049) ((v19).toNatClampNeg) (v29)) (1050) ((r266).toNatClampNeg) (v382)) (1000) 53 (v458)) La13 G H := hM
                          refine lv_iadd hx hb dX10_goes_379 ?_
                          refine lv_topi (fun v482 ev482 => ?_)
                          have tv482 := a_add ev482 (by omega) (by omega)
                          refine lv_iload hx hb dX10_goes_380 (lv_at hl 7 rfl) ?_
                          refine lv_iload hx hb dX10_goes_382 (lv_at hl 1 rfl) ?_
                          refine m_callv (m_runV (1000) (As := [.int (v480), .int (v482), .int (x7_13), .int (v466)]) (rest := []) hx hb hml hown hts hE hM hS hA ce_X10_waitsFor tb_1666 (V_X10_waitsFor_l l D A ad ns (u2 (u2 (u2 (u2 (u2 Ia13 (1000) 55 (v4)) (1000) 53 (v27)) (1049) ((v19).toNatClampNeg) (v29)) (1050) ((r266).toNatClampNeg) (v382)) (1000) 53 (v458)) La13 G (v480) (v482) (x7_13) (v466) hJ hI (by first | omega | decide) (by first | omega | decide)) rfl rfl ⟨Nat.le_of_ble_eq_true rfl, Nat.le_of_ble_eq_true rfl⟩ hJ.1 rfl rfl (by decide) rfl hl.1 rfl (Nat.le_of_ble_eq_true rfl) dX10_goes_384 ⟨Nat.le_of_ble_eq_true rfl, Nat.le_of_ble_eq_true rfl⟩) hS (fun u H locs hw hM hS => ?_)
                          obtain ⟨I483, L484, rfl, hI, hkI483, xI483⟩ := hw
                          have hM : Mem D A ad ns I483 L484 G H := hM
                          have hK := hK.trans hkI483 rfl
                          have pw485 : ((u2 (u2 (u2 (u2 (u2 Ia13 (1000) 55 (v4)) (1000) 53 (v27)) (1049) ((v19).toNatClampNeg) (v29)) (1050) ((r266).toNatClampNeg) (v382)) (1000) 53 (v458)) (1000) 52).toInt = (Ia13 (1000) 52 : Int32).toInt := congrArg Int32.toInt ((show (u2 (u2 (u2 (u2 (u2 Ia13 (1000) 55 (v4)) (1000) 53 (v27)) (1049) ((v19).toNatClampNeg) (v29)) (1050) ((r266).toNatClampNeg) (v382)) (1000) 53 (v458)) (1000) 52 = Ia13 (1000) 52 from by simp [u2_v]))
                          refine lv_aload_n hx hb dX10_goes_387 rfl (lv_at hl 10 rfl) ?_
                          refine m_getr (1000) 9 (1009) hx hb hts hown hE oc10 hM hJ.1 rfl (by decide) rfl (hJ.2 9 (by decide)).2 (by decide) tb_1186 dX10_goes_388 ?_
                          refine lv_iload hx hb dX10_goes_391 (lv_at hl 4 rfl) ?_
                          refine m_iald (1009) hx hb hE hM (hJ.2 9 (by decide)).1 rfl (vp_in_iff.mpr (by omega)) dX10_goes_393 ?_
                          have z486 : I483 (1009) (Ia13 (1006) ((v19).toNatClampNeg)).toNatClampNeg = Ia13 (1009) ((Ia13 (1006) ((v19).toNatClampNeg)).toNatClampNeg) := ((congrFun (hkI483.getA (1009) rfl) ((Ia13 (1006) ((v19).toNatClampNeg)).toNatClampNeg))).trans (show (u2 (u2 (u2 (u2 (u2 Ia13 (1000) 55 (v4)) (1000) 53 (v27)) (1049) ((v19).toNatClampNeg) (v29)) (1050) ((r266).toNatClampNeg) (v382)) (1000) 53 (v458)) (1009) ((Ia13 (1006) ((v19).toNatClampNeg)).toNatClampNeg) = Ia13 (1009) ((Ia13 (1006) ((v19).toNatClampNeg)).toNatClampNeg) from by simp [u2_v])
                          rw [z486]
                          refine lv_iload hx hb dX10_goes_394 (lv_at hl 7 rfl) ?_
                          refine lv_isub hx hb dX10_goes_396 ?_
                          refine lv_topi (fun v487 ev487 => ?_)
                          have tv487 := a_sub ev487 (by omega) (by omega)
                          refine lv_bipush (v := (8)) hx hb dX10_goes_397 (by decide) ?_
                          refine lv_iadd hx hb dX10_goes_399 ?_
                          refine lv_topi (fun v488 ev488 => ?_)
                          have tv488 := a_add ev488 (by omega) (by omega)
                          refine lv_bipush (v := (8)) hx hb dX10_goes_400 (by decide) ?_
                          refine lv_irem hx hb dX10_goes_402 (by decide) ?_
                          refine lv_topi (fun v489 ev489 => ?_)
                          have tv489 := a_rem (c := 8) ev489 (by decide) (by decide) (by omega)
                          refine lv_istore (lv' := [(7, .int (v489)), (8, .int (v467)), (14, .int (v466)), (10, .int (v456)), (13, .int (1000)), (12, .int (Ia13 (1006) ((v19).toNatClampNeg))), (11, .int (r266)), (9, .int (v19)), (6, .int (x6_13)), (5, .int (x5_13)), (0, .ref (ad (1000))), (1, .int (a0)), (2, .int (a1)), (3, .int (a2)), (4, .int (a3))]) hx hb dX10_goes_403 hl (by decide) rfl (fun ls hl => ?_)
                          refine lv_iload hx hb dX10_goes_405 (lv_at hl 9 rfl) ?_
                          refine lv_iload hx hb dX10_goes_407 (lv_at hl 0 rfl) ?_
                          have tw490 : twM I483 = twM I := twM_kp hK rfl
                          refine m_calli (m_runS (As := [.int (v489)]) (rest := [.int (x5_13)]) hx hb hml hown hts hE hM hS hA ce_X10_stepX tb_1660 (V_X10_stepX_l l D A ad ns I483 L484 G (v489) hI (by first | omega | decide)) rfl rfl ⟨Nat.le_of_ble_eq_true rfl, Nat.le_of_ble_eq_true rfl⟩  rfl hl.1 rfl (Nat.le_of_ble_eq_true rfl) dX10_goes_409 ⟨Nat.le_of_ble_eq_true rfl, Nat.le_of_ble_eq_true rfl⟩) hS (fun r491 u H locs hw hM hS => ?_)
                          obtain ⟨rfl, xr491⟩ := hw
                          have hM : Mem D A ad ns I483 L484 G H := hM
                          refine lv_iadd hx hb dX10_goes_412 ?_
                          refine lv_topi (fun v492 ev492 => ?_)
                          have tv492 := a_add ev492 (by omega) (by omega)
                          refine lv_istore (lv' := [(5, .int (v492)), (7, .int (v489)), (8, .int (v467)), (14, .int (v466)), (10, .int (v456)), (13, .int (1000)), (12, .int (Ia13 (1006) ((v19).toNatClampNeg))), (11, .int (r266)), (9, .int (v19)), (6, .int (x6_13)), (0, .ref (ad (1000))), (1, .int (a0)), (2, .int (a1)), (3, .int (a2)), (4, .int (a3))]) hx hb dX10_goes_413 hl (by decide) rfl (fun ls hl => ?_)
                          refine lv_iload hx hb dX10_goes_415 (lv_at hl 9 rfl) ?_
                          refine lv_iload hx hb dX10_goes_417 (lv_at hl 1 rfl) ?_
                          refine m_calli (m_runS (As := [.int (v489)]) (rest := [.int (x6_13)]) hx hb hml hown hts hE hM hS hA ce_X10_stepY tb_1663 (V_X10_stepY_l l D A ad ns I483 L484 G (v489) hI (by first | omega | decide)) rfl rfl ⟨Nat.le_of_ble_eq_true rfl, Nat.le_of_ble_eq_true rfl⟩  rfl hl.1 rfl (Nat.le_of_ble_eq_true rfl) dX10_goes_419 ⟨Nat.le_of_ble_eq_true rfl, Nat.le_of_ble_eq_true rfl⟩) hS (fun r493 u H locs hw hM hS => ?_)
                          obtain ⟨rfl, xr493⟩ := hw
                          have hM : Mem D A ad ns I483 L484 G H := hM
                          refine lv_iadd hx hb dX10_goes_422 ?_
                          refine lv_topi (fun v494 ev494 => ?_)
                          have tv494 := a_add ev494 (by omega) (by omega)
                          refine lv_istore (lv' := [(6, .int (v494)), (5, .int (v492)), (7, .int (v489)), (8, .int (v467)), (14, .int (v466)), (10, .int (v456)), (13, .int (1000)), (12, .int (Ia13 (1006) ((v19).toNatClampNeg))), (11, .int (r266)), (9, .int (v19)), (0, .ref (ad (1000))), (1, .int (a0)), (2, .int (a1)), (3, .int (a2)), (4, .int (a3))]) hx hb dX10_goes_423 hl (by decide) rfl (fun ls hl => ?_)
                          refine lv_goto (tgt := 13) hx hb dX10_goes_425 (by decide) ?_
                          have tr100055 : (I483 (1000) 55).toInt = (v4 : Int32).toInt := congrArg Int32.toInt (((hkI483.get (1000) 55 rfl)).trans (show (u2 (u2 (u2 (u2 (u2 Ia13 (1000) 55 (v4)) (1000) 53 (v27)) (1049) ((v19).toNatClampNeg) (v29)) (1050) ((r266).toNatClampNeg) (v382)) (1000) 53 (v458)) (1000) 55 = v4 from by simp [u2_v]))
                          have h55n : (I483 (1000) 55).toInt = (v4 : Int32).toInt := congrArg Int32.toInt (((hkI483.get (1000) 55 rfl)).trans (show (u2 (u2 (u2 (u2 (u2 Ia13 (1000) 55 (v4)) (1000) 53 (v27)) (1049) ((v19).toNatClampNeg) (v29)) (1050) ((r266).toNatClampNeg) (v382)) (1000) 53 (v458)) (1000) 55 = v4 from by simp [u2_v]))
                          have h53 : v458 = (u2 (u2 (u2 (u2 Ia13 (1000) 55 (v4)) (1000) 53 (v27)) (1049) ((v19).toNatClampNeg) (v29)) (1050) ((r266).toNatClampNeg) (v382)) 1000 53 + mirG (twM Ia13) (Ia13 (1006) ((v19).toNatClampNeg)) (r401) := by rw [← hG, ev458]; simp [u2_v]
                          have hMI : MIM (twM Ia13) (Ia13 (1006) ((v19).toNatClampNeg)) x5_13 x6_13 x7_13 (r401) (u2 (u2 (u2 (u2 Ia13 (1000) 55 (v4)) (1000) 53 (v27)) (1049) ((v19).toNatClampNeg) (v29)) (1050) ((r266).toNatClampNeg) (v382)) I483 := by
                            refine MIM.y (by rw [← hon]; omega) ?_
                            rw [← h53, ← hon, show x5_13 + sX x7_13 = v480 from by rw [ev480, xr479.1], show x6_13 + sY x7_13 = v482 from by rw [ev482, xr481.1]]
                            exact xI483.2
                          exact ih13 (v467) (v489) (v494) (v492) I483 L484 _ _ ls hI hK (by first | omega | decide) (by first | omega | decide) (by omega) (by rw [← tw13]; exact FXM.step hF13 (by omega) (by omega) (by omega) (by omega) hop (STM.y hcS hym hmv htl hMI) (by unfold stpW; rw [if_pos hym, ← hmv]; exact and7 (a := Ia13 1009 (Ia13 (1006) ((v19).toNatClampNeg)).toNatClampNeg) hr4 (by omega) (by omega)) (by unfold stpL; rw [if_pos hym, ← hmv, ← htl]; exact hL3) (by rw [ev492, xr491.1]) (by rw [ev494, xr493.1])) (by omega) hM hS (lv_sub hl [3, 2, 0, 1, 10, 11, 12, 13, 14] rfl)
            · have hc17 := c17
              have q17 := q_eq hc17
              refine lv_aload_n hx hb dX10_goes_78 rfl (lv_at hl 4 rfl) ?_
              refine lv_dup hx hb dX10_goes_79 rfl ?_
              refine m_geti (1000) 54 hx hb hts hown hE oc10 hM hJ.1 rfl (by decide) rfl tb_1231 dX10_goes_80 ?_
              have z495 : (u2 Ia13 (1000) 55 (v4)) (1000) 54 = Ia13 (1000) 54 := (show (u2 Ia13 (1000) 55 (v4)) (1000) 54 = Ia13 (1000) 54 from by simp [u2_v])
              rw [z495]
              refine lv_iload hx hb dX10_goes_83 (lv_at hl 0 rfl) ?_
              refine lv_iadd hx hb dX10_goes_85 ?_
              refine lv_topi (fun v496 ev496 => ?_)
              refine m_puti (1000) 54 hx hb hts hown hE oc10 hM hS hJ.1 rfl (by decide) rfl rfl rfl rfl tb_1231 dX10_goes_86 (fun H locs I497 eI497 hM hS => ?_)
              subst eI497
              have hI := hI.putF (n := 1000) (k := 54) (v := v496) rfl
              have hK := hK.put (n := 1000) (k := 54) (v := v496) (by first | rfl | simp [inR])
              exact m_vret hx hb hr hlocks hM hS (Nat.le_of_ble_eq_true rfl) (Nat.le_of_ble_eq_true rfl) ⟨_, _, rfl, hI, hK, ⟨(by have := congrArg Int32.toInt ((show (u2 (u2 Ia13 (1000) 55 (v4)) (1000) 54 (v496)) (1000) 55 = v4 from by simp [u2_v])); have := congrArg Int32.toInt ((show (u2 (u2 Ia13 (1000) 55 (v4)) (1000) 54 (v496)) (1000) 52 = Ia13 (1000) 52 from by simp [u2_v])); omega), (by rw [← tw13]; subst ev496; exact FXM.shut hF13 (by omega) (by omega) (by omega) (by omega) (fun z => by have z3 : (Ia13 1002 (clN x5_13 x6_13)).toInt = 0 := z.2; rw [← show (v15).toNatClampNeg = clN x5_13 x6_13 from by have z0 := tn (i := v15) (by omega); have z1 := tn (i := x5_13) (by omega); have z2 := tn (i := x6_13) (by omega); unfold clN; omega] at z3; omega))⟩⟩ dX10_goes_89
        · have hc3 := c3
          have q3 := q_eq hc3
          refine lv_aload_n hx hb dX10_goes_28 rfl (lv_at hl 4 rfl) ?_
          refine lv_dup hx hb dX10_goes_29 rfl ?_
          refine m_geti (1000) 54 hx hb hts hown hE oc10 hM hJ.1 rfl (by decide) rfl tb_1231 dX10_goes_30 ?_
          refine lv_iload hx hb dX10_goes_33 (lv_at hl 0 rfl) ?_
          refine lv_iadd hx hb dX10_goes_35 ?_
          refine lv_topi (fun v498 ev498 => ?_)
          refine m_puti (1000) 54 hx hb hts hown hE oc10 hM hS hJ.1 rfl (by decide) rfl rfl rfl rfl tb_1231 dX10_goes_36 (fun H locs I499 eI499 hM hS => ?_)
          subst eI499
          have hI := hI.putF (n := 1000) (k := 54) (v := v498) rfl
          have hK := hK.put (n := 1000) (k := 54) (v := v498) (by first | rfl | simp [inR])
          exact m_vret hx hb hr hlocks hM hS (Nat.le_of_ble_eq_true rfl) (Nat.le_of_ble_eq_true rfl) ⟨_, _, rfl, hI, hK, ⟨(by have := congrArg Int32.toInt ((show (u2 Ia13 (1000) 54 (v498)) (1000) 55 = Ia13 (1000) 55 from by simp [u2_v])); have := congrArg Int32.toInt ((show (u2 Ia13 (1000) 54 (v498)) (1000) 52 = Ia13 (1000) 52 from by simp [u2_v])); omega), (by rw [← tw13]; subst ev498; exact FXM.full hF13 (by omega) (by omega))⟩⟩ dX10_goes_39
  exact loop13 (_ + 1) (a3) (a2) (a1) (a0) I L _ _ ls hI hK (by first | omega | decide) (by first | omega | decide) (by omega) FXM.z (Nat.lt_succ_self _) hM hS (lv_sub hl [0, 1, 2, 3, 4, 5, 6, 7, 8] rfl)
