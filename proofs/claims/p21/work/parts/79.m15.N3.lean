set_option maxHeartbeats 4000000 in
set_option maxRecDepth 20000 in
theorem V_X10_mirror_t (l : Launch) (D : va_G) (A : Nat → Prop) (ad : Nat → Nat) (ns : List Nat) (I : MI) (L : ML) (G : MG) (a0 : Int32) (a1 : Int32) (a2 : Int32) (a3 : Int32) (a4 : Int32) (a5 : Int32) (a6 : Int32) (hJ : SGM ns G) (hI : INV I) : Met l yX10_mirror (wd yX10_mirror cX10_mirror 9 (some .int)) ({ frames := 2, cells := 0, slots := 0, locals := 47 }) (va_Pc [.ref (ad (1000)), .int a0, .int a1, .int a2, .int a3, .int a4, .int a5, .int a6] (PM D A ad ns I L G)) (va_Qi (fun r u => ∃ I2 L2, u = (ad, ns, I2, L2, G) ∧ INV I2 ∧ Kp [(1006, 1017)] [(1001, 8)] I I2 ∧ (ADT (((I 1001 0).toInt = 1 ∧ 0 ≤ a0.toInt ∧ a0.toInt < (I 1001 1).toInt ∧ 0 ≤ a1.toInt ∧ a1.toInt < (I 1001 2).toInt) ∧ (I 1006 (24 * (a1).toNatClampNeg + (a0).toNatClampNeg)).toInt = -1 ∧ (I 1001 8).toInt < 24 ∧ (0 ≤ a2.toInt ∧ a2.toInt ≤ 7) ∧ (0 ≤ a3.toInt ∧ a3.toInt ≤ 1000) ∧ (0 ≤ a4.toInt ∧ a4.toInt ≤ 1000) ∧ (0 ≤ a5.toInt ∧ a5.toInt ≤ 4) ∧ 0 ≤ a6.toInt ∧ a6.toInt ≤ 9) r (I 1001 8) I I2 (mirV (live I) (24 * (a1).toNatClampNeg + (a0).toNatClampNeg) a0 a1 a2 a3 a4 a5 a6) (live I2))) (BM D A) A) 0 0 A := by
  refine m_ofW (by decide) (Nat.le_of_ble_eq_true rfl) ?_
  intro p e s m below meth c ls args hC hE hM hA hS hl
  obtain ⟨hx, hb, hml, hown, hts, hr, hlocks, hin⟩ := hC
  have km1 : (-1 : Int32).toInt = -1 := by decide
  have k0 : (0 : Int32).toInt = 0 := by decide
  have k1 : (1 : Int32).toInt = 1 := by decide
  have k8 : (8 : Int32).toInt = 8 := by decide
  have k24 : (24 : Int32).toInt = 24 := by decide
  have kl0 : (0 : Int64).toInt = 0 := by decide
  have kl4 : (4 : Int64).toInt = 4 := by decide
  have kl7 : (7 : Int64).toInt = 7 := by decide
  have kl9 : (9 : Int64).toInt = 9 := by decide
  have kl1000 : (1000 : Int64).toInt = 1000 := by decide
  have hK : Kp [(1006, 1017)] [(1001, 8)] I I := Kp.rf
  have hl : lv_has ls 9 [(0, .ref (ad (1000))), (1, .int (a0)), (2, .int (a1)), (3, .int (a2)), (4, .int (a3)), (5, .int (a4)), (6, .int (a5)), (7, .int (a6))] := hl
  refine lv_aload_n hx hb dX10_mirror_0 rfl (lv_at hl 0 rfl) ?_
  refine m_getr (1000) 1 (1001) hx hb hts hown hE oc10 hM hJ.1 rfl (by decide) rfl (hJ.2 1 (by decide)).2 (by decide) tb_1178 dX10_mirror_1 ?_
  refine lv_bipush (v := (8)) hx hb dX10_mirror_4 (by decide) ?_
  refine m_iald (1001) hx hb hE hM (hJ.2 1 (by decide)).1 rfl (vp_in_iff.mpr (by decide)) dX10_mirror_6 ?_
  rw [show (8 : Int32).toNatClampNeg = 8 from rfl]
  have g1 := hI.get (1001) 8 (lo := 0) (hi := 24) rfl
  refine lv_istore (lv' := [(8, .int (I (1001) 8)), (0, .ref (ad (1000))), (1, .int (a0)), (2, .int (a1)), (3, .int (a2)), (4, .int (a3)), (5, .int (a4)), (6, .int (a5)), (7, .int (a6))]) hx hb dX10_mirror_7 hl (by decide) rfl (fun ls hl => ?_)
  refine lv_aload_n hx hb dX10_mirror_9 rfl (lv_at hl 1 rfl) ?_
  refine lv_iload_n hx hb dX10_mirror_10 rfl (lv_at hl 2 rfl) ?_
  refine lv_iload_n hx hb dX10_mirror_11 rfl (lv_at hl 3 rfl) ?_
  refine m_calli (m_runV (1000) (As := [.int (a0), .int (a1)]) (rest := []) hx hb hml hown hts hE hM hS hA ce_X10_isCell tb_1437 (V_X10_isCell l D A ad ns I L G (a0) (a1) hJ hI) rfl rfl ⟨Nat.le_of_ble_eq_true rfl, Nat.le_of_ble_eq_true rfl⟩ hJ.1 rfl rfl (by decide) rfl hl.1 rfl (Nat.le_of_ble_eq_true rfl) dX10_mirror_12 ⟨Nat.le_of_ble_eq_true rfl, Nat.le_of_ble_eq_true rfl⟩) hS (fun r2 u H locs hw hM hS => ?_)
  obtain ⟨rfl, xr2⟩ := hw
  have hM : Mem D A ad ns I L G H := hM
  have yr2 := bo01 xr2
  have g3 := hI.get 1001 1 (lo := 0) (hi := 24) rfl
  have g4 := hI.get 1001 2 (lo := 0) (hi := 24) rfl
  refine lv_if_eq (tgt := 104) hx hb dX10_mirror_15 (by decide) (fun c5 => ?_) (fun c5 => ?_)
  · have hc5 := c5
    have q5 := xr2.f hc5
    refine lv_iconst (v := (-1)) hx hb dX10_mirror_104 (by decide) ?_
    exact m_iret hx hb hr hlocks hM hS (Nat.le_of_ble_eq_true rfl) (Nat.le_of_ble_eq_true rfl) ⟨_, _, rfl, hI, hK, (Or.inr ⟨by omega, rfl, rfl⟩)⟩ dX10_mirror_105
  · have hc5 := c5
    have q5 := xr2.t hc5
    refine lv_iload hx hb dX10_mirror_18 (lv_at hl 0 rfl) ?_
    refine lv_bipush (v := (24)) hx hb dX10_mirror_20 (by decide) ?_
    refine lv_icmp_eq (tgt := 104) hx hb dX10_mirror_22 (by decide) (fun c6 => ?_) (fun c6 => ?_)
    · have hc6 := c6
      have q6 := q_eq hc6
      refine lv_iconst (v := (-1)) hx hb dX10_mirror_104 (by decide) ?_
      exact m_iret hx hb hr hlocks hM hS (Nat.le_of_ble_eq_true rfl) (Nat.le_of_ble_eq_true rfl) ⟨_, _, rfl, hI, hK, (Or.inr ⟨by omega, rfl, rfl⟩)⟩ dX10_mirror_105
    · have hc6 := c6
      have q6 := q_ne hc6
      refine lv_aload_n hx hb dX10_mirror_25 rfl (lv_at hl 1 rfl) ?_
      refine m_getr (1000) 6 (1006) hx hb hts hown hE oc10 hM hJ.1 rfl (by decide) rfl (hJ.2 6 (by decide)).2 (by decide) tb_1183 dX10_mirror_26 ?_
      refine lv_bipush (v := (24)) hx hb dX10_mirror_29 (by decide) ?_
      refine lv_iload_n hx hb dX10_mirror_31 rfl (lv_at hl 3 rfl) ?_
      refine lv_imul hx hb dX10_mirror_32 ?_
      refine lv_topi (fun v7 ev7 => ?_)
      have tv7 := a_mulL (c := 24) ev7 (by decide) (by omega) (by omega)
      refine lv_iload_n hx hb dX10_mirror_33 rfl (lv_at hl 2 rfl) ?_
      refine lv_iadd hx hb dX10_mirror_34 ?_
      refine lv_topi (fun v8 ev8 => ?_)
      have tv8 := a_add ev8 (by omega) (by omega)
      refine m_iald (1006) hx hb hE hM (hJ.2 6 (by decide)).1 rfl (vp_in_iff.mpr (by omega)) dX10_mirror_35 ?_
      have g9 := hI.get (1006) ((v8).toNatClampNeg) (lo := -1) (hi := 23) rfl
      have ecm : (v8).toNatClampNeg = 24 * (a1).toNatClampNeg + (a0).toNatClampNeg := by have z0 := tn (i := v8) (by omega); have z1 := tn (i := a0) (by omega); have z2 := tn (i := a1) (by omega); omega
      have hat : (I (1006) (v8).toNatClampNeg).toInt = (I 1006 (24 * (a1).toNatClampNeg + (a0).toNatClampNeg)).toInt := by rw [ecm]
      refine lv_iconst (v := (-1)) hx hb dX10_mirror_36 (by decide) ?_
      refine lv_icmp_ne (tgt := 104) hx hb dX10_mirror_37 (by decide) (fun c10 => ?_) (fun c10 => ?_)
      · have hc10 := c10
        have q10 := q_ne hc10
        refine lv_iconst (v := (-1)) hx hb dX10_mirror_104 (by decide) ?_
        exact m_iret hx hb hr hlocks hM hS (Nat.le_of_ble_eq_true rfl) (Nat.le_of_ble_eq_true rfl) ⟨_, _, rfl, hI, hK, (Or.inr ⟨by omega, rfl, rfl⟩)⟩ dX10_mirror_105
      · have hc10 := c10
        have q10 := q_eq hc10
        refine lv_iload_n hx hb dX10_mirror_40 rfl (lv_at hl 4 rfl) ?_
        refine lv_i2l hx hb dX10_mirror_41 rfl ?_
        refine lv_topl (fun v11 ev11 => ?_)
        have tv11 := q_i2l ev11
        refine lv_lconst (v := 0) hx hb dX10_mirror_42 (by decide) ?_
        refine lv_ldc2 (v := (7)) hx hb hown (hts _ tb_1451) dX10_mirror_43 ?_
        refine m_calli (m_runS (As := [.long (v11), .long (0), .long ((7 : Int64))]) (rest := []) hx hb hml hown hts hE hM hS hA ce_X10_in tb_1425 (V_X10_in l D A ad ns I L G (v11) (0) ((7 : Int64)) hI) rfl rfl ⟨Nat.le_of_ble_eq_true rfl, Nat.le_of_ble_eq_true rfl⟩  rfl hl.1 rfl (Nat.le_of_ble_eq_true rfl) dX10_mirror_46 ⟨Nat.le_of_ble_eq_true rfl, Nat.le_of_ble_eq_true rfl⟩) hS (fun r12 u H locs hw hM hS => ?_)
        obtain ⟨rfl, xr12⟩ := hw
        have hM : Mem D A ad ns I L G H := hM
        have yr12 := bo01 xr12
        refine lv_if_eq (tgt := 104) hx hb dX10_mirror_49 (by decide) (fun c13 => ?_) (fun c13 => ?_)
        · have hc13 := c13
          have q13 := xr12.f hc13
          refine lv_iconst (v := (-1)) hx hb dX10_mirror_104 (by decide) ?_
          exact m_iret hx hb hr hlocks hM hS (Nat.le_of_ble_eq_true rfl) (Nat.le_of_ble_eq_true rfl) ⟨_, _, rfl, hI, hK, (Or.inr ⟨by omega, rfl, rfl⟩)⟩ dX10_mirror_105
        · have hc13 := c13
          have q13 := xr12.t hc13
          refine lv_iload hx hb dX10_mirror_52 (lv_at hl 5 rfl) ?_
          refine lv_i2l hx hb dX10_mirror_54 rfl ?_
          refine lv_topl (fun v14 ev14 => ?_)
          have tv14 := q_i2l ev14
          refine lv_lconst (v := 0) hx hb dX10_mirror_55 (by decide) ?_
          refine lv_ldc2 (v := (1000)) hx hb hown (hts _ tb_1428) dX10_mirror_56 ?_
          refine m_calli (m_runS (As := [.long (v14), .long (0), .long ((1000 : Int64))]) (rest := []) hx hb hml hown hts hE hM hS hA ce_X10_in tb_1425 (V_X10_in l D A ad ns I L G (v14) (0) ((1000 : Int64)) hI) rfl rfl ⟨Nat.le_of_ble_eq_true rfl, Nat.le_of_ble_eq_true rfl⟩  rfl hl.1 rfl (Nat.le_of_ble_eq_true rfl) dX10_mirror_59 ⟨Nat.le_of_ble_eq_true rfl, Nat.le_of_ble_eq_true rfl⟩) hS (fun r15 u H locs hw hM hS => ?_)
          obtain ⟨rfl, xr15⟩ := hw
          have hM : Mem D A ad ns I L G H := hM
          have yr15 := bo01 xr15
          refine lv_if_eq (tgt := 104) hx hb dX10_mirror_62 (by decide) (fun c16 => ?_) (fun c16 => ?_)
          · have hc16 := c16
            have q16 := xr15.f hc16
            refine lv_iconst (v := (-1)) hx hb dX10_mirror_104 (by decide) ?_
            exact m_iret hx hb hr hlocks hM hS (Nat.le_of_ble_eq_true rfl) (Nat.le_of_ble_eq_true rfl) ⟨_, _, rfl, hI, hK, (Or.inr ⟨by omega, rfl, rfl⟩)⟩ dX10_mirror_105
          · have hc16 := c16
            have q16 := xr15.t hc16
            refine lv_iload hx hb dX10_mirror_65 (lv_at hl 6 rfl) ?_
            refine lv_i2l hx hb dX10_mirror_67 rfl ?_
            refine lv_topl (fun v17 ev17 => ?_)
            have tv17 := q_i2l ev17
            refine lv_lconst (v := 0) hx hb dX10_mirror_68 (by decide) ?_
            refine lv_ldc2 (v := (1000)) hx hb hown (hts _ tb_1428) dX10_mirror_69 ?_
            refine m_calli (m_runS (As := [.long (v17), .long (0), .long ((1000 : Int64))]) (rest := []) hx hb hml hown hts hE hM hS hA ce_X10_in tb_1425 (V_X10_in l D A ad ns I L G (v17) (0) ((1000 : Int64)) hI) rfl rfl ⟨Nat.le_of_ble_eq_true rfl, Nat.le_of_ble_eq_true rfl⟩  rfl hl.1 rfl (Nat.le_of_ble_eq_true rfl) dX10_mirror_72 ⟨Nat.le_of_ble_eq_true rfl, Nat.le_of_ble_eq_true rfl⟩) hS (fun r18 u H locs hw hM hS => ?_)
            obtain ⟨rfl, xr18⟩ := hw
            have hM : Mem D A ad ns I L G H := hM
            have yr18 := bo01 xr18
            refine lv_if_eq (tgt := 104) hx hb dX10_mirror_75 (by decide) (fun c19 => ?_) (fun c19 => ?_)
            · have hc19 := c19
              have q19 := xr18.f hc19
              refine lv_iconst (v := (-1)) hx hb dX10_mirror_104 (by decide) ?_
              exact m_iret hx hb hr hlocks hM hS (Nat.le_of_ble_eq_true rfl) (Nat.le_of_ble_eq_true rfl) ⟨_, _, rfl, hI, hK, (Or.inr ⟨by omega, rfl, rfl⟩)⟩ dX10_mirror_105
            · have hc19 := c19
              have q19 := xr18.t hc19
              refine lv_iload hx hb dX10_mirror_78 (lv_at hl 7 rfl) ?_
              refine lv_i2l hx hb dX10_mirror_80 rfl ?_
              refine lv_topl (fun v20 ev20 => ?_)
              have tv20 := q_i2l ev20
              refine lv_lconst (v := 0) hx hb dX10_mirror_81 (by decide) ?_
              refine lv_ldc2 (v := (4)) hx hb hown (hts _ tb_1423) dX10_mirror_82 ?_
              refine m_calli (m_runS (As := [.long (v20), .long (0), .long ((4 : Int64))]) (rest := []) hx hb hml hown hts hE hM hS hA ce_X10_in tb_1425 (V_X10_in l D A ad ns I L G (v20) (0) ((4 : Int64)) hI) rfl rfl ⟨Nat.le_of_ble_eq_true rfl, Nat.le_of_ble_eq_true rfl⟩  rfl hl.1 rfl (Nat.le_of_ble_eq_true rfl) dX10_mirror_85 ⟨Nat.le_of_ble_eq_true rfl, Nat.le_of_ble_eq_true rfl⟩) hS (fun r21 u H locs hw hM hS => ?_)
              obtain ⟨rfl, xr21⟩ := hw
              have hM : Mem D A ad ns I L G H := hM
              have yr21 := bo01 xr21
              refine lv_if_eq (tgt := 104) hx hb dX10_mirror_88 (by decide) (fun c22 => ?_) (fun c22 => ?_)
              · have hc22 := c22
                have q22 := xr21.f hc22
                refine lv_iconst (v := (-1)) hx hb dX10_mirror_104 (by decide) ?_
                exact m_iret hx hb hr hlocks hM hS (Nat.le_of_ble_eq_true rfl) (Nat.le_of_ble_eq_true rfl) ⟨_, _, rfl, hI, hK, (Or.inr ⟨by omega, rfl, rfl⟩)⟩ dX10_mirror_105
              · have hc22 := c22
                have q22 := xr21.t hc22
                refine lv_iload hx hb dX10_mirror_91 (lv_at hl 8 rfl) ?_
                refine lv_i2l hx hb dX10_mirror_93 rfl ?_
                refine lv_topl (fun v23 ev23 => ?_)
                have tv23 := q_i2l ev23
                refine lv_lconst (v := 0) hx hb dX10_mirror_94 (by decide) ?_
                refine lv_ldc2 (v := (9)) hx hb hown (hts _ tb_1457) dX10_mirror_95 ?_
                refine m_calli (m_runS (As := [.long (v23), .long (0), .long ((9 : Int64))]) (rest := []) hx hb hml hown hts hE hM hS hA ce_X10_in tb_1425 (V_X10_in l D A ad ns I L G (v23) (0) ((9 : Int64)) hI) rfl rfl ⟨Nat.le_of_ble_eq_true rfl, Nat.le_of_ble_eq_true rfl⟩  rfl hl.1 rfl (Nat.le_of_ble_eq_true rfl) dX10_mirror_98 ⟨Nat.le_of_ble_eq_true rfl, Nat.le_of_ble_eq_true rfl⟩) hS (fun r24 u H locs hw hM hS => ?_)
                obtain ⟨rfl, xr24⟩ := hw
                have hM : Mem D A ad ns I L G H := hM
                have yr24 := bo01 xr24
                refine lv_if_ne (tgt := 106) hx hb dX10_mirror_101 (by decide) (fun c25 => ?_) (fun c25 => ?_)
                · have hc25 := c25
                  have q25 := xr24.t hc25
                  refine lv_aload_n hx hb dX10_mirror_106 rfl (lv_at hl 1 rfl) ?_
                  refine m_getr (1000) 7 (1007) hx hb hts hown hE oc10 hM hJ.1 rfl (by decide) rfl (hJ.2 7 (by decide)).2 (by decide) tb_1184 dX10_mirror_107 ?_
                  refine lv_iload hx hb dX10_mirror_110 (lv_at hl 0 rfl) ?_
                  refine lv_iload_n hx hb dX10_mirror_112 rfl (lv_at hl 2 rfl) ?_
                  refine m_iast (1007) hx hb hE hM hS (hJ.2 7 (by decide)).1 rfl (vp_in_iff.mpr (by omega)) dX10_mirror_113 (fun H locs I26 eI26 hM hS => ?_)
                  subst eI26
                  have hI := hI.putF (n := 1007) (k := ((I (1001) 8).toNatClampNeg)) (v := a0) rfl
                  have hK := hK.put (n := 1007) (k := ((I (1001) 8).toNatClampNeg)) (v := a0) (by first | rfl | simp [inR])
                  refine lv_aload_n hx hb dX10_mirror_114 rfl (lv_at hl 1 rfl) ?_
                  refine m_getr (1000) 8 (1008) hx hb hts hown hE oc10 hM hJ.1 rfl (by decide) rfl (hJ.2 8 (by decide)).2 (by decide) tb_1185 dX10_mirror_115 ?_
                  refine lv_iload hx hb dX10_mirror_118 (lv_at hl 0 rfl) ?_
                  refine lv_iload_n hx hb dX10_mirror_120 rfl (lv_at hl 3 rfl) ?_
                  refine m_iast (1008) hx hb hE hM hS (hJ.2 8 (by decide)).1 rfl (vp_in_iff.mpr (by omega)) dX10_mirror_121 (fun H locs I27 eI27 hM hS => ?_)
                  subst eI27
                  have hI := hI.putF (n := 1008) (k := ((I (1001) 8).toNatClampNeg)) (v := a1) rfl
                  have hK := hK.put (n := 1008) (k := ((I (1001) 8).toNatClampNeg)) (v := a1) (by first | rfl | simp [inR])
                  refine lv_aload_n hx hb dX10_mirror_122 rfl (lv_at hl 1 rfl) ?_
                  refine m_getr (1000) 9 (1009) hx hb hts hown hE oc10 hM hJ.1 rfl (by decide) rfl (hJ.2 9 (by decide)).2 (by decide) tb_1186 dX10_mirror_123 ?_
                  refine lv_iload hx hb dX10_mirror_126 (lv_at hl 0 rfl) ?_
                  refine lv_iload_n hx hb dX10_mirror_128 rfl (lv_at hl 4 rfl) ?_
                  refine m_iast (1009) hx hb hE hM hS (hJ.2 9 (by decide)).1 rfl (vp_in_iff.mpr (by omega)) dX10_mirror_129 (fun H locs I28 eI28 hM hS => ?_)
                  subst eI28
                  have hI := hI.putF (n := 1009) (k := ((I (1001) 8).toNatClampNeg)) (v := a2) rfl
                  have hK := hK.put (n := 1009) (k := ((I (1001) 8).toNatClampNeg)) (v := a2) (by first | rfl | simp [inR])
                  refine lv_aload_n hx hb dX10_mirror_130 rfl (lv_at hl 1 rfl) ?_
                  refine m_getr (1000) 10 (1010) hx hb hts hown hE oc10 hM hJ.1 rfl (by decide) rfl (hJ.2 10 (by decide)).2 (by decide) tb_1187 dX10_mirror_131 ?_
                  refine lv_iload hx hb dX10_mirror_134 (lv_at hl 0 rfl) ?_
                  refine lv_iload hx hb dX10_mirror_136 (lv_at hl 5 rfl) ?_
                  refine m_iast (1010) hx hb hE hM hS (hJ.2 10 (by decide)).1 rfl (vp_in_iff.mpr (by omega)) dX10_mirror_138 (fun H locs I29 eI29 hM hS => ?_)
                  subst eI29
                  have hI := hI.putF (n := 1010) (k := ((I (1001) 8).toNatClampNeg)) (v := a3) rfl
                  have hK := hK.put (n := 1010) (k := ((I (1001) 8).toNatClampNeg)) (v := a3) (by first | rfl | simp [inR])
                  refine lv_aload_n hx hb dX10_mirror_139 rfl (lv_at hl 1 rfl) ?_
                  refine m_getr (1000) 11 (1011) hx hb hts hown hE oc10 hM hJ.1 rfl (by decide) rfl (hJ.2 11 (by decide)).2 (by decide) tb_1188 dX10_mirror_140 ?_
                  refine lv_iload hx hb dX10_mirror_143 (lv_at hl 0 rfl) ?_
                  refine lv_iload hx hb dX10_mirror_145 (lv_at hl 6 rfl) ?_
                  refine m_iast (1011) hx hb hE hM hS (hJ.2 11 (by decide)).1 rfl (vp_in_iff.mpr (by omega)) dX10_mirror_147 (fun H locs I30 eI30 hM hS => ?_)
                  subst eI30
                  have hI := hI.putF (n := 1011) (k := ((I (1001) 8).toNatClampNeg)) (v := a4) rfl
                  have hK := hK.put (n := 1011) (k := ((I (1001) 8).toNatClampNeg)) (v := a4) (by first | rfl | simp [inR])
                  refine lv_aload_n hx hb dX10_mirror_148 rfl (lv_at hl 1 rfl) ?_
                  refine m_getr (1000) 12 (1012) hx hb hts hown hE oc10 hM hJ.1 rfl (by decide) rfl (hJ.2 12 (by decide)).2 (by decide) tb_1189 dX10_mirror_149 ?_
                  refine lv_iload hx hb dX10_mirror_152 (lv_at hl 0 rfl) ?_
                  refine lv_iload hx hb dX10_mirror_154 (lv_at hl 7 rfl) ?_
                  refine m_iast (1012) hx hb hE hM hS (hJ.2 12 (by decide)).1 rfl (vp_in_iff.mpr (by omega)) dX10_mirror_156 (fun H locs I31 eI31 hM hS => ?_)
                  subst eI31
                  have hI := hI.putF (n := 1012) (k := ((I (1001) 8).toNatClampNeg)) (v := a5) rfl
                  have hK := hK.put (n := 1012) (k := ((I (1001) 8).toNatClampNeg)) (v := a5) (by first | rfl | simp [inR])
                  refine lv_aload_n hx hb dX10_mirror_157 rfl (lv_at hl 1 rfl) ?_
                  refine m_getr (1000) 13 (1013) hx hb hts hown hE oc10 hM hJ.1 rfl (by decide) rfl (hJ.2 13 (by decide)).2 (by decide) tb_1190 dX10_mirror_158 ?_
                  refine lv_iload hx hb dX10_mirror_161 (lv_at hl 0 rfl) ?_
                  refine lv_iload hx hb dX10_mirror_163 (lv_at hl 8 rfl) ?_
                  refine m_iast (1013) hx hb hE hM hS (hJ.2 13 (by decide)).1 rfl (vp_in_iff.mpr (by omega)) dX10_mirror_165 (fun H locs I32 eI32 hM hS => ?_)
                  subst eI32
                  have hI := hI.putF (n := 1013) (k := ((I (1001) 8).toNatClampNeg)) (v := a6) rfl
                  have hK := hK.put (n := 1013) (k := ((I (1001) 8).toNatClampNeg)) (v := a6) (by first | rfl | simp [inR])
                  refine lv_aload_n hx hb dX10_mirror_166 rfl (lv_at hl 1 rfl) ?_
                  refine m_getr (1000) 14 (1014) hx hb hts hown hE oc10 hM hJ.1 rfl (by decide) rfl (hJ.2 14 (by decide)).2 (by decide) tb_1191 dX10_mirror_167 ?_
                  refine lv_iload hx hb dX10_mirror_170 (lv_at hl 0 rfl) ?_
                  refine lv_iconst (v := (0)) hx hb dX10_mirror_172 (by decide) ?_
                  refine m_iast (1014) hx hb hE hM hS (hJ.2 14 (by decide)).1 rfl (vp_in_iff.mpr (by omega)) dX10_mirror_173 (fun H locs I33 eI33 hM hS => ?_)
                  subst eI33
                  have hI := hI.putF (n := 1014) (k := ((I (1001) 8).toNatClampNeg)) (v := 0) rfl
                  have hK := hK.put (n := 1014) (k := ((I (1001) 8).toNatClampNeg)) (v := 0) (by first | rfl | simp [inR])
                  refine lv_aload_n hx hb dX10_mirror_174 rfl (lv_at hl 1 rfl) ?_
                  refine m_getr (1000) 15 (1015) hx hb hts hown hE oc10 hM hJ.1 rfl (by decide) rfl (hJ.2 15 (by decide)).2 (by decide) tb_1192 dX10_mirror_175 ?_
                  refine lv_iload hx hb dX10_mirror_178 (lv_at hl 0 rfl) ?_
                  refine lv_iconst (v := (0)) hx hb dX10_mirror_180 (by decide) ?_
                  refine m_iast (1015) hx hb hE hM hS (hJ.2 15 (by decide)).1 rfl (vp_in_iff.mpr (by omega)) dX10_mirror_181 (fun H locs I34 eI34 hM hS => ?_)
                  subst eI34
                  have hI := hI.putF (n := 1015) (k := ((I (1001) 8).toNatClampNeg)) (v := 0) rfl
                  have hK := hK.put (n := 1015) (k := ((I (1001) 8).toNatClampNeg)) (v := 0) (by first | rfl | simp [inR])
                  refine lv_aload_n hx hb dX10_mirror_182 rfl (lv_at hl 1 rfl) ?_
                  refine m_getr (1000) 16 (1016) hx hb hts hown hE oc10 hM hJ.1 rfl (by decide) rfl (hJ.2 16 (by decide)).2 (by decide) tb_1193 dX10_mirror_183 ?_
                  refine lv_iload hx hb dX10_mirror_186 (lv_at hl 0 rfl) ?_
                  refine lv_iconst (v := (-1)) hx hb dX10_mirror_188 (by decide) ?_
                  refine m_iast (1016) hx hb hE hM hS (hJ.2 16 (by decide)).1 rfl (vp_in_iff.mpr (by omega)) dX10_mirror_189 (fun H locs I35 eI35 hM hS => ?_)
                  subst eI35
                  have hI := hI.putF (n := 1016) (k := ((I (1001) 8).toNatClampNeg)) (v := (-1 : Int32)) rfl
                  have hK := hK.put (n := 1016) (k := ((I (1001) 8).toNatClampNeg)) (v := (-1 : Int32)) (by first | rfl | simp [inR])
                  refine lv_aload_n hx hb dX10_mirror_190 rfl (lv_at hl 1 rfl) ?_
                  refine m_getr (1000) 6 (1006) hx hb hts hown hE oc10 hM hJ.1 rfl (by decide) rfl (hJ.2 6 (by decide)).2 (by decide) tb_1183 dX10_mirror_191 ?_
                  refine lv_bipush (v := (24)) hx hb dX10_mirror_194 (by decide) ?_
                  refine lv_iload_n hx hb dX10_mirror_196 rfl (lv_at hl 3 rfl) ?_
                  refine lv_imul hx hb dX10_mirror_197 ?_
                  refine lv_topi (fun v36 ev36 => ?_)
                  have tv36 := a_mulL (c := 24) ev36 (by decide) (by omega) (by omega)
                  refine lv_iload_n hx hb dX10_mirror_198 rfl (lv_at hl 2 rfl) ?_
                  refine lv_iadd hx hb dX10_mirror_199 ?_
                  refine lv_topi (fun v37 ev37 => ?_)
                  have tv37 := a_add ev37 (by omega) (by omega)
                  refine lv_iload hx hb dX10_mirror_200 (lv_at hl 0 rfl) ?_
                  refine m_iast (1006) hx hb hE hM hS (hJ.2 6 (by decide)).1 rfl (vp_in_iff.mpr (by omega)) dX10_mirror_202 (fun H locs I38 eI38 hM hS => ?_)
                  subst eI38
                  have hI := hI.put (n := 1006) (k := ((v37).toNatClampNeg)) (v := I (1001) 8) (lo := -1) (hi := 23) rfl (by first | omega | decide)
                  have hK := hK.put (n := 1006) (k := ((v37).toNatClampNeg)) (v := I (1001) 8) (by first | rfl | simp [inR])
                  refine lv_aload_n hx hb dX10_mirror_203 rfl (lv_at hl 1 rfl) ?_
                  refine m_getr (1000) 1 (1001) hx hb hts hown hE oc10 hM hJ.1 rfl (by decide) rfl (hJ.2 1 (by decide)).2 (by decide) tb_1178 dX10_mirror_204 ?_
                  refine lv_bipush (v := (8)) hx hb dX10_mirror_207 (by decide) ?_
                  refine lv_dup2_11 hx hb dX10_mirror_209 rfl rfl ?_
                  refine m_iald (1001) hx hb hE hM (hJ.2 1 (by decide)).1 rfl (vp_in_iff.mpr (by decide)) dX10_mirror_210 ?_
                  rw [show (8 : Int32).toNatClampNeg = 8 from rfl]
                  have z39 : (u2 (u2 (u2 (u2 (u2 (u2 (u2 (u2 (u2 (u2 (u2 I (1007) ((I (1001) 8).toNatClampNeg) (a0)) (1008) ((I (1001) 8).toNatClampNeg) (a1)) (1009) ((I (1001) 8).toNatClampNeg) (a2)) (1010) ((I (1001) 8).toNatClampNeg) (a3)) (1011) ((I (1001) 8).toNatClampNeg) (a4)) (1012) ((I (1001) 8).toNatClampNeg) (a5)) (1013) ((I (1001) 8).toNatClampNeg) (a6)) (1014) ((I (1001) 8).toNatClampNeg) (0)) (1015) ((I (1001) 8).toNatClampNeg) (0)) (1016) ((I (1001) 8).toNatClampNeg) ((-1 : Int32))) (1006) ((v37).toNatClampNeg) (I (1001) 8)) (1001) 8 = I (1001) 8 := (show (u2 (u2 (u2 (u2 (u2 (u2 (u2 (u2 (u2 (u2 (u2 I (1007) ((I (1001) 8).toNatClampNeg) (a0)) (1008) ((I (1001) 8).toNatClampNeg) (a1)) (1009) ((I (1001) 8).toNatClampNeg) (a2)) (1010) ((I (1001) 8).toNatClampNeg) (a3)) (1011) ((I (1001) 8).toNatClampNeg) (a4)) (1012) ((I (1001) 8).toNatClampNeg) (a5)) (1013) ((I (1001) 8).toNatClampNeg) (a6)) (1014) ((I (1001) 8).toNatClampNeg) (0)) (1015) ((I (1001) 8).toNatClampNeg) (0)) (1016) ((I (1001) 8).toNatClampNeg) ((-1 : Int32))) (1006) ((v37).toNatClampNeg) (I (1001) 8)) (1001) 8 = I (1001) 8 from by simp [u2_v])
                  rw [z39]
                  refine lv_iconst (v := (1)) hx hb dX10_mirror_211 (by decide) ?_
                  refine lv_iadd hx hb dX10_mirror_212 ?_
                  refine lv_topi (fun v40 ev40 => ?_)
                  have tv40 := a_add ev40 (by omega) (by omega)
                  refine m_iast (1001) hx hb hE hM hS (hJ.2 1 (by decide)).1 rfl (vp_in_iff.mpr (by decide)) dX10_mirror_213 (fun H locs I41 eI41 hM hS => ?_)
                  rw [show (8 : Int32).toNatClampNeg = 8 from rfl] at eI41
                  subst eI41
                  have hI := hI.put (n := 1001) (k := 8) (v := v40) (lo := 0) (hi := 24) rfl (by first | omega | decide)
                  have hK := hK.put (n := 1001) (k := 8) (v := v40) (by first | rfl | simp [inR])
                  refine lv_iload hx hb dX10_mirror_214 (lv_at hl 0 rfl) ?_
                  have ecl : (v37).toNatClampNeg = 24 * (a1).toNatClampNeg + (a0).toNatClampNeg := by have z0 := tn (i := v37) (by omega); have z1 := tn (i := a0) (by omega); have z2 := tn (i := a1) (by omega); omega
                  exact m_iret hx hb hr hlocks hM hS (Nat.le_of_ble_eq_true rfl) (Nat.le_of_ble_eq_true rfl) ⟨_, _, rfl, hI, hK, (Or.inl ⟨by omega, rfl, by rw [ecl]; exact EqV.of (live_st (n := 1) (live_st (n := 6) (live_st (n := 16) (live_st (n := 15) (live_st (n := 14) (live_st (n := 13) (live_st (n := 12) (live_st (n := 11) (live_st (n := 10) (live_st (n := 9) (live_st (n := 8) (live_st (n := 7) EqV.rf)))))))))))) (mirV_sm (V := live I) ev40 rfl)⟩)⟩ dX10_mirror_216
                · have hc25 := c25
                  have q25 := xr24.f hc25
                  refine lv_iconst (v := (-1)) hx hb dX10_mirror_104 (by decide) ?_
                  exact m_iret hx hb hr hlocks hM hS (Nat.le_of_ble_eq_true rfl) (Nat.le_of_ble_eq_true rfl) ⟨_, _, rfl, hI, hK, (Or.inr ⟨by omega, rfl, rfl⟩)⟩ dX10_mirror_105
set_option maxHeartbeats 4000000 in
set_option maxRecDepth 20000 in
theorem V_X10_yard_t (l : Launch) (D : va_G) (A : Nat → Prop) (ad : Nat → Nat) (ns : List Nat) (I : MI) (L : ML) (G : MG) (a0 : Int32) (a1 : Int32) (a2 : Int32) (a3 : Int32) (a4 : Int32) (a5 : Int32) (hJ : SGM ns G) (hI : INV I) : Met l yX10_yard (wd yX10_yard cX10_yard 8 (some .int)) ({ frames := 3, cells := 0, slots := 0, locals := 71 }) (va_Pc [.ref (ad (1000)), .int a0, .int a1, .int a2, .int a3, .int a4, .int a5] (PM D A ad ns I L G)) (va_Qi (fun r u => ∃ I2 L2, u = (ad, ns, I2, L2, G) ∧ INV I2 ∧ Kp [(1017, 1024)] [(1001, 9)] I I2 ∧ (ADT (((I 1001 0).toInt = 1 ∧ (0 ≤ a0.toInt ∧ a0.toInt < (I 1001 1).toInt ∧ 0 ≤ a1.toInt ∧ a1.toInt < (I 1001 2).toInt) ∧ (0 ≤ a2.toInt ∧ a2.toInt < (I 1001 1).toInt ∧ 0 ≤ a3.toInt ∧ a3.toInt < (I 1001 2).toInt) ∧ a0.toInt ≤ a2.toInt ∧ a1.toInt ≤ a3.toInt) ∧ (I 1001 9).toInt < 8 ∧ (1 ≤ a4.toInt ∧ a4.toInt ≤ 1000) ∧ 0 ≤ a5.toInt ∧ a5.toInt ≤ 9999999) r (I 1001 9) I I2 (yrdV (live I) a0 a1 a2 a3 a4 a5) (live I2))) (BM D A) A) 0 0 A := by
  refine m_ofW (by decide) (Nat.le_of_ble_eq_true rfl) ?_
  intro p e s m below meth c ls args hC hE hM hA hS hl
  obtain ⟨hx, hb, hml, hown, hts, hr, hlocks, hin⟩ := hC
  have km1 : (-1 : Int32).toInt = -1 := by decide
  have k0 : (0 : Int32).toInt = 0 := by decide
  have k1 : (1 : Int32).toInt = 1 := by decide
  have k8 : (8 : Int32).toInt = 8 := by decide
  have k9 : (9 : Int32).toInt = 9 := by decide
  have kl0 : (0 : Int64).toInt = 0 := by decide
  have kl1 : (1 : Int64).toInt = 1 := by decide
  have kl1000 : (1000 : Int64).toInt = 1000 := by decide
  have kl9999999 : (9999999 : Int64).toInt = 9999999 := by decide
  have hK : Kp [(1017, 1024)] [(1001, 9)] I I := Kp.rf
  have hl : lv_has ls 8 [(0, .ref (ad (1000))), (1, .int (a0)), (2, .int (a1)), (3, .int (a2)), (4, .int (a3)), (5, .int (a4)), (6, .int (a5))] := hl
  refine lv_aload_n hx hb dX10_yard_0 rfl (lv_at hl 0 rfl) ?_
  refine m_getr (1000) 1 (1001) hx hb hts hown hE oc10 hM hJ.1 rfl (by decide) rfl (hJ.2 1 (by decide)).2 (by decide) tb_1178 dX10_yard_1 ?_
  refine lv_bipush (v := (9)) hx hb dX10_yard_4 (by decide) ?_
  refine m_iald (1001) hx hb hE hM (hJ.2 1 (by decide)).1 rfl (vp_in_iff.mpr (by decide)) dX10_yard_6 ?_
  rw [show (9 : Int32).toNatClampNeg = 9 from rfl]
  have g1 := hI.get (1001) 9 (lo := 0) (hi := 8) rfl
  refine lv_istore (lv' := [(7, .int (I (1001) 9)), (0, .ref (ad (1000))), (1, .int (a0)), (2, .int (a1)), (3, .int (a2)), (4, .int (a3)), (5, .int (a4)), (6, .int (a5))]) hx hb dX10_yard_7 hl (by decide) rfl (fun ls hl => ?_)
  refine lv_aload_n hx hb dX10_yard_9 rfl (lv_at hl 1 rfl) ?_
  refine lv_iload_n hx hb dX10_yard_10 rfl (lv_at hl 2 rfl) ?_
  refine lv_iload_n hx hb dX10_yard_11 rfl (lv_at hl 3 rfl) ?_
  refine lv_iload_n hx hb dX10_yard_12 rfl (lv_at hl 4 rfl) ?_
  refine lv_iload hx hb dX10_yard_13 (lv_at hl 5 rfl) ?_
  refine m_calli (m_runV (1000) (As := [.int (a0), .int (a1), .int (a2), .int (a3)]) (rest := []) hx hb hml hown hts hE hM hS hA ce_X10_isArea tb_1433 (V_X10_isArea l D A ad ns I L G (a0) (a1) (a2) (a3) hJ hI) rfl rfl ⟨Nat.le_of_ble_eq_true rfl, Nat.le_of_ble_eq_true rfl⟩ hJ.1 rfl rfl (by decide) rfl hl.1 rfl (Nat.le_of_ble_eq_true rfl) dX10_yard_15 ⟨Nat.le_of_ble_eq_true rfl, Nat.le_of_ble_eq_true rfl⟩) hS (fun r2 u H locs hw hM hS => ?_)
  obtain ⟨rfl, xr2⟩ := hw
  have hM : Mem D A ad ns I L G H := hM
  have yr2 := bo01 xr2
  have g3 := hI.get 1001 1 (lo := 0) (hi := 24) rfl
  have g4 := hI.get 1001 2 (lo := 0) (hi := 24) rfl
  refine lv_if_eq (tgt := 54) hx hb dX10_yard_18 (by decide) (fun c5 => ?_) (fun c5 => ?_)
  · have hc5 := c5
    have q5 := xr2.f hc5
    refine lv_iconst (v := (-1)) hx hb dX10_yard_54 (by decide) ?_
    exact m_iret hx hb hr hlocks hM hS (Nat.le_of_ble_eq_true rfl) (Nat.le_of_ble_eq_true rfl) ⟨_, _, rfl, hI, hK, (Or.inr ⟨by omega, rfl, rfl⟩)⟩ dX10_yard_55
  · have hc5 := c5
    have q5 := xr2.t hc5
    refine lv_iload hx hb dX10_yard_21 (lv_at hl 0 rfl) ?_
    refine lv_bipush (v := (8)) hx hb dX10_yard_23 (by decide) ?_
    refine lv_icmp_eq (tgt := 54) hx hb dX10_yard_25 (by decide) (fun c6 => ?_) (fun c6 => ?_)
    · have hc6 := c6
      have q6 := q_eq hc6
      refine lv_iconst (v := (-1)) hx hb dX10_yard_54 (by decide) ?_
      exact m_iret hx hb hr hlocks hM hS (Nat.le_of_ble_eq_true rfl) (Nat.le_of_ble_eq_true rfl) ⟨_, _, rfl, hI, hK, (Or.inr ⟨by omega, rfl, rfl⟩)⟩ dX10_yard_55
    · have hc6 := c6
      have q6 := q_ne hc6
      refine lv_iload hx hb dX10_yard_28 (lv_at hl 6 rfl) ?_
      refine lv_i2l hx hb dX10_yard_30 rfl ?_
      refine lv_topl (fun v7 ev7 => ?_)
      have tv7 := q_i2l ev7
      refine lv_lconst (v := 1) hx hb dX10_yard_31 (by decide) ?_
      refine lv_ldc2 (v := (1000)) hx hb hown (hts _ tb_1428) dX10_yard_32 ?_
      refine m_calli (m_runS (As := [.long (v7), .long (1), .long ((1000 : Int64))]) (rest := []) hx hb hml hown hts hE hM hS hA ce_X10_in tb_1425 (V_X10_in l D A ad ns I L G (v7) (1) ((1000 : Int64)) hI) rfl rfl ⟨Nat.le_of_ble_eq_true rfl, Nat.le_of_ble_eq_true rfl⟩  rfl hl.1 rfl (Nat.le_of_ble_eq_true rfl) dX10_yard_35 ⟨Nat.le_of_ble_eq_true rfl, Nat.le_of_ble_eq_true rfl⟩) hS (fun r8 u H locs hw hM hS => ?_)
      obtain ⟨rfl, xr8⟩ := hw
      have hM : Mem D A ad ns I L G H := hM
      have yr8 := bo01 xr8
      refine lv_if_eq (tgt := 54) hx hb dX10_yard_38 (by decide) (fun c9 => ?_) (fun c9 => ?_)
      · have hc9 := c9
        have q9 := xr8.f hc9
        refine lv_iconst (v := (-1)) hx hb dX10_yard_54 (by decide) ?_
        exact m_iret hx hb hr hlocks hM hS (Nat.le_of_ble_eq_true rfl) (Nat.le_of_ble_eq_true rfl) ⟨_, _, rfl, hI, hK, (Or.inr ⟨by omega, rfl, rfl⟩)⟩ dX10_yard_55
      · have hc9 := c9
        have q9 := xr8.t hc9
        refine lv_iload hx hb dX10_yard_41 (lv_at hl 7 rfl) ?_
        refine lv_i2l hx hb dX10_yard_43 rfl ?_
        refine lv_topl (fun v10 ev10 => ?_)
        have tv10 := q_i2l ev10
        refine lv_lconst (v := 0) hx hb dX10_yard_44 (by decide) ?_
        refine lv_ldc2 (v := (9999999)) hx hb hown (hts _ tb_1472) dX10_yard_45 ?_
        refine m_calli (m_runS (As := [.long (v10), .long (0), .long ((9999999 : Int64))]) (rest := []) hx hb hml hown hts hE hM hS hA ce_X10_in tb_1425 (V_X10_in l D A ad ns I L G (v10) (0) ((9999999 : Int64)) hI) rfl rfl ⟨Nat.le_of_ble_eq_true rfl, Nat.le_of_ble_eq_true rfl⟩  rfl hl.1 rfl (Nat.le_of_ble_eq_true rfl) dX10_yard_48 ⟨Nat.le_of_ble_eq_true rfl, Nat.le_of_ble_eq_true rfl⟩) hS (fun r11 u H locs hw hM hS => ?_)
        obtain ⟨rfl, xr11⟩ := hw
        have hM : Mem D A ad ns I L G H := hM
        have yr11 := bo01 xr11
        refine lv_if_ne (tgt := 56) hx hb dX10_yard_51 (by decide) (fun c12 => ?_) (fun c12 => ?_)
        · have hc12 := c12
          have q12 := xr11.t hc12
          refine lv_aload_n hx hb dX10_yard_56 rfl (lv_at hl 1 rfl) ?_
          refine m_getr (1000) 17 (1017) hx hb hts hown hE oc10 hM hJ.1 rfl (by decide) rfl (hJ.2 17 (by decide)).2 (by decide) tb_1194 dX10_yard_57 ?_
          refine lv_iload hx hb dX10_yard_60 (lv_at hl 0 rfl) ?_
          refine lv_iload_n hx hb dX10_yard_62 rfl (lv_at hl 2 rfl) ?_
          refine m_iast (1017) hx hb hE hM hS (hJ.2 17 (by decide)).1 rfl (vp_in_iff.mpr (by omega)) dX10_yard_63 (fun H locs I13 eI13 hM hS => ?_)
          subst eI13
          have hI := hI.putF (n := 1017) (k := ((I (1001) 9).toNatClampNeg)) (v := a0) rfl
          have hK := hK.put (n := 1017) (k := ((I (1001) 9).toNatClampNeg)) (v := a0) (by first | rfl | simp [inR])
          refine lv_aload_n hx hb dX10_yard_64 rfl (lv_at hl 1 rfl) ?_
          refine m_getr (1000) 18 (1018) hx hb hts hown hE oc10 hM hJ.1 rfl (by decide) rfl (hJ.2 18 (by decide)).2 (by decide) tb_1195 dX10_yard_65 ?_
          refine lv_iload hx hb dX10_yard_68 (lv_at hl 0 rfl) ?_
          refine lv_iload_n hx hb dX10_yard_70 rfl (lv_at hl 3 rfl) ?_
          refine m_iast (1018) hx hb hE hM hS (hJ.2 18 (by decide)).1 rfl (vp_in_iff.mpr (by omega)) dX10_yard_71 (fun H locs I14 eI14 hM hS => ?_)
          subst eI14
          have hI := hI.putF (n := 1018) (k := ((I (1001) 9).toNatClampNeg)) (v := a1) rfl
          have hK := hK.put (n := 1018) (k := ((I (1001) 9).toNatClampNeg)) (v := a1) (by first | rfl | simp [inR])
          refine lv_aload_n hx hb dX10_yard_72 rfl (lv_at hl 1 rfl) ?_
          refine m_getr (1000) 19 (1019) hx hb hts hown hE oc10 hM hJ.1 rfl (by decide) rfl (hJ.2 19 (by decide)).2 (by decide) tb_1196 dX10_yard_73 ?_
          refine lv_iload hx hb dX10_yard_76 (lv_at hl 0 rfl) ?_
          refine lv_iload_n hx hb dX10_yard_78 rfl (lv_at hl 4 rfl) ?_
          refine m_iast (1019) hx hb hE hM hS (hJ.2 19 (by decide)).1 rfl (vp_in_iff.mpr (by omega)) dX10_yard_79 (fun H locs I15 eI15 hM hS => ?_)
          subst eI15
          have hI := hI.putF (n := 1019) (k := ((I (1001) 9).toNatClampNeg)) (v := a2) rfl
          have hK := hK.put (n := 1019) (k := ((I (1001) 9).toNatClampNeg)) (v := a2) (by first | rfl | simp [inR])
          refine lv_aload_n hx hb dX10_yard_80 rfl (lv_at hl 1 rfl) ?_
          refine m_getr (1000) 20 (1020) hx hb hts hown hE oc10 hM hJ.1 rfl (by decide) rfl (hJ.2 20 (by decide)).2 (by decide) tb_1197 dX10_yard_81 ?_
          refine lv_iload hx hb dX10_yard_84 (lv_at hl 0 rfl) ?_
          refine lv_iload hx hb dX10_yard_86 (lv_at hl 5 rfl) ?_
          refine m_iast (1020) hx hb hE hM hS (hJ.2 20 (by decide)).1 rfl (vp_in_iff.mpr (by omega)) dX10_yard_88 (fun H locs I16 eI16 hM hS => ?_)
          subst eI16
          have hI := hI.putF (n := 1020) (k := ((I (1001) 9).toNatClampNeg)) (v := a3) rfl
          have hK := hK.put (n := 1020) (k := ((I (1001) 9).toNatClampNeg)) (v := a3) (by first | rfl | simp [inR])
          refine lv_aload_n hx hb dX10_yard_89 rfl (lv_at hl 1 rfl) ?_
          refine m_getr (1000) 21 (1021) hx hb hts hown hE oc10 hM hJ.1 rfl (by decide) rfl (hJ.2 21 (by decide)).2 (by decide) tb_1198 dX10_yard_90 ?_
          refine lv_iload hx hb dX10_yard_93 (lv_at hl 0 rfl) ?_
          refine lv_iload hx hb dX10_yard_95 (lv_at hl 6 rfl) ?_
          refine m_iast (1021) hx hb hE hM hS (hJ.2 21 (by decide)).1 rfl (vp_in_iff.mpr (by omega)) dX10_yard_97 (fun H locs I17 eI17 hM hS => ?_)
          subst eI17
          have hI := hI.putF (n := 1021) (k := ((I (1001) 9).toNatClampNeg)) (v := a4) rfl
          have hK := hK.put (n := 1021) (k := ((I (1001) 9).toNatClampNeg)) (v := a4) (by first | rfl | simp [inR])
          refine lv_aload_n hx hb dX10_yard_98 rfl (lv_at hl 1 rfl) ?_
          refine m_getr (1000) 22 (1022) hx hb hts hown hE oc10 hM hJ.1 rfl (by decide) rfl (hJ.2 22 (by decide)).2 (by decide) tb_1199 dX10_yard_99 ?_
          refine lv_iload hx hb dX10_yard_102 (lv_at hl 0 rfl) ?_
          refine lv_iload hx hb dX10_yard_104 (lv_at hl 7 rfl) ?_
          refine m_iast (1022) hx hb hE hM hS (hJ.2 22 (by decide)).1 rfl (vp_in_iff.mpr (by omega)) dX10_yard_106 (fun H locs I18 eI18 hM hS => ?_)
          subst eI18
          have hI := hI.putF (n := 1022) (k := ((I (1001) 9).toNatClampNeg)) (v := a5) rfl
          have hK := hK.put (n := 1022) (k := ((I (1001) 9).toNatClampNeg)) (v := a5) (by first | rfl | simp [inR])
          refine lv_aload_n hx hb dX10_yard_107 rfl (lv_at hl 1 rfl) ?_
          refine m_getr (1000) 23 (1023) hx hb hts hown hE oc10 hM hJ.1 rfl (by decide) rfl (hJ.2 23 (by decide)).2 (by decide) tb_1200 dX10_yard_108 ?_
          refine lv_iload hx hb dX10_yard_111 (lv_at hl 0 rfl) ?_
          refine lv_iconst (v := (0)) hx hb dX10_yard_113 (by decide) ?_
          refine m_iast (1023) hx hb hE hM hS (hJ.2 23 (by decide)).1 rfl (vp_in_iff.mpr (by omega)) dX10_yard_114 (fun H locs I19 eI19 hM hS => ?_)
          subst eI19
          have hI := hI.putF (n := 1023) (k := ((I (1001) 9).toNatClampNeg)) (v := 0) rfl
          have hK := hK.put (n := 1023) (k := ((I (1001) 9).toNatClampNeg)) (v := 0) (by first | rfl | simp [inR])
          refine lv_aload_n hx hb dX10_yard_115 rfl (lv_at hl 1 rfl) ?_
          refine m_getr (1000) 1 (1001) hx hb hts hown hE oc10 hM hJ.1 rfl (by decide) rfl (hJ.2 1 (by decide)).2 (by decide) tb_1178 dX10_yard_116 ?_
          refine lv_bipush (v := (9)) hx hb dX10_yard_119 (by decide) ?_
          refine lv_dup2_11 hx hb dX10_yard_121 rfl rfl ?_
          refine m_iald (1001) hx hb hE hM (hJ.2 1 (by decide)).1 rfl (vp_in_iff.mpr (by decide)) dX10_yard_122 ?_
          rw [show (9 : Int32).toNatClampNeg = 9 from rfl]
          have z20 : (u2 (u2 (u2 (u2 (u2 (u2 (u2 I (1017) ((I (1001) 9).toNatClampNeg) (a0)) (1018) ((I (1001) 9).toNatClampNeg) (a1)) (1019) ((I (1001) 9).toNatClampNeg) (a2)) (1020) ((I (1001) 9).toNatClampNeg) (a3)) (1021) ((I (1001) 9).toNatClampNeg) (a4)) (1022) ((I (1001) 9).toNatClampNeg) (a5)) (1023) ((I (1001) 9).toNatClampNeg) (0)) (1001) 9 = I (1001) 9 := (show (u2 (u2 (u2 (u2 (u2 (u2 (u2 I (1017) ((I (1001) 9).toNatClampNeg) (a0)) (1018) ((I (1001) 9).toNatClampNeg) (a1)) (1019) ((I (1001) 9).toNatClampNeg) (a2)) (1020) ((I (1001) 9).toNatClampNeg) (a3)) (1021) ((I (1001) 9).toNatClampNeg) (a4)) (1022) ((I (1001) 9).toNatClampNeg) (a5)) (1023) ((I (1001) 9).toNatClampNeg) (0)) (1001) 9 = I (1001) 9 from by simp [u2_v])
          rw [z20]
          refine lv_iconst (v := (1)) hx hb dX10_yard_123 (by decide) ?_
          refine lv_iadd hx hb dX10_yard_124 ?_
          refine lv_topi (fun v21 ev21 => ?_)
          have tv21 := a_add ev21 (by omega) (by omega)
          refine m_iast (1001) hx hb hE hM hS (hJ.2 1 (by decide)).1 rfl (vp_in_iff.mpr (by decide)) dX10_yard_125 (fun H locs I22 eI22 hM hS => ?_)
          rw [show (9 : Int32).toNatClampNeg = 9 from rfl] at eI22
          subst eI22
          have hI := hI.put (n := 1001) (k := 9) (v := v21) (lo := 0) (hi := 8) rfl (by first | omega | decide)
          have hK := hK.put (n := 1001) (k := 9) (v := v21) (by first | rfl | simp [inR])
          refine lv_iload hx hb dX10_yard_126 (lv_at hl 0 rfl) ?_
          exact m_iret hx hb hr hlocks hM hS (Nat.le_of_ble_eq_true rfl) (Nat.le_of_ble_eq_true rfl) ⟨_, _, rfl, hI, hK, (Or.inl ⟨by omega, rfl, EqV.of (live_st (n := 1) (live_st (n := 23) (live_st (n := 22) (live_st (n := 21) (live_st (n := 20) (live_st (n := 19) (live_st (n := 18) (live_st (n := 17) EqV.rf)))))))) (yrdV_sm (V := live I) ev21 rfl)⟩)⟩ dX10_yard_128
        · have hc12 := c12
          have q12 := xr11.f hc12
          refine lv_iconst (v := (-1)) hx hb dX10_yard_54 (by decide) ?_
          exact m_iret hx hb hr hlocks hM hS (Nat.le_of_ble_eq_true rfl) (Nat.le_of_ble_eq_true rfl) ⟨_, _, rfl, hI, hK, (Or.inr ⟨by omega, rfl, rfl⟩)⟩ dX10_yard_55
set_option maxHeartbeats 4000000 in
set_option maxRecDepth 20000 in
theorem V_X10_sun_t (l : Launch) (D : va_G) (A : Nat → Prop) (ad : Nat → Nat) (ns : List Nat) (I : MI) (L : ML) (G : MG) (a0 : Int32) (a1 : Int32) (a2 : Int32) (a3 : Int32) (hJ : SGM ns G) (hI : INV I) : Met l yX10_sun (wd yX10_sun cX10_sun 6 (some .boolean)) ({ frames := 1, cells := 0, slots := 0, locals := 25 }) (va_Pc [.ref (ad (1000)), .int a0, .int a1, .int a2, .int a3] (PM D A ad ns I L G)) (va_Qi (fun r u => ∃ I2 L2, u = (ad, ns, I2, L2, G) ∧ INV I2 ∧ Kp [(1004, 1006)] [] I I2 ∧ (SNT ((I 1001 0).toInt = 1 ∧ okS a0 a1 a2 a3) r I I2 (stV (stV (live I) 4 (24 * (a0).toNatClampNeg + (a1).toNatClampNeg) a2) 5 (24 * (a0).toNatClampNeg + (a1).toNatClampNeg) a3) (live I2))) (BM D A) A) 0 0 A := by
  refine m_ofW (by decide) (Nat.le_of_ble_eq_true rfl) ?_
  intro p e s m below meth c ls args hC hE hM hA hS hl
  obtain ⟨hx, hb, hml, hown, hts, hr, hlocks, hin⟩ := hC
  have km1 : (-1 : Int32).toInt = -1 := by decide
  have k0 : (0 : Int32).toInt = 0 := by decide
  have k1 : (1 : Int32).toInt = 1 := by decide
  have k24 : (24 : Int32).toInt = 24 := by decide
  have kl0 : (0 : Int64).toInt = 0 := by decide
  have kl7 : (7 : Int64).toInt = 7 := by decide
  have kl11 : (11 : Int64).toInt = 11 := by decide
  have kl23 : (23 : Int64).toInt = 23 := by decide
  have kl99999 : (99999 : Int64).toInt = 99999 := by decide
  have hK : Kp [(1004, 1006)] [] I I := Kp.rf
  have hl : lv_has ls 6 [(0, .ref (ad (1000))), (1, .int (a0)), (2, .int (a1)), (3, .int (a2)), (4, .int (a3))] := hl
  refine lv_iload_n hx hb dX10_sun_0 rfl (lv_at hl 3 rfl) ?_
  refine lv_iconst (v := (-1)) hx hb dX10_sun_1 (by decide) ?_
  refine lv_icmp_ne (tgt := 14) hx hb dX10_sun_2 (by decide) (fun c1 => ?_) (fun c1 => ?_)
  · have hc1 := c1
    have q1 := q_ne hc1
    refine lv_iconst (v := (0)) hx hb dX10_sun_14 (by decide) ?_
    refine lv_istore (lv' := [(5, .int (0)), (0, .ref (ad (1000))), (1, .int (a0)), (2, .int (a1)), (3, .int (a2)), (4, .int (a3))]) hx hb dX10_sun_15 hl (by decide) rfl (fun ls hl => ?_)
    refine lv_aload_n hx hb dX10_sun_17 rfl (lv_at hl 1 rfl) ?_
    refine m_calli (m_runV (1000) (As := []) (rest := []) hx hb hml hown hts hE hM hS hA ce_X10_isTown tb_1441 (V_X10_isTown l D A ad ns I L G hJ hI) rfl rfl ⟨Nat.le_of_ble_eq_true rfl, Nat.le_of_ble_eq_true rfl⟩ hJ.1 rfl rfl (by decide) rfl hl.1 rfl (Nat.le_of_ble_eq_true rfl) dX10_sun_18 ⟨Nat.le_of_ble_eq_true rfl, Nat.le_of_ble_eq_true rfl⟩) hS (fun r2 u H locs hw hM hS => ?_)
    obtain ⟨rfl, xr2⟩ := hw
    have hM : Mem D A ad ns I L G H := hM
    have yr2 := bo01 xr2
    refine lv_if_eq (tgt := 78) hx hb dX10_sun_21 (by decide) (fun c3 => ?_) (fun c3 => ?_)
    · have hc3 := c3
      have q3 := xr2.f hc3
      refine lv_iconst (v := (0)) hx hb dX10_sun_78 (by decide) ?_
      exact m_zret hx hb hr rfl hlocks hM hS (Nat.le_of_ble_eq_true rfl) (Nat.le_of_ble_eq_true rfl) ⟨_, _, rfl, hI, hK, (Or.inr ⟨by unfold okS; omega, rfl, rfl⟩)⟩ dX10_sun_79
    · have hc3 := c3
      have q3 := xr2.t hc3
      refine lv_iload_n hx hb dX10_sun_24 rfl (lv_at hl 2 rfl) ?_
      refine lv_i2l hx hb dX10_sun_25 rfl ?_
      refine lv_topl (fun v4 ev4 => ?_)
      have tv4 := q_i2l ev4
      refine lv_lconst (v := 0) hx hb dX10_sun_26 (by decide) ?_
      refine lv_ldc2 (v := (11)) hx hb hown (hts _ tb_1449) dX10_sun_27 ?_
      refine m_calli (m_runS (As := [.long (v4), .long (0), .long ((11 : Int64))]) (rest := []) hx hb hml hown hts hE hM hS hA ce_X10_in tb_1425 (V_X10_in l D A ad ns I L G (v4) (0) ((11 : Int64)) hI) rfl rfl ⟨Nat.le_of_ble_eq_true rfl, Nat.le_of_ble_eq_true rfl⟩  rfl hl.1 rfl (Nat.le_of_ble_eq_true rfl) dX10_sun_30 ⟨Nat.le_of_ble_eq_true rfl, Nat.le_of_ble_eq_true rfl⟩) hS (fun r5 u H locs hw hM hS => ?_)
      obtain ⟨rfl, xr5⟩ := hw
      have hM : Mem D A ad ns I L G H := hM
      have yr5 := bo01 xr5
      refine lv_if_eq (tgt := 78) hx hb dX10_sun_33 (by decide) (fun c6 => ?_) (fun c6 => ?_)
      · have hc6 := c6
        have q6 := xr5.f hc6
        refine lv_iconst (v := (0)) hx hb dX10_sun_78 (by decide) ?_
        exact m_zret hx hb hr rfl hlocks hM hS (Nat.le_of_ble_eq_true rfl) (Nat.le_of_ble_eq_true rfl) ⟨_, _, rfl, hI, hK, (Or.inr ⟨by unfold okS; omega, rfl, rfl⟩)⟩ dX10_sun_79
      · have hc6 := c6
        have q6 := xr5.t hc6
        refine lv_iload_n hx hb dX10_sun_36 rfl (lv_at hl 3 rfl) ?_
        refine lv_i2l hx hb dX10_sun_37 rfl ?_
        refine lv_topl (fun v7 ev7 => ?_)
        have tv7 := q_i2l ev7
        refine lv_lconst (v := 0) hx hb dX10_sun_38 (by decide) ?_
        refine lv_ldc2 (v := (23)) hx hb hown (hts _ tb_1450) dX10_sun_39 ?_
        refine m_calli (m_runS (As := [.long (v7), .long (0), .long ((23 : Int64))]) (rest := []) hx hb hml hown hts hE hM hS hA ce_X10_in tb_1425 (V_X10_in l D A ad ns I L G (v7) (0) ((23 : Int64)) hI) rfl rfl ⟨Nat.le_of_ble_eq_true rfl, Nat.le_of_ble_eq_true rfl⟩  rfl hl.1 rfl (Nat.le_of_ble_eq_true rfl) dX10_sun_42 ⟨Nat.le_of_ble_eq_true rfl, Nat.le_of_ble_eq_true rfl⟩) hS (fun r8 u H locs hw hM hS => ?_)
        obtain ⟨rfl, xr8⟩ := hw
        have hM : Mem D A ad ns I L G H := hM
        have yr8 := bo01 xr8
        refine lv_if_eq (tgt := 78) hx hb dX10_sun_45 (by decide) (fun c9 => ?_) (fun c9 => ?_)
        · have hc9 := c9
          have q9 := xr8.f hc9
          refine lv_iconst (v := (0)) hx hb dX10_sun_78 (by decide) ?_
          exact m_zret hx hb hr rfl hlocks hM hS (Nat.le_of_ble_eq_true rfl) (Nat.le_of_ble_eq_true rfl) ⟨_, _, rfl, hI, hK, (Or.inr ⟨by unfold okS; omega, rfl, rfl⟩)⟩ dX10_sun_79
        · have hc9 := c9
          have q9 := xr8.t hc9
          refine lv_iload hx hb dX10_sun_48 (lv_at hl 0 rfl) ?_
          refine lv_if_ne (tgt := 80) hx hb dX10_sun_50 (by decide) (fun c10 => ?_) (fun c10 => ?_)
          · exact absurd c10 (by decide)
          · have hc10 := c10
            have q10 := q_eq hc10
            refine lv_iload_n hx hb dX10_sun_53 rfl (lv_at hl 4 rfl) ?_
            refine lv_i2l hx hb dX10_sun_54 rfl ?_
            refine lv_topl (fun v11 ev11 => ?_)
            have tv11 := q_i2l ev11
            refine lv_lconst (v := 0) hx hb dX10_sun_55 (by decide) ?_
            refine lv_ldc2 (v := (7)) hx hb hown (hts _ tb_1451) dX10_sun_56 ?_
            refine m_calli (m_runS (As := [.long (v11), .long (0), .long ((7 : Int64))]) (rest := []) hx hb hml hown hts hE hM hS hA ce_X10_in tb_1425 (V_X10_in l D A ad ns I L G (v11) (0) ((7 : Int64)) hI) rfl rfl ⟨Nat.le_of_ble_eq_true rfl, Nat.le_of_ble_eq_true rfl⟩  rfl hl.1 rfl (Nat.le_of_ble_eq_true rfl) dX10_sun_59 ⟨Nat.le_of_ble_eq_true rfl, Nat.le_of_ble_eq_true rfl⟩) hS (fun r12 u H locs hw hM hS => ?_)
            obtain ⟨rfl, xr12⟩ := hw
            have hM : Mem D A ad ns I L G H := hM
            have yr12 := bo01 xr12
            refine lv_if_eq (tgt := 78) hx hb dX10_sun_62 (by decide) (fun c13 => ?_) (fun c13 => ?_)
            · have hc13 := c13
              have q13 := xr12.f hc13
              refine lv_iconst (v := (0)) hx hb dX10_sun_78 (by decide) ?_
              exact m_zret hx hb hr rfl hlocks hM hS (Nat.le_of_ble_eq_true rfl) (Nat.le_of_ble_eq_true rfl) ⟨_, _, rfl, hI, hK, (Or.inr ⟨by unfold okS; omega, rfl, rfl⟩)⟩ dX10_sun_79
            · have hc13 := c13
              have q13 := xr12.t hc13
              refine lv_iload hx hb dX10_sun_65 (lv_at hl 5 rfl) ?_
              refine lv_i2l hx hb dX10_sun_67 rfl ?_
              refine lv_topl (fun v14 ev14 => ?_)
              have tv14 := q_i2l ev14
              refine lv_lconst (v := 0) hx hb dX10_sun_68 (by decide) ?_
              refine lv_ldc2 (v := (99999)) hx hb hown (hts _ tb_1452) dX10_sun_69 ?_
              refine m_calli (m_runS (As := [.long (v14), .long (0), .long ((99999 : Int64))]) (rest := []) hx hb hml hown hts hE hM hS hA ce_X10_in tb_1425 (V_X10_in l D A ad ns I L G (v14) (0) ((99999 : Int64)) hI) rfl rfl ⟨Nat.le_of_ble_eq_true rfl, Nat.le_of_ble_eq_true rfl⟩  rfl hl.1 rfl (Nat.le_of_ble_eq_true rfl) dX10_sun_72 ⟨Nat.le_of_ble_eq_true rfl, Nat.le_of_ble_eq_true rfl⟩) hS (fun r15 u H locs hw hM hS => ?_)
              obtain ⟨rfl, xr15⟩ := hw
              have hM : Mem D A ad ns I L G H := hM
              have yr15 := bo01 xr15
              refine lv_if_ne (tgt := 80) hx hb dX10_sun_75 (by decide) (fun c16 => ?_) (fun c16 => ?_)
              · have hc16 := c16
                have q16 := xr15.t hc16
                refine lv_aload_n hx hb dX10_sun_80 rfl (lv_at hl 1 rfl) ?_
                refine m_getr (1000) 4 (1004) hx hb hts hown hE oc10 hM hJ.1 rfl (by decide) rfl (hJ.2 4 (by decide)).2 (by decide) tb_1181 dX10_sun_81 ?_
                refine lv_bipush (v := (24)) hx hb dX10_sun_84 (by decide) ?_
                refine lv_iload_n hx hb dX10_sun_86 rfl (lv_at hl 2 rfl) ?_
                refine lv_imul hx hb dX10_sun_87 ?_
                refine lv_topi (fun v17 ev17 => ?_)
                have tv17 := a_mulL (c := 24) ev17 (by decide) (by omega) (by omega)
                refine lv_iload_n hx hb dX10_sun_88 rfl (lv_at hl 3 rfl) ?_
                refine lv_iadd hx hb dX10_sun_89 ?_
                refine lv_topi (fun v18 ev18 => ?_)
                have tv18 := a_add ev18 (by omega) (by omega)
                refine lv_iload_n hx hb dX10_sun_90 rfl (lv_at hl 4 rfl) ?_
                refine m_iast (1004) hx hb hE hM hS (hJ.2 4 (by decide)).1 rfl (vp_in_iff.mpr (by omega)) dX10_sun_91 (fun H locs I19 eI19 hM hS => ?_)
                subst eI19
                have hI := hI.putF (n := 1004) (k := ((v18).toNatClampNeg)) (v := a2) rfl
                have hK := hK.put (n := 1004) (k := ((v18).toNatClampNeg)) (v := a2) (by first | rfl | simp [inR])
                refine lv_aload_n hx hb dX10_sun_92 rfl (lv_at hl 1 rfl) ?_
                refine m_getr (1000) 5 (1005) hx hb hts hown hE oc10 hM hJ.1 rfl (by decide) rfl (hJ.2 5 (by decide)).2 (by decide) tb_1182 dX10_sun_93 ?_
                refine lv_bipush (v := (24)) hx hb dX10_sun_96 (by decide) ?_
                refine lv_iload_n hx hb dX10_sun_98 rfl (lv_at hl 2 rfl) ?_
                refine lv_imul hx hb dX10_sun_99 ?_
                refine lv_topi (fun v20 ev20 => ?_)
                have tv20 := a_mulL (c := 24) ev20 (by decide) (by omega) (by omega)
                refine lv_iload_n hx hb dX10_sun_100 rfl (lv_at hl 3 rfl) ?_
                refine lv_iadd hx hb dX10_sun_101 ?_
                refine lv_topi (fun v21 ev21 => ?_)
                have tv21 := a_add ev21 (by omega) (by omega)
                refine lv_iload hx hb dX10_sun_102 (lv_at hl 5 rfl) ?_
                refine m_iast (1005) hx hb hE hM hS (hJ.2 5 (by decide)).1 rfl (vp_in_iff.mpr (by omega)) dX10_sun_104 (fun H locs I22 eI22 hM hS => ?_)
                subst eI22
                have hI := hI.putF (n := 1005) (k := ((v21).toNatClampNeg)) (v := a3) rfl
                have hK := hK.put (n := 1005) (k := ((v21).toNatClampNeg)) (v := a3) (by first | rfl | simp [inR])
                refine lv_iconst (v := (1)) hx hb dX10_sun_105 (by decide) ?_
                have ec23 : (v18).toNatClampNeg = (24 * (a0).toNatClampNeg + (a1).toNatClampNeg) := by have z1 := tn (i := a0) (by omega); have z2 := tn (i := a1) (by omega); have z0 := tn (i := v18) (by omega); omega
                have ec24 : (v21).toNatClampNeg = (24 * (a0).toNatClampNeg + (a1).toNatClampNeg) := by have z1 := tn (i := a0) (by omega); have z2 := tn (i := a1) (by omega); have z0 := tn (i := v21) (by omega); omega
                exact m_zret hx hb hr rfl hlocks hM hS (Nat.le_of_ble_eq_true rfl) (Nat.le_of_ble_eq_true rfl) ⟨_, _, rfl, hI, hK, (Or.inl ⟨by unfold okS; omega, rfl, by rw [ec23, ec24]; exact (live_st (n := 5) (live_st (n := 4) EqV.rf))⟩)⟩ dX10_sun_106
              · have hc16 := c16
                have q16 := xr15.f hc16
                refine lv_iconst (v := (0)) hx hb dX10_sun_78 (by decide) ?_
                exact m_zret hx hb hr rfl hlocks hM hS (Nat.le_of_ble_eq_true rfl) (Nat.le_of_ble_eq_true rfl) ⟨_, _, rfl, hI, hK, (Or.inr ⟨by unfold okS; omega, rfl, rfl⟩)⟩ dX10_sun_79
  · have hc1 := c1
    have q1 := q_eq hc1
    refine lv_iload hx hb dX10_sun_5 (lv_at hl 4 rfl) ?_
    refine lv_if_ne (tgt := 14) hx hb dX10_sun_7 (by decide) (fun c25 => ?_) (fun c25 => ?_)
    · have hc25 := c25
      have q25 := q_ne hc25
      refine lv_iconst (v := (0)) hx hb dX10_sun_14 (by decide) ?_
      refine lv_istore (lv' := [(5, .int (0)), (0, .ref (ad (1000))), (1, .int (a0)), (2, .int (a1)), (3, .int (a2)), (4, .int (a3))]) hx hb dX10_sun_15 hl (by decide) rfl (fun ls hl => ?_)
      refine lv_aload_n hx hb dX10_sun_17 rfl (lv_at hl 1 rfl) ?_
      refine m_calli (m_runV (1000) (As := []) (rest := []) hx hb hml hown hts hE hM hS hA ce_X10_isTown tb_1441 (V_X10_isTown l D A ad ns I L G hJ hI) rfl rfl ⟨Nat.le_of_ble_eq_true rfl, Nat.le_of_ble_eq_true rfl⟩ hJ.1 rfl rfl (by decide) rfl hl.1 rfl (Nat.le_of_ble_eq_true rfl) dX10_sun_18 ⟨Nat.le_of_ble_eq_true rfl, Nat.le_of_ble_eq_true rfl⟩) hS (fun r26 u H locs hw hM hS => ?_)
      obtain ⟨rfl, xr26⟩ := hw
      have hM : Mem D A ad ns I L G H := hM
      have yr26 := bo01 xr26
      refine lv_if_eq (tgt := 78) hx hb dX10_sun_21 (by decide) (fun c27 => ?_) (fun c27 => ?_)
      · have hc27 := c27
        have q27 := xr26.f hc27
        refine lv_iconst (v := (0)) hx hb dX10_sun_78 (by decide) ?_
        exact m_zret hx hb hr rfl hlocks hM hS (Nat.le_of_ble_eq_true rfl) (Nat.le_of_ble_eq_true rfl) ⟨_, _, rfl, hI, hK, (Or.inr ⟨by unfold okS; omega, rfl, rfl⟩)⟩ dX10_sun_79
      · have hc27 := c27
        have q27 := xr26.t hc27
        refine lv_iload_n hx hb dX10_sun_24 rfl (lv_at hl 2 rfl) ?_
        refine lv_i2l hx hb dX10_sun_25 rfl ?_
        refine lv_topl (fun v28 ev28 => ?_)
        have tv28 := q_i2l ev28
        refine lv_lconst (v := 0) hx hb dX10_sun_26 (by decide) ?_
        refine lv_ldc2 (v := (11)) hx hb hown (hts _ tb_1449) dX10_sun_27 ?_
        refine m_calli (m_runS (As := [.long (v28), .long (0), .long ((11 : Int64))]) (rest := []) hx hb hml hown hts hE hM hS hA ce_X10_in tb_1425 (V_X10_in l D A ad ns I L G (v28) (0) ((11 : Int64)) hI) rfl rfl ⟨Nat.le_of_ble_eq_true rfl, Nat.le_of_ble_eq_true rfl⟩  rfl hl.1 rfl (Nat.le_of_ble_eq_true rfl) dX10_sun_30 ⟨Nat.le_of_ble_eq_true rfl, Nat.le_of_ble_eq_true rfl⟩) hS (fun r29 u H locs hw hM hS => ?_)
        obtain ⟨rfl, xr29⟩ := hw
        have hM : Mem D A ad ns I L G H := hM
        have yr29 := bo01 xr29
        refine lv_if_eq (tgt := 78) hx hb dX10_sun_33 (by decide) (fun c30 => ?_) (fun c30 => ?_)
        · have hc30 := c30
          have q30 := xr29.f hc30
          refine lv_iconst (v := (0)) hx hb dX10_sun_78 (by decide) ?_
          exact m_zret hx hb hr rfl hlocks hM hS (Nat.le_of_ble_eq_true rfl) (Nat.le_of_ble_eq_true rfl) ⟨_, _, rfl, hI, hK, (Or.inr ⟨by unfold okS; omega, rfl, rfl⟩)⟩ dX10_sun_79
        · have hc30 := c30
          have q30 := xr29.t hc30
          refine lv_iload_n hx hb dX10_sun_36 rfl (lv_at hl 3 rfl) ?_
          refine lv_i2l hx hb dX10_sun_37 rfl ?_
          refine lv_topl (fun v31 ev31 => ?_)
          have tv31 := q_i2l ev31
          refine lv_lconst (v := 0) hx hb dX10_sun_38 (by decide) ?_
          refine lv_ldc2 (v := (23)) hx hb hown (hts _ tb_1450) dX10_sun_39 ?_
          refine m_calli (m_runS (As := [.long (v31), .long (0), .long ((23 : Int64))]) (rest := []) hx hb hml hown hts hE hM hS hA ce_X10_in tb_1425 (V_X10_in l D A ad ns I L G (v31) (0) ((23 : Int64)) hI) rfl rfl ⟨Nat.le_of_ble_eq_true rfl, Nat.le_of_ble_eq_true rfl⟩  rfl hl.1 rfl (Nat.le_of_ble_eq_true rfl) dX10_sun_42 ⟨Nat.le_of_ble_eq_true rfl, Nat.le_of_ble_eq_true rfl⟩) hS (fun r32 u H locs hw hM hS => ?_)
          obtain ⟨rfl, xr32⟩ := hw
          have hM : Mem D A ad ns I L G H := hM
          have yr32 := bo01 xr32
          refine lv_if_eq (tgt := 78) hx hb dX10_sun_45 (by decide) (fun c33 => ?_) (fun c33 => ?_)
          · have hc33 := c33
            have q33 := xr32.f hc33
            refine lv_iconst (v := (0)) hx hb dX10_sun_78 (by decide) ?_
            exact m_zret hx hb hr rfl hlocks hM hS (Nat.le_of_ble_eq_true rfl) (Nat.le_of_ble_eq_true rfl) ⟨_, _, rfl, hI, hK, (Or.inr ⟨by unfold okS; omega, rfl, rfl⟩)⟩ dX10_sun_79
          · have hc33 := c33
            have q33 := xr32.t hc33
            refine lv_iload hx hb dX10_sun_48 (lv_at hl 0 rfl) ?_
            refine lv_if_ne (tgt := 80) hx hb dX10_sun_50 (by decide) (fun c34 => ?_) (fun c34 => ?_)
            · exact absurd c34 (by decide)
            · have hc34 := c34
              have q34 := q_eq hc34
              refine lv_iload_n hx hb dX10_sun_53 rfl (lv_at hl 4 rfl) ?_
              refine lv_i2l hx hb dX10_sun_54 rfl ?_
              refine lv_topl (fun v35 ev35 => ?_)
              have tv35 := q_i2l ev35
              refine lv_lconst (v := 0) hx hb dX10_sun_55 (by decide) ?_
              refine lv_ldc2 (v := (7)) hx hb hown (hts _ tb_1451) dX10_sun_56 ?_
              refine m_calli (m_runS (As := [.long (v35), .long (0), .long ((7 : Int64))]) (rest := []) hx hb hml hown hts hE hM hS hA ce_X10_in tb_1425 (V_X10_in l D A ad ns I L G (v35) (0) ((7 : Int64)) hI) rfl rfl ⟨Nat.le_of_ble_eq_true rfl, Nat.le_of_ble_eq_true rfl⟩  rfl hl.1 rfl (Nat.le_of_ble_eq_true rfl) dX10_sun_59 ⟨Nat.le_of_ble_eq_true rfl, Nat.le_of_ble_eq_true rfl⟩) hS (fun r36 u H locs hw hM hS => ?_)
              obtain ⟨rfl, xr36⟩ := hw
              have hM : Mem D A ad ns I L G H := hM
              have yr36 := bo01 xr36
              refine lv_if_eq (tgt := 78) hx hb dX10_sun_62 (by decide) (fun c37 => ?_) (fun c37 => ?_)
              · have hc37 := c37
                have q37 := xr36.f hc37
                refine lv_iconst (v := (0)) hx hb dX10_sun_78 (by decide) ?_
                exact m_zret hx hb hr rfl hlocks hM hS (Nat.le_of_ble_eq_true rfl) (Nat.le_of_ble_eq_true rfl) ⟨_, _, rfl, hI, hK, (Or.inr ⟨by unfold okS; omega, rfl, rfl⟩)⟩ dX10_sun_79
              · have hc37 := c37
                have q37 := xr36.t hc37
                refine lv_iload hx hb dX10_sun_65 (lv_at hl 5 rfl) ?_
                refine lv_i2l hx hb dX10_sun_67 rfl ?_
                refine lv_topl (fun v38 ev38 => ?_)
                have tv38 := q_i2l ev38
                refine lv_lconst (v := 0) hx hb dX10_sun_68 (by decide) ?_
                refine lv_ldc2 (v := (99999)) hx hb hown (hts _ tb_1452) dX10_sun_69 ?_
                refine m_calli (m_runS (As := [.long (v38), .long (0), .long ((99999 : Int64))]) (rest := []) hx hb hml hown hts hE hM hS hA ce_X10_in tb_1425 (V_X10_in l D A ad ns I L G (v38) (0) ((99999 : Int64)) hI) rfl rfl ⟨Nat.le_of_ble_eq_true rfl, Nat.le_of_ble_eq_true rfl⟩  rfl hl.1 rfl (Nat.le_of_ble_eq_true rfl) dX10_sun_72 ⟨Nat.le_of_ble_eq_true rfl, Nat.le_of_ble_eq_true rfl⟩) hS (fun r39 u H locs hw hM hS => ?_)
                obtain ⟨rfl, xr39⟩ := hw
                have hM : Mem D A ad ns I L G H := hM
                have yr39 := bo01 xr39
                refine lv_if_ne (tgt := 80) hx hb dX10_sun_75 (by decide) (fun c40 => ?_) (fun c40 => ?_)
                · have hc40 := c40
                  have q40 := xr39.t hc40
                  refine lv_aload_n hx hb dX10_sun_80 rfl (lv_at hl 1 rfl) ?_
                  refine m_getr (1000) 4 (1004) hx hb hts hown hE oc10 hM hJ.1 rfl (by decide) rfl (hJ.2 4 (by decide)).2 (by decide) tb_1181 dX10_sun_81 ?_
                  refine lv_bipush (v := (24)) hx hb dX10_sun_84 (by decide) ?_
                  refine lv_iload_n hx hb dX10_sun_86 rfl (lv_at hl 2 rfl) ?_
                  refine lv_imul hx hb dX10_sun_87 ?_
                  refine lv_topi (fun v41 ev41 => ?_)
                  have tv41 := a_mulL (c := 24) ev41 (by decide) (by omega) (by omega)
                  refine lv_iload_n hx hb dX10_sun_88 rfl (lv_at hl 3 rfl) ?_
                  refine lv_iadd hx hb dX10_sun_89 ?_
                  refine lv_topi (fun v42 ev42 => ?_)
                  have tv42 := a_add ev42 (by omega) (by omega)
                  refine lv_iload_n hx hb dX10_sun_90 rfl (lv_at hl 4 rfl) ?_
                  refine m_iast (1004) hx hb hE hM hS (hJ.2 4 (by decide)).1 rfl (vp_in_iff.mpr (by omega)) dX10_sun_91 (fun H locs I43 eI43 hM hS => ?_)
                  subst eI43
                  have hI := hI.putF (n := 1004) (k := ((v42).toNatClampNeg)) (v := a2) rfl
                  have hK := hK.put (n := 1004) (k := ((v42).toNatClampNeg)) (v := a2) (by first | rfl | simp [inR])
                  refine lv_aload_n hx hb dX10_sun_92 rfl (lv_at hl 1 rfl) ?_
                  refine m_getr (1000) 5 (1005) hx hb hts hown hE oc10 hM hJ.1 rfl (by decide) rfl (hJ.2 5 (by decide)).2 (by decide) tb_1182 dX10_sun_93 ?_
                  refine lv_bipush (v := (24)) hx hb dX10_sun_96 (by decide) ?_
                  refine lv_iload_n hx hb dX10_sun_98 rfl (lv_at hl 2 rfl) ?_
                  refine lv_imul hx hb dX10_sun_99 ?_
                  refine lv_topi (fun v44 ev44 => ?_)
                  have tv44 := a_mulL (c := 24) ev44 (by decide) (by omega) (by omega)
                  refine lv_iload_n hx hb dX10_sun_100 rfl (lv_at hl 3 rfl) ?_
                  refine lv_iadd hx hb dX10_sun_101 ?_
                  refine lv_topi (fun v45 ev45 => ?_)
                  have tv45 := a_add ev45 (by omega) (by omega)
                  refine lv_iload hx hb dX10_sun_102 (lv_at hl 5 rfl) ?_
                  refine m_iast (1005) hx hb hE hM hS (hJ.2 5 (by decide)).1 rfl (vp_in_iff.mpr (by omega)) dX10_sun_104 (fun H locs I46 eI46 hM hS => ?_)
                  subst eI46
                  have hI := hI.putF (n := 1005) (k := ((v45).toNatClampNeg)) (v := a3) rfl
                  have hK := hK.put (n := 1005) (k := ((v45).toNatClampNeg)) (v := a3) (by first | rfl | simp [inR])
                  refine lv_iconst (v := (1)) hx hb dX10_sun_105 (by decide) ?_
                  have ec47 : (v42).toNatClampNeg = (24 * (a0).toNatClampNeg + (a1).toNatClampNeg) := by have z1 := tn (i := a0) (by omega); have z2 := tn (i := a1) (by omega); have z0 := tn (i := v42) (by omega); omega
                  have ec48 : (v45).toNatClampNeg = (24 * (a0).toNatClampNeg + (a1).toNatClampNeg) := by have z1 := tn (i := a0) (by omega); have z2 := tn (i := a1) (by omega); have z0 := tn (i := v45) (by omega); omega
                  exact m_zret hx hb hr rfl hlocks hM hS (Nat.le_of_ble_eq_true rfl) (Nat.le_of_ble_eq_true rfl) ⟨_, _, rfl, hI, hK, (Or.inl ⟨by unfold okS; omega, rfl, by rw [ec47, ec48]; exact (live_st (n := 5) (live_st (n := 4) EqV.rf))⟩)⟩ dX10_sun_106
                · have hc40 := c40
                  have q40 := xr39.f hc40
                  refine lv_iconst (v := (0)) hx hb dX10_sun_78 (by decide) ?_
                  exact m_zret hx hb hr rfl hlocks hM hS (Nat.le_of_ble_eq_true rfl) (Nat.le_of_ble_eq_true rfl) ⟨_, _, rfl, hI, hK, (Or.inr ⟨by unfold okS; omega, rfl, rfl⟩)⟩ dX10_sun_79
    · have hc25 := c25
      have q25 := q_eq hc25
      refine lv_iconst (v := (1)) hx hb dX10_sun_10 (by decide) ?_
      refine lv_goto (tgt := 15) hx hb dX10_sun_11 (by decide) ?_
      refine lv_istore (lv' := [(5, .int (1)), (0, .ref (ad (1000))), (1, .int (a0)), (2, .int (a1)), (3, .int (a2)), (4, .int (a3))]) hx hb dX10_sun_15 hl (by decide) rfl (fun ls hl => ?_)
      refine lv_aload_n hx hb dX10_sun_17 rfl (lv_at hl 1 rfl) ?_
      refine m_calli (m_runV (1000) (As := []) (rest := []) hx hb hml hown hts hE hM hS hA ce_X10_isTown tb_1441 (V_X10_isTown l D A ad ns I L G hJ hI) rfl rfl ⟨Nat.le_of_ble_eq_true rfl, Nat.le_of_ble_eq_true rfl⟩ hJ.1 rfl rfl (by decide) rfl hl.1 rfl (Nat.le_of_ble_eq_true rfl) dX10_sun_18 ⟨Nat.le_of_ble_eq_true rfl, Nat.le_of_ble_eq_true rfl⟩) hS (fun r49 u H locs hw hM hS => ?_)
      obtain ⟨rfl, xr49⟩ := hw
      have hM : Mem D A ad ns I L G H := hM
      have yr49 := bo01 xr49
      refine lv_if_eq (tgt := 78) hx hb dX10_sun_21 (by decide) (fun c50 => ?_) (fun c50 => ?_)
      · have hc50 := c50
        have q50 := xr49.f hc50
        refine lv_iconst (v := (0)) hx hb dX10_sun_78 (by decide) ?_
        exact m_zret hx hb hr rfl hlocks hM hS (Nat.le_of_ble_eq_true rfl) (Nat.le_of_ble_eq_true rfl) ⟨_, _, rfl, hI, hK, (Or.inr ⟨by unfold okS; omega, rfl, rfl⟩)⟩ dX10_sun_79
      · have hc50 := c50
        have q50 := xr49.t hc50
        refine lv_iload_n hx hb dX10_sun_24 rfl (lv_at hl 2 rfl) ?_
        refine lv_i2l hx hb dX10_sun_25 rfl ?_
        refine lv_topl (fun v51 ev51 => ?_)
        have tv51 := q_i2l ev51
        refine lv_lconst (v := 0) hx hb dX10_sun_26 (by decide) ?_
        refine lv_ldc2 (v := (11)) hx hb hown (hts _ tb_1449) dX10_sun_27 ?_
        refine m_calli (m_runS (As := [.long (v51), .long (0), .long ((11 : Int64))]) (rest := []) hx hb hml hown hts hE hM hS hA ce_X10_in tb_1425 (V_X10_in l D A ad ns I L G (v51) (0) ((11 : Int64)) hI) rfl rfl ⟨Nat.le_of_ble_eq_true rfl, Nat.le_of_ble_eq_true rfl⟩  rfl hl.1 rfl (Nat.le_of_ble_eq_true rfl) dX10_sun_30 ⟨Nat.le_of_ble_eq_true rfl, Nat.le_of_ble_eq_true rfl⟩) hS (fun r52 u H locs hw hM hS => ?_)
        obtain ⟨rfl, xr52⟩ := hw
        have hM : Mem D A ad ns I L G H := hM
        have yr52 := bo01 xr52
        refine lv_if_eq (tgt := 78) hx hb dX10_sun_33 (by decide) (fun c53 => ?_) (fun c53 => ?_)
        · have hc53 := c53
          have q53 := xr52.f hc53
          refine lv_iconst (v := (0)) hx hb dX10_sun_78 (by decide) ?_
          exact m_zret hx hb hr rfl hlocks hM hS (Nat.le_of_ble_eq_true rfl) (Nat.le_of_ble_eq_true rfl) ⟨_, _, rfl, hI, hK, (Or.inr ⟨by unfold okS; omega, rfl, rfl⟩)⟩ dX10_sun_79
        · have hc53 := c53
          have q53 := xr52.t hc53
          refine lv_iload_n hx hb dX10_sun_36 rfl (lv_at hl 3 rfl) ?_
          refine lv_i2l hx hb dX10_sun_37 rfl ?_
          refine lv_topl (fun v54 ev54 => ?_)
          have tv54 := q_i2l ev54
          refine lv_lconst (v := 0) hx hb dX10_sun_38 (by decide) ?_
          refine lv_ldc2 (v := (23)) hx hb hown (hts _ tb_1450) dX10_sun_39 ?_
          refine m_calli (m_runS (As := [.long (v54), .long (0), .long ((23 : Int64))]) (rest := []) hx hb hml hown hts hE hM hS hA ce_X10_in tb_1425 (V_X10_in l D A ad ns I L G (v54) (0) ((23 : Int64)) hI) rfl rfl ⟨Nat.le_of_ble_eq_true rfl, Nat.le_of_ble_eq_true rfl⟩  rfl hl.1 rfl (Nat.le_of_ble_eq_true rfl) dX10_sun_42 ⟨Nat.le_of_ble_eq_true rfl, Nat.le_of_ble_eq_true rfl⟩) hS (fun r55 u H locs hw hM hS => ?_)
          obtain ⟨rfl, xr55⟩ := hw
          have hM : Mem D A ad ns I L G H := hM
          have yr55 := bo01 xr55
          refine lv_if_eq (tgt := 78) hx hb dX10_sun_45 (by decide) (fun c56 => ?_) (fun c56 => ?_)
          · have hc56 := c56
            have q56 := xr55.f hc56
            refine lv_iconst (v := (0)) hx hb dX10_sun_78 (by decide) ?_
            exact m_zret hx hb hr rfl hlocks hM hS (Nat.le_of_ble_eq_true rfl) (Nat.le_of_ble_eq_true rfl) ⟨_, _, rfl, hI, hK, (Or.inr ⟨by unfold okS; omega, rfl, rfl⟩)⟩ dX10_sun_79
          · have hc56 := c56
            have q56 := xr55.t hc56
            refine lv_iload hx hb dX10_sun_48 (lv_at hl 0 rfl) ?_
            refine lv_if_ne (tgt := 80) hx hb dX10_sun_50 (by decide) (fun c57 => ?_) (fun c57 => ?_)
            · have hc57 := c57
              have q57 := q_ne hc57
              refine lv_aload_n hx hb dX10_sun_80 rfl (lv_at hl 1 rfl) ?_
              refine m_getr (1000) 4 (1004) hx hb hts hown hE oc10 hM hJ.1 rfl (by decide) rfl (hJ.2 4 (by decide)).2 (by decide) tb_1181 dX10_sun_81 ?_
              refine lv_bipush (v := (24)) hx hb dX10_sun_84 (by decide) ?_
              refine lv_iload_n hx hb dX10_sun_86 rfl (lv_at hl 2 rfl) ?_
              refine lv_imul hx hb dX10_sun_87 ?_
              refine lv_topi (fun v58 ev58 => ?_)
              have tv58 := a_mulL (c := 24) ev58 (by decide) (by omega) (by omega)
              refine lv_iload_n hx hb dX10_sun_88 rfl (lv_at hl 3 rfl) ?_
              refine lv_iadd hx hb dX10_sun_89 ?_
              refine lv_topi (fun v59 ev59 => ?_)
              have tv59 := a_add ev59 (by omega) (by omega)
              refine lv_iload_n hx hb dX10_sun_90 rfl (lv_at hl 4 rfl) ?_
              refine m_iast (1004) hx hb hE hM hS (hJ.2 4 (by decide)).1 rfl (vp_in_iff.mpr (by omega)) dX10_sun_91 (fun H locs I60 eI60 hM hS => ?_)
              subst eI60
              have hI := hI.putF (n := 1004) (k := ((v59).toNatClampNeg)) (v := a2) rfl
              have hK := hK.put (n := 1004) (k := ((v59).toNatClampNeg)) (v := a2) (by first | rfl | simp [inR])
              refine lv_aload_n hx hb dX10_sun_92 rfl (lv_at hl 1 rfl) ?_
              refine m_getr (1000) 5 (1005) hx hb hts hown hE oc10 hM hJ.1 rfl (by decide) rfl (hJ.2 5 (by decide)).2 (by decide) tb_1182 dX10_sun_93 ?_
              refine lv_bipush (v := (24)) hx hb dX10_sun_96 (by decide) ?_
              refine lv_iload_n hx hb dX10_sun_98 rfl (lv_at hl 2 rfl) ?_
              refine lv_imul hx hb dX10_sun_99 ?_
              refine lv_topi (fun v61 ev61 => ?_)
              have tv61 := a_mulL (c := 24) ev61 (by decide) (by omega) (by omega)
              refine lv_iload_n hx hb dX10_sun_100 rfl (lv_at hl 3 rfl) ?_
              refine lv_iadd hx hb dX10_sun_101 ?_
              refine lv_topi (fun v62 ev62 => ?_)
              have tv62 := a_add ev62 (by omega) (by omega)
              refine lv_iload hx hb dX10_sun_102 (lv_at hl 5 rfl) ?_
              refine m_iast (1005) hx hb hE hM hS (hJ.2 5 (by decide)).1 rfl (vp_in_iff.mpr (by omega)) dX10_sun_104 (fun H locs I63 eI63 hM hS => ?_)
              subst eI63
              have hI := hI.putF (n := 1005) (k := ((v62).toNatClampNeg)) (v := a3) rfl
              have hK := hK.put (n := 1005) (k := ((v62).toNatClampNeg)) (v := a3) (by first | rfl | simp [inR])
              refine lv_iconst (v := (1)) hx hb dX10_sun_105 (by decide) ?_
              have ec64 : (v59).toNatClampNeg = (24 * (a0).toNatClampNeg + (a1).toNatClampNeg) := by have z1 := tn (i := a0) (by omega); have z2 := tn (i := a1) (by omega); have z0 := tn (i := v59) (by omega); omega
              have ec65 : (v62).toNatClampNeg = (24 * (a0).toNatClampNeg + (a1).toNatClampNeg) := by have z1 := tn (i := a0) (by omega); have z2 := tn (i := a1) (by omega); have z0 := tn (i := v62) (by omega); omega
              exact m_zret hx hb hr rfl hlocks hM hS (Nat.le_of_ble_eq_true rfl) (Nat.le_of_ble_eq_true rfl) ⟨_, _, rfl, hI, hK, (Or.inl ⟨by unfold okS; omega, rfl, by rw [ec64, ec65]; exact (live_st (n := 5) (live_st (n := 4) EqV.rf))⟩)⟩ dX10_sun_106
            · exact absurd c57 (by decide)
set_option maxHeartbeats 4000000 in
set_option maxRecDepth 20000 in
theorem V_X10_sets_t (l : Launch) (D : va_G) (A : Nat → Prop) (ad : Nat → Nat) (ns : List Nat) (I : MI) (L : ML) (G : MG) (a0 : Int32) (a1 : Int32) (a2 : Int32) (hJ : SGM ns G) (hI : INV I) : Met l yX10_sets (wd yX10_sets cX10_sets 5 (some .int)) ({ frames := 2, cells := 0, slots := 0, locals := 46 }) (va_Pc [.ref (ad (1000)), .int a0, .int a1, .int a2] (PM D A ad ns I L G)) (va_Qi (fun r u => ∃ I2 L2, u = (ad, ns, I2, L2, G) ∧ INV I2 ∧ Kp [(1009, 1010), (1014, 1017)] [] I I2 ∧ (SET (((I 1001 0).toInt = 1 ∧ 0 ≤ a0.toInt ∧ a0.toInt < (I 1001 8).toInt) ∧ okE a1 a2) r (live I (srow a1) (a0).toNatClampNeg) I I2 (stV (live I) (srow a1) (a0).toNatClampNeg a2) (live I2))) (BM D A) A) 0 0 A := by
  refine m_ofW (by decide) (Nat.le_of_ble_eq_true rfl) ?_
  intro p e s m below meth c ls args hC hE hM hA hS hl
  obtain ⟨hx, hb, hml, hown, hts, hr, hlocks, hin⟩ := hC
  have km2 : (-2 : Int32).toInt = -2 := by decide
  have k0 : (0 : Int32).toInt = 0 := by decide
  have k1 : (1 : Int32).toInt = 1 := by decide
  have k2 : (2 : Int32).toInt = 2 := by decide
  have k3 : (3 : Int32).toInt = 3 := by decide
  have klm1 : (-1 : Int64).toInt = -1 := by decide
  have kl0 : (0 : Int64).toInt = 0 := by decide
  have kl1 : (1 : Int64).toInt = 1 := by decide
  have kl3 : (3 : Int64).toInt = 3 := by decide
  have kl7 : (7 : Int64).toInt = 7 := by decide
  have kl1000 : (1000 : Int64).toInt = 1000 := by decide
  have kl99999 : (99999 : Int64).toInt = 99999 := by decide
  have hK : Kp [(1009, 1010), (1014, 1017)] [] I I := Kp.rf
  have hl : lv_has ls 5 [(0, .ref (ad (1000))), (1, .int (a0)), (2, .int (a1)), (3, .int (a2))] := hl
  refine lv_aload_n hx hb dX10_sets_0 rfl (lv_at hl 0 rfl) ?_
  refine lv_iload_n hx hb dX10_sets_1 rfl (lv_at hl 1 rfl) ?_
  refine m_calli (m_runV (1000) (As := [.int (a0)]) (rest := []) hx hb hml hown hts hE hM hS hA ce_X10_isMirror tb_1462 (V_X10_isMirror l D A ad ns I L G (a0) hJ hI) rfl rfl ⟨Nat.le_of_ble_eq_true rfl, Nat.le_of_ble_eq_true rfl⟩ hJ.1 rfl rfl (by decide) rfl hl.1 rfl (Nat.le_of_ble_eq_true rfl) dX10_sets_2 ⟨Nat.le_of_ble_eq_true rfl, Nat.le_of_ble_eq_true rfl⟩) hS (fun r1 u H locs hw hM hS => ?_)
  obtain ⟨rfl, xr1⟩ := hw
  have hM : Mem D A ad ns I L G H := hM
  have yr1 := bo01 xr1
  have g2 := hI.get 1001 8 (lo := 0) (hi := 24) rfl
  refine lv_if_eq (tgt := 73) hx hb dX10_sets_5 (by decide) (fun c3 => ?_) (fun c3 => ?_)
  · have hc3 := c3
    have q3 := xr1.f hc3
    refine lv_bipush (v := (-2)) hx hb dX10_sets_73 (by decide) ?_
    exact m_iret hx hb hr hlocks hM hS (Nat.le_of_ble_eq_true rfl) (Nat.le_of_ble_eq_true rfl) ⟨_, _, rfl, hI, hK, (Or.inr ⟨fun hh => by have h2 := hh.2; unfold okE at h2; omega, rfl, rfl⟩)⟩ dX10_sets_75
  · have hc3 := c3
    have q3 := xr1.t hc3
    refine lv_iload_n hx hb dX10_sets_8 rfl (lv_at hl 2 rfl) ?_
    refine lv_i2l hx hb dX10_sets_9 rfl ?_
    refine lv_topl (fun v4 ev4 => ?_)
    have tv4 := q_i2l ev4
    refine lv_lconst (v := 0) hx hb dX10_sets_10 (by decide) ?_
    refine lv_ldc2 (v := (3)) hx hb hown (hts _ tb_1466) dX10_sets_11 ?_
    refine m_calli (m_runS (As := [.long (v4), .long (0), .long ((3 : Int64))]) (rest := []) hx hb hml hown hts hE hM hS hA ce_X10_in tb_1425 (V_X10_in l D A ad ns I L G (v4) (0) ((3 : Int64)) hI) rfl rfl ⟨Nat.le_of_ble_eq_true rfl, Nat.le_of_ble_eq_true rfl⟩  rfl hl.1 rfl (Nat.le_of_ble_eq_true rfl) dX10_sets_14 ⟨Nat.le_of_ble_eq_true rfl, Nat.le_of_ble_eq_true rfl⟩) hS (fun r5 u H locs hw hM hS => ?_)
    obtain ⟨rfl, xr5⟩ := hw
    have hM : Mem D A ad ns I L G H := hM
    have yr5 := bo01 xr5
    refine lv_if_eq (tgt := 73) hx hb dX10_sets_17 (by decide) (fun c6 => ?_) (fun c6 => ?_)
    · have hc6 := c6
      have q6 := xr5.f hc6
      refine lv_bipush (v := (-2)) hx hb dX10_sets_73 (by decide) ?_
      exact m_iret hx hb hr hlocks hM hS (Nat.le_of_ble_eq_true rfl) (Nat.le_of_ble_eq_true rfl) ⟨_, _, rfl, hI, hK, (Or.inr ⟨fun hh => by have h2 := hh.2; unfold okE at h2; omega, rfl, rfl⟩)⟩ dX10_sets_75
    · have hc6 := c6
      have q6 := xr5.t hc6
      refine lv_iload_n hx hb dX10_sets_20 rfl (lv_at hl 3 rfl) ?_
      refine lv_i2l hx hb dX10_sets_21 rfl ?_
      refine lv_topl (fun v7 ev7 => ?_)
      have tv7 := q_i2l ev7
      refine lv_iload_n hx hb dX10_sets_22 rfl (lv_at hl 2 rfl) ?_
      refine lv_iconst (v := (3)) hx hb dX10_sets_23 (by decide) ?_
      refine lv_icmp_ne (tgt := 33) hx hb dX10_sets_24 (by decide) (fun c8 => ?_) (fun c8 => ?_)
      · have hc8 := c8
        have q8 := q_ne hc8
        refine lv_lconst (v := 0) hx hb dX10_sets_33 (by decide) ?_
        refine lv_iload_n hx hb dX10_sets_34 rfl (lv_at hl 2 rfl) ?_
        refine lv_if_ne (tgt := 44) hx hb dX10_sets_35 (by decide) (fun c9 => ?_) (fun c9 => ?_)
        · have hc9 := c9
          have q9 := q_ne hc9
          refine lv_iload_n hx hb dX10_sets_44 rfl (lv_at hl 2 rfl) ?_
          refine lv_iconst (v := (1)) hx hb dX10_sets_45 (by decide) ?_
          refine lv_icmp_ne (tgt := 55) hx hb dX10_sets_46 (by decide) (fun c10 => ?_) (fun c10 => ?_)
          · have hc10 := c10
            have q10 := q_ne hc10
            refine lv_iload_n hx hb dX10_sets_55 rfl (lv_at hl 2 rfl) ?_
            refine lv_iconst (v := (2)) hx hb dX10_sets_56 (by decide) ?_
            refine lv_icmp_ne (tgt := 64) hx hb dX10_sets_57 (by decide) (fun c11 => ?_) (fun c11 => ?_)
            · have hc11 := c11
              have q11 := q_ne hc11
              refine lv_ldc2 (v := (99999)) hx hb hown (hts _ tb_1452) dX10_sets_64 ?_
              refine m_calli (m_runS (As := [.long (v7), .long (0), .long ((99999 : Int64))]) (rest := []) hx hb hml hown hts hE hM hS hA ce_X10_in tb_1425 (V_X10_in l D A ad ns I L G (v7) (0) ((99999 : Int64)) hI) rfl rfl ⟨Nat.le_of_ble_eq_true rfl, Nat.le_of_ble_eq_true rfl⟩  rfl hl.1 rfl (Nat.le_of_ble_eq_true rfl) dX10_sets_67 ⟨Nat.le_of_ble_eq_true rfl, Nat.le_of_ble_eq_true rfl⟩) hS (fun r12 u H locs hw hM hS => ?_)
              obtain ⟨rfl, xr12⟩ := hw
              have hM : Mem D A ad ns I L G H := hM
              have yr12 := bo01 xr12
              refine lv_if_ne (tgt := 76) hx hb dX10_sets_70 (by decide) (fun c13 => ?_) (fun c13 => ?_)
              · have hc13 := c13
                have q13 := xr12.t hc13
                refine lv_iload_n hx hb dX10_sets_76 rfl (lv_at hl 2 rfl) ?_
                refine lv_if_ne (tgt := 89) hx hb dX10_sets_77 (by decide) (fun c14 => ?_) (fun c14 => ?_)
                · have hc14 := c14
                  have q14 := q_ne hc14
                  refine lv_iload_n hx hb dX10_sets_89 rfl (lv_at hl 2 rfl) ?_
                  refine lv_iconst (v := (1)) hx hb dX10_sets_90 (by decide) ?_
                  refine lv_icmp_ne (tgt := 103) hx hb dX10_sets_91 (by decide) (fun c15 => ?_) (fun c15 => ?_)
                  · have hc15 := c15
                    have q15 := q_ne hc15
                    refine lv_iload_n hx hb dX10_sets_103 rfl (lv_at hl 2 rfl) ?_
                    refine lv_iconst (v := (2)) hx hb dX10_sets_104 (by decide) ?_
                    refine lv_icmp_ne (tgt := 117) hx hb dX10_sets_105 (by decide) (fun c16 => ?_) (fun c16 => ?_)
                    · have hc16 := c16
                      have q16 := q_ne hc16
                      refine lv_aload_n hx hb dX10_sets_117 rfl (lv_at hl 0 rfl) ?_
                      refine m_getr (1000) 16 (1016) hx hb hts hown hE oc10 hM hJ.1 rfl (by decide) rfl (hJ.2 16 (by decide)).2 (by decide) tb_1193 dX10_sets_118 ?_
                      refine lv_iload_n hx hb dX10_sets_121 rfl (lv_at hl 1 rfl) ?_
                      refine m_iald (1016) hx hb hE hM (hJ.2 16 (by decide)).1 rfl (vp_in_iff.mpr (by omega)) dX10_sets_122 ?_
                      refine lv_istore (lv' := [(4, .int (I (1016) (a0).toNatClampNeg)), (0, .ref (ad (1000))), (1, .int (a0)), (2, .int (a1)), (3, .int (a2))]) hx hb dX10_sets_123 hl (by decide) rfl (fun ls hl => ?_)
                      refine lv_iload_n hx hb dX10_sets_125 rfl (lv_at hl 3 rfl) ?_
                      refine lv_if_ne (tgt := 139) hx hb dX10_sets_126 (by decide) (fun c17 => ?_) (fun c17 => ?_)
                      · have hc17 := c17
                        have q17 := q_ne hc17
                        refine lv_iload_n hx hb dX10_sets_139 rfl (lv_at hl 3 rfl) ?_
                        refine lv_iconst (v := (1)) hx hb dX10_sets_140 (by decide) ?_
                        refine lv_icmp_ne (tgt := 154) hx hb dX10_sets_141 (by decide) (fun c18 => ?_) (fun c18 => ?_)
                        · have hc18 := c18
                          have q18 := q_ne hc18
                          refine lv_iload_n hx hb dX10_sets_154 rfl (lv_at hl 3 rfl) ?_
                          refine lv_iconst (v := (2)) hx hb dX10_sets_155 (by decide) ?_
                          refine lv_icmp_ne (tgt := 169) hx hb dX10_sets_156 (by decide) (fun c19 => ?_) (fun c19 => ?_)
                          · have hc19 := c19
                            have q19 := q_ne hc19
                            refine lv_aload_n hx hb dX10_sets_169 rfl (lv_at hl 1 rfl) ?_
                            refine m_getr (1000) 16 (1016) hx hb hts hown hE oc10 hM hJ.1 rfl (by decide) rfl (hJ.2 16 (by decide)).2 (by decide) tb_1193 dX10_sets_170 ?_
                            refine lv_iload_n hx hb dX10_sets_173 rfl (lv_at hl 2 rfl) ?_
                            refine lv_iload_n hx hb dX10_sets_174 rfl (lv_at hl 4 rfl) ?_
                            refine m_iast (1016) hx hb hE hM hS (hJ.2 16 (by decide)).1 rfl (vp_in_iff.mpr (by omega)) dX10_sets_175 (fun H locs I20 eI20 hM hS => ?_)
                            subst eI20
                            have hI := hI.putF (n := 1016) (k := ((a0).toNatClampNeg)) (v := a2) rfl
                            have hK := hK.put (n := 1016) (k := ((a0).toNatClampNeg)) (v := a2) (by first | rfl | simp [inR])
                            refine lv_iload hx hb dX10_sets_176 (lv_at hl 0 rfl) ?_
                            have hsr : srow a1 = 16 := by unfold srow; rw [if_neg (by omega), if_neg (by omega), if_neg (by omega)]
                            exact m_iret hx hb hr hlocks hM hS (Nat.le_of_ble_eq_true rfl) (Nat.le_of_ble_eq_true rfl) ⟨_, _, rfl, hI, hK, (Or.inl ⟨⟨by omega, by unfold okE; omega⟩, by rw [hsr]; rfl, by rw [hsr]; exact (live_st (n := 16) EqV.rf)⟩)⟩ dX10_sets_178
                          · have hc19 := c19
                            have q19 := q_eq hc19
                            refine lv_aload_n hx hb dX10_sets_159 rfl (lv_at hl 1 rfl) ?_
                            refine m_getr (1000) 15 (1015) hx hb hts hown hE oc10 hM hJ.1 rfl (by decide) rfl (hJ.2 15 (by decide)).2 (by decide) tb_1192 dX10_sets_160 ?_
                            refine lv_iload_n hx hb dX10_sets_163 rfl (lv_at hl 2 rfl) ?_
                            refine lv_iload_n hx hb dX10_sets_164 rfl (lv_at hl 4 rfl) ?_
                            refine m_iast (1015) hx hb hE hM hS (hJ.2 15 (by decide)).1 rfl (vp_in_iff.mpr (by omega)) dX10_sets_165 (fun H locs I21 eI21 hM hS => ?_)
                            subst eI21
                            have hI := hI.putF (n := 1015) (k := ((a0).toNatClampNeg)) (v := a2) rfl
                            have hK := hK.put (n := 1015) (k := ((a0).toNatClampNeg)) (v := a2) (by first | rfl | simp [inR])
                            refine lv_goto (tgt := 176) hx hb dX10_sets_166 (by decide) ?_
                            refine lv_iload hx hb dX10_sets_176 (lv_at hl 0 rfl) ?_
                            exact m_iret hx hb hr hlocks hM hS (Nat.le_of_ble_eq_true rfl) (Nat.le_of_ble_eq_true rfl) ⟨_, _, rfl, hI, hK, (by exfalso; omega)⟩ dX10_sets_178
                        · have hc18 := c18
                          have q18 := q_eq hc18
                          refine lv_aload_n hx hb dX10_sets_144 rfl (lv_at hl 1 rfl) ?_
                          refine m_getr (1000) 14 (1014) hx hb hts hown hE oc10 hM hJ.1 rfl (by decide) rfl (hJ.2 14 (by decide)).2 (by decide) tb_1191 dX10_sets_145 ?_
                          refine lv_iload_n hx hb dX10_sets_148 rfl (lv_at hl 2 rfl) ?_
                          refine lv_iload_n hx hb dX10_sets_149 rfl (lv_at hl 4 rfl) ?_
                          refine m_iast (1014) hx hb hE hM hS (hJ.2 14 (by decide)).1 rfl (vp_in_iff.mpr (by omega)) dX10_sets_150 (fun H locs I22 eI22 hM hS => ?_)
                          subst eI22
                          have hI := hI.putF (n := 1014) (k := ((a0).toNatClampNeg)) (v := a2) rfl
                          have hK := hK.put (n := 1014) (k := ((a0).toNatClampNeg)) (v := a2) (by first | rfl | simp [inR])
                          refine lv_goto (tgt := 176) hx hb dX10_sets_151 (by decide) ?_
                          refine lv_iload hx hb dX10_sets_176 (lv_at hl 0 rfl) ?_
                          exact m_iret hx hb hr hlocks hM hS (Nat.le_of_ble_eq_true rfl) (Nat.le_of_ble_eq_true rfl) ⟨_, _, rfl, hI, hK, (by exfalso; omega)⟩ dX10_sets_178
                      · have hc17 := c17
                        have q17 := q_eq hc17
                        refine lv_aload_n hx hb dX10_sets_129 rfl (lv_at hl 1 rfl) ?_
                        refine m_getr (1000) 9 (1009) hx hb hts hown hE oc10 hM hJ.1 rfl (by decide) rfl (hJ.2 9 (by decide)).2 (by decide) tb_1186 dX10_sets_130 ?_
                        refine lv_iload_n hx hb dX10_sets_133 rfl (lv_at hl 2 rfl) ?_
                        refine lv_iload_n hx hb dX10_sets_134 rfl (lv_at hl 4 rfl) ?_
                        refine m_iast (1009) hx hb hE hM hS (hJ.2 9 (by decide)).1 rfl (vp_in_iff.mpr (by omega)) dX10_sets_135 (fun H locs I23 eI23 hM hS => ?_)
                        subst eI23
                        have hI := hI.putF (n := 1009) (k := ((a0).toNatClampNeg)) (v := a2) rfl
                        have hK := hK.put (n := 1009) (k := ((a0).toNatClampNeg)) (v := a2) (by first | rfl | simp [inR])
                        refine lv_goto (tgt := 176) hx hb dX10_sets_136 (by decide) ?_
                        refine lv_iload hx hb dX10_sets_176 (lv_at hl 0 rfl) ?_
                        exact m_iret hx hb hr hlocks hM hS (Nat.le_of_ble_eq_true rfl) (Nat.le_of_ble_eq_true rfl) ⟨_, _, rfl, hI, hK, (by exfalso; omega)⟩ dX10_sets_178
                    · have hc16 := c16
                      have q16 := q_eq hc16
                      refine lv_aload_n hx hb dX10_sets_108 rfl (lv_at hl 0 rfl) ?_
                      refine m_getr (1000) 15 (1015) hx hb hts hown hE oc10 hM hJ.1 rfl (by decide) rfl (hJ.2 15 (by decide)).2 (by decide) tb_1192 dX10_sets_109 ?_
                      refine lv_iload_n hx hb dX10_sets_112 rfl (lv_at hl 1 rfl) ?_
                      refine m_iald (1015) hx hb hE hM (hJ.2 15 (by decide)).1 rfl (vp_in_iff.mpr (by omega)) dX10_sets_113 ?_
                      refine lv_goto (tgt := 123) hx hb dX10_sets_114 (by decide) ?_
                      refine lv_istore (lv' := [(4, .int (I (1015) (a0).toNatClampNeg)), (0, .ref (ad (1000))), (1, .int (a0)), (2, .int (a1)), (3, .int (a2))]) hx hb dX10_sets_123 hl (by decide) rfl (fun ls hl => ?_)
                      refine lv_iload_n hx hb dX10_sets_125 rfl (lv_at hl 3 rfl) ?_
                      refine lv_if_ne (tgt := 139) hx hb dX10_sets_126 (by decide) (fun c24 => ?_) (fun c24 => ?_)
                      · have hc24 := c24
                        have q24 := q_ne hc24
                        refine lv_iload_n hx hb dX10_sets_139 rfl (lv_at hl 3 rfl) ?_
                        refine lv_iconst (v := (1)) hx hb dX10_sets_140 (by decide) ?_
                        refine lv_icmp_ne (tgt := 154) hx hb dX10_sets_141 (by decide) (fun c25 => ?_) (fun c25 => ?_)
                        · have hc25 := c25
                          have q25 := q_ne hc25
                          refine lv_iload_n hx hb dX10_sets_154 rfl (lv_at hl 3 rfl) ?_
                          refine lv_iconst (v := (2)) hx hb dX10_sets_155 (by decide) ?_
                          refine lv_icmp_ne (tgt := 169) hx hb dX10_sets_156 (by decide) (fun c26 => ?_) (fun c26 => ?_)
                          · have hc26 := c26
                            have q26 := q_ne hc26
                            refine lv_aload_n hx hb dX10_sets_169 rfl (lv_at hl 1 rfl) ?_
                            refine m_getr (1000) 16 (1016) hx hb hts hown hE oc10 hM hJ.1 rfl (by decide) rfl (hJ.2 16 (by decide)).2 (by decide) tb_1193 dX10_sets_170 ?_
                            refine lv_iload_n hx hb dX10_sets_173 rfl (lv_at hl 2 rfl) ?_
                            refine lv_iload_n hx hb dX10_sets_174 rfl (lv_at hl 4 rfl) ?_
                            refine m_iast (1016) hx hb hE hM hS (hJ.2 16 (by decide)).1 rfl (vp_in_iff.mpr (by omega)) dX10_sets_175 (fun H locs I27 eI27 hM hS => ?_)
                            subst eI27
                            have hI := hI.putF (n := 1016) (k := ((a0).toNatClampNeg)) (v := a2) rfl
                            have hK := hK.put (n := 1016) (k := ((a0).toNatClampNeg)) (v := a2) (by first | rfl | simp [inR])
                            refine lv_iload hx hb dX10_sets_176 (lv_at hl 0 rfl) ?_
                            exact m_iret hx hb hr hlocks hM hS (Nat.le_of_ble_eq_true rfl) (Nat.le_of_ble_eq_true rfl) ⟨_, _, rfl, hI, hK, (by exfalso; omega)⟩ dX10_sets_178
                          · have hc26 := c26
                            have q26 := q_eq hc26
                            refine lv_aload_n hx hb dX10_sets_159 rfl (lv_at hl 1 rfl) ?_
                            refine m_getr (1000) 15 (1015) hx hb hts hown hE oc10 hM hJ.1 rfl (by decide) rfl (hJ.2 15 (by decide)).2 (by decide) tb_1192 dX10_sets_160 ?_
                            refine lv_iload_n hx hb dX10_sets_163 rfl (lv_at hl 2 rfl) ?_
                            refine lv_iload_n hx hb dX10_sets_164 rfl (lv_at hl 4 rfl) ?_
                            refine m_iast (1015) hx hb hE hM hS (hJ.2 15 (by decide)).1 rfl (vp_in_iff.mpr (by omega)) dX10_sets_165 (fun H locs I28 eI28 hM hS => ?_)
                            subst eI28
                            have hI := hI.putF (n := 1015) (k := ((a0).toNatClampNeg)) (v := a2) rfl
                            have hK := hK.put (n := 1015) (k := ((a0).toNatClampNeg)) (v := a2) (by first | rfl | simp [inR])
                            refine lv_goto (tgt := 176) hx hb dX10_sets_166 (by decide) ?_
                            refine lv_iload hx hb dX10_sets_176 (lv_at hl 0 rfl) ?_
                            have hsr : srow a1 = 15 := by unfold srow; rw [if_neg (by omega), if_neg (by omega), if_pos (by omega)]
                            exact m_iret hx hb hr hlocks hM hS (Nat.le_of_ble_eq_true rfl) (Nat.le_of_ble_eq_true rfl) ⟨_, _, rfl, hI, hK, (Or.inl ⟨⟨by omega, by unfold okE; omega⟩, by rw [hsr]; rfl, by rw [hsr]; exact (live_st (n := 15) EqV.rf)⟩)⟩ dX10_sets_178
                        · have hc25 := c25
                          have q25 := q_eq hc25
                          refine lv_aload_n hx hb dX10_sets_144 rfl (lv_at hl 1 rfl) ?_
                          refine m_getr (1000) 14 (1014) hx hb hts hown hE oc10 hM hJ.1 rfl (by decide) rfl (hJ.2 14 (by decide)).2 (by decide) tb_1191 dX10_sets_145 ?_
                          refine lv_iload_n hx hb dX10_sets_148 rfl (lv_at hl 2 rfl) ?_
                          refine lv_iload_n hx hb dX10_sets_149 rfl (lv_at hl 4 rfl) ?_
                          refine m_iast (1014) hx hb hE hM hS (hJ.2 14 (by decide)).1 rfl (vp_in_iff.mpr (by omega)) dX10_sets_150 (fun H locs I29 eI29 hM hS => ?_)
                          subst eI29
                          have hI := hI.putF (n := 1014) (k := ((a0).toNatClampNeg)) (v := a2) rfl
                          have hK := hK.put (n := 1014) (k := ((a0).toNatClampNeg)) (v := a2) (by first | rfl | simp [inR])
                          refine lv_goto (tgt := 176) hx hb dX10_sets_151 (by decide) ?_
                          refine lv_iload hx hb dX10_sets_176 (lv_at hl 0 rfl) ?_
                          exact m_iret hx hb hr hlocks hM hS (Nat.le_of_ble_eq_true rfl) (Nat.le_of_ble_eq_true rfl) ⟨_, _, rfl, hI, hK, (by exfalso; omega)⟩ dX10_sets_178
                      · have hc24 := c24
                        have q24 := q_eq hc24
                        refine lv_aload_n hx hb dX10_sets_129 rfl (lv_at hl 1 rfl) ?_
                        refine m_getr (1000) 9 (1009) hx hb hts hown hE oc10 hM hJ.1 rfl (by decide) rfl (hJ.2 9 (by decide)).2 (by decide) tb_1186 dX10_sets_130 ?_
                        refine lv_iload_n hx hb dX10_sets_133 rfl (lv_at hl 2 rfl) ?_
                        refine lv_iload_n hx hb dX10_sets_134 rfl (lv_at hl 4 rfl) ?_
                        refine m_iast (1009) hx hb hE hM hS (hJ.2 9 (by decide)).1 rfl (vp_in_iff.mpr (by omega)) dX10_sets_135 (fun H locs I30 eI30 hM hS => ?_)
                        subst eI30
                        have hI := hI.putF (n := 1009) (k := ((a0).toNatClampNeg)) (v := a2) rfl
                        have hK := hK.put (n := 1009) (k := ((a0).toNatClampNeg)) (v := a2) (by first | rfl | simp [inR])
                        refine lv_goto (tgt := 176) hx hb dX10_sets_136 (by decide) ?_
                        refine lv_iload hx hb dX10_sets_176 (lv_at hl 0 rfl) ?_
                        exact m_iret hx hb hr hlocks hM hS (Nat.le_of_ble_eq_true rfl) (Nat.le_of_ble_eq_true rfl) ⟨_, _, rfl, hI, hK, (by exfalso; omega)⟩ dX10_sets_178
                  · have hc15 := c15
                    have q15 := q_eq hc15
                    refine lv_aload_n hx hb dX10_sets_94 rfl (lv_at hl 0 rfl) ?_
                    refine m_getr (1000) 14 (1014) hx hb hts hown hE oc10 hM hJ.1 rfl (by decide) rfl (hJ.2 14 (by decide)).2 (by decide) tb_1191 dX10_sets_95 ?_
                    refine lv_iload_n hx hb dX10_sets_98 rfl (lv_at hl 1 rfl) ?_
                    refine m_iald (1014) hx hb hE hM (hJ.2 14 (by decide)).1 rfl (vp_in_iff.mpr (by omega)) dX10_sets_99 ?_
                    refine lv_goto (tgt := 123) hx hb dX10_sets_100 (by decide) ?_
                    refine lv_istore (lv' := [(4, .int (I (1014) (a0).toNatClampNeg)), (0, .ref (ad (1000))), (1, .int (a0)), (2, .int (a1)), (3, .int (a2))]) hx hb dX10_sets_123 hl (by decide) rfl (fun ls hl => ?_)
                    refine lv_iload_n hx hb dX10_sets_125 rfl (lv_at hl 3 rfl) ?_
                    refine lv_if_ne (tgt := 139) hx hb dX10_sets_126 (by decide) (fun c31 => ?_) (fun c31 => ?_)
                    · have hc31 := c31
                      have q31 := q_ne hc31
                      refine lv_iload_n hx hb dX10_sets_139 rfl (lv_at hl 3 rfl) ?_
                      refine lv_iconst (v := (1)) hx hb dX10_sets_140 (by decide) ?_
                      refine lv_icmp_ne (tgt := 154) hx hb dX10_sets_141 (by decide) (fun c32 => ?_) (fun c32 => ?_)
                      · have hc32 := c32
                        have q32 := q_ne hc32
                        refine lv_iload_n hx hb dX10_sets_154 rfl (lv_at hl 3 rfl) ?_
                        refine lv_iconst (v := (2)) hx hb dX10_sets_155 (by decide) ?_
                        refine lv_icmp_ne (tgt := 169) hx hb dX10_sets_156 (by decide) (fun c33 => ?_) (fun c33 => ?_)
                        · have hc33 := c33
                          have q33 := q_ne hc33
                          refine lv_aload_n hx hb dX10_sets_169 rfl (lv_at hl 1 rfl) ?_
                          refine m_getr (1000) 16 (1016) hx hb hts hown hE oc10 hM hJ.1 rfl (by decide) rfl (hJ.2 16 (by decide)).2 (by decide) tb_1193 dX10_sets_170 ?_
                          refine lv_iload_n hx hb dX10_sets_173 rfl (lv_at hl 2 rfl) ?_
                          refine lv_iload_n hx hb dX10_sets_174 rfl (lv_at hl 4 rfl) ?_
                          refine m_iast (1016) hx hb hE hM hS (hJ.2 16 (by decide)).1 rfl (vp_in_iff.mpr (by omega)) dX10_sets_175 (fun H locs I34 eI34 hM hS => ?_)
                          subst eI34
                          have hI := hI.putF (n := 1016) (k := ((a0).toNatClampNeg)) (v := a2) rfl
                          have hK := hK.put (n := 1016) (k := ((a0).toNatClampNeg)) (v := a2) (by first | rfl | simp [inR])
                          refine lv_iload hx hb dX10_sets_176 (lv_at hl 0 rfl) ?_
                          exact m_iret hx hb hr hlocks hM hS (Nat.le_of_ble_eq_true rfl) (Nat.le_of_ble_eq_true rfl) ⟨_, _, rfl, hI, hK, (by exfalso; omega)⟩ dX10_sets_178
                        · have hc33 := c33
                          have q33 := q_eq hc33
                          refine lv_aload_n hx hb dX10_sets_159 rfl (lv_at hl 1 rfl) ?_
                          refine m_getr (1000) 15 (1015) hx hb hts hown hE oc10 hM hJ.1 rfl (by decide) rfl (hJ.2 15 (by decide)).2 (by decide) tb_1192 dX10_sets_160 ?_
                          refine lv_iload_n hx hb dX10_sets_163 rfl (lv_at hl 2 rfl) ?_
                          refine lv_iload_n hx hb dX10_sets_164 rfl (lv_at hl 4 rfl) ?_
                          refine m_iast (1015) hx hb hE hM hS (hJ.2 15 (by decide)).1 rfl (vp_in_iff.mpr (by omega)) dX10_sets_165 (fun H locs I35 eI35 hM hS => ?_)
                          subst eI35
                          have hI := hI.putF (n := 1015) (k := ((a0).toNatClampNeg)) (v := a2) rfl
                          have hK := hK.put (n := 1015) (k := ((a0).toNatClampNeg)) (v := a2) (by first | rfl | simp [inR])
                          refine lv_goto (tgt := 176) hx hb dX10_sets_166 (by decide) ?_
                          refine lv_iload hx hb dX10_sets_176 (lv_at hl 0 rfl) ?_
                          exact m_iret hx hb hr hlocks hM hS (Nat.le_of_ble_eq_true rfl) (Nat.le_of_ble_eq_true rfl) ⟨_, _, rfl, hI, hK, (by exfalso; omega)⟩ dX10_sets_178
                      · have hc32 := c32
                        have q32 := q_eq hc32
                        refine lv_aload_n hx hb dX10_sets_144 rfl (lv_at hl 1 rfl) ?_
                        refine m_getr (1000) 14 (1014) hx hb hts hown hE oc10 hM hJ.1 rfl (by decide) rfl (hJ.2 14 (by decide)).2 (by decide) tb_1191 dX10_sets_145 ?_
                        refine lv_iload_n hx hb dX10_sets_148 rfl (lv_at hl 2 rfl) ?_
                        refine lv_iload_n hx hb dX10_sets_149 rfl (lv_at hl 4 rfl) ?_
                        refine m_iast (1014) hx hb hE hM hS (hJ.2 14 (by decide)).1 rfl (vp_in_iff.mpr (by omega)) dX10_sets_150 (fun H locs I36 eI36 hM hS => ?_)
                        subst eI36
                        have hI := hI.putF (n := 1014) (k := ((a0).toNatClampNeg)) (v := a2) rfl
                        have hK := hK.put (n := 1014) (k := ((a0).toNatClampNeg)) (v := a2) (by first | rfl | simp [inR])
                        refine lv_goto (tgt := 176) hx hb dX10_sets_151 (by decide) ?_
                        refine lv_iload hx hb dX10_sets_176 (lv_at hl 0 rfl) ?_
                        have hsr : srow a1 = 14 := by unfold srow; rw [if_neg (by omega), if_pos (by omega)]
                        exact m_iret hx hb hr hlocks hM hS (Nat.le_of_ble_eq_true rfl) (Nat.le_of_ble_eq_true rfl) ⟨_, _, rfl, hI, hK, (Or.inl ⟨⟨by omega, by unfold okE; omega⟩, by rw [hsr]; rfl, by rw [hsr]; exact (live_st (n := 14) EqV.rf)⟩)⟩ dX10_sets_178
                    · have hc31 := c31
                      have q31 := q_eq hc31
                      refine lv_aload_n hx hb dX10_sets_129 rfl (lv_at hl 1 rfl) ?_
                      refine m_getr (1000) 9 (1009) hx hb hts hown hE oc10 hM hJ.1 rfl (by decide) rfl (hJ.2 9 (by decide)).2 (by decide) tb_1186 dX10_sets_130 ?_
                      refine lv_iload_n hx hb dX10_sets_133 rfl (lv_at hl 2 rfl) ?_
                      refine lv_iload_n hx hb dX10_sets_134 rfl (lv_at hl 4 rfl) ?_
                      refine m_iast (1009) hx hb hE hM hS (hJ.2 9 (by decide)).1 rfl (vp_in_iff.mpr (by omega)) dX10_sets_135 (fun H locs I37 eI37 hM hS => ?_)
                      subst eI37
                      have hI := hI.putF (n := 1009) (k := ((a0).toNatClampNeg)) (v := a2) rfl
                      have hK := hK.put (n := 1009) (k := ((a0).toNatClampNeg)) (v := a2) (by first | rfl | simp [inR])
                      refine lv_goto (tgt := 176) hx hb dX10_sets_136 (by decide) ?_
                      refine lv_iload hx hb dX10_sets_176 (lv_at hl 0 rfl) ?_
                      exact m_iret hx hb hr hlocks hM hS (Nat.le_of_ble_eq_true rfl) (Nat.le_of_ble_eq_true rfl) ⟨_, _, rfl, hI, hK, (by exfalso; omega)⟩ dX10_sets_178
                · have hc14 := c14
                  have q14 := q_eq hc14
                  refine lv_aload_n hx hb dX10_sets_80 rfl (lv_at hl 0 rfl) ?_
                  refine m_getr (1000) 9 (1009) hx hb hts hown hE oc10 hM hJ.1 rfl (by decide) rfl (hJ.2 9 (by decide)).2 (by decide) tb_1186 dX10_sets_81 ?_
                  refine lv_iload_n hx hb dX10_sets_84 rfl (lv_at hl 1 rfl) ?_
                  refine m_iald (1009) hx hb hE hM (hJ.2 9 (by decide)).1 rfl (vp_in_iff.mpr (by omega)) dX10_sets_85 ?_
                  refine lv_goto (tgt := 123) hx hb dX10_sets_86 (by decide) ?_
                  refine lv_istore (lv' := [(4, .int (I (1009) (a0).toNatClampNeg)), (0, .ref (ad (1000))), (1, .int (a0)), (2, .int (a1)), (3, .int (a2))]) hx hb dX10_sets_123 hl (by decide) rfl (fun ls hl => ?_)
                  refine lv_iload_n hx hb dX10_sets_125 rfl (lv_at hl 3 rfl) ?_
                  refine lv_if_ne (tgt := 139) hx hb dX10_sets_126 (by decide) (fun c38 => ?_) (fun c38 => ?_)
                  · have hc38 := c38
                    have q38 := q_ne hc38
                    refine lv_iload_n hx hb dX10_sets_139 rfl (lv_at hl 3 rfl) ?_
                    refine lv_iconst (v := (1)) hx hb dX10_sets_140 (by decide) ?_
                    refine lv_icmp_ne (tgt := 154) hx hb dX10_sets_141 (by decide) (fun c39 => ?_) (fun c39 => ?_)
                    · have hc39 := c39
                      have q39 := q_ne hc39
                      refine lv_iload_n hx hb dX10_sets_154 rfl (lv_at hl 3 rfl) ?_
                      refine lv_iconst (v := (2)) hx hb dX10_sets_155 (by decide) ?_
                      refine lv_icmp_ne (tgt := 169) hx hb dX10_sets_156 (by decide) (fun c40 => ?_) (fun c40 => ?_)
                      · have hc40 := c40
                        have q40 := q_ne hc40
                        refine lv_aload_n hx hb dX10_sets_169 rfl (lv_at hl 1 rfl) ?_
                        refine m_getr (1000) 16 (1016) hx hb hts hown hE oc10 hM hJ.1 rfl (by decide) rfl (hJ.2 16 (by decide)).2 (by decide) tb_1193 dX10_sets_170 ?_
                        refine lv_iload_n hx hb dX10_sets_173 rfl (lv_at hl 2 rfl) ?_
                        refine lv_iload_n hx hb dX10_sets_174 rfl (lv_at hl 4 rfl) ?_
                        refine m_iast (1016) hx hb hE hM hS (hJ.2 16 (by decide)).1 rfl (vp_in_iff.mpr (by omega)) dX10_sets_175 (fun H locs I41 eI41 hM hS => ?_)
                        subst eI41
                        have hI := hI.putF (n := 1016) (k := ((a0).toNatClampNeg)) (v := a2) rfl
                        have hK := hK.put (n := 1016) (k := ((a0).toNatClampNeg)) (v := a2) (by first | rfl | simp [inR])
                        refine lv_iload hx hb dX10_sets_176 (lv_at hl 0 rfl) ?_
                        exact m_iret hx hb hr hlocks hM hS (Nat.le_of_ble_eq_true rfl) (Nat.le_of_ble_eq_true rfl) ⟨_, _, rfl, hI, hK, (by exfalso; omega)⟩ dX10_sets_178
                      · have hc40 := c40
                        have q40 := q_eq hc40
                        refine lv_aload_n hx hb dX10_sets_159 rfl (lv_at hl 1 rfl) ?_
                        refine m_getr (1000) 15 (1015) hx hb hts hown hE oc10 hM hJ.1 rfl (by decide) rfl (hJ.2 15 (by decide)).2 (by decide) tb_1192 dX10_sets_160 ?_
                        refine lv_iload_n hx hb dX10_sets_163 rfl (lv_at hl 2 rfl) ?_
                        refine lv_iload_n hx hb dX10_sets_164 rfl (lv_at hl 4 rfl) ?_
                        refine m_iast (1015) hx hb hE hM hS (hJ.2 15 (by decide)).1 rfl (vp_in_iff.mpr (by omega)) dX10_sets_165 (fun H locs I42 eI42 hM hS => ?_)
                        subst eI42
                        have hI := hI.putF (n := 1015) (k := ((a0).toNatClampNeg)) (v := a2) rfl
                        have hK := hK.put (n := 1015) (k := ((a0).toNatClampNeg)) (v := a2) (by first | rfl | simp [inR])
                        refine lv_goto (tgt := 176) hx hb dX10_sets_166 (by decide) ?_
                        refine lv_iload hx hb dX10_sets_176 (lv_at hl 0 rfl) ?_
                        exact m_iret hx hb hr hlocks hM hS (Nat.le_of_ble_eq_true rfl) (Nat.le_of_ble_eq_true rfl) ⟨_, _, rfl, hI, hK, (by exfalso; omega)⟩ dX10_sets_178
                    · have hc39 := c39
                      have q39 := q_eq hc39
                      refine lv_aload_n hx hb dX10_sets_144 rfl (lv_at hl 1 rfl) ?_
                      refine m_getr (1000) 14 (1014) hx hb hts hown hE oc10 hM hJ.1 rfl (by decide) rfl (hJ.2 14 (by decide)).2 (by decide) tb_1191 dX10_sets_145 ?_
                      refine lv_iload_n hx hb dX10_sets_148 rfl (lv_at hl 2 rfl) ?_
                      refine lv_iload_n hx hb dX10_sets_149 rfl (lv_at hl 4 rfl) ?_
                      refine m_iast (1014) hx hb hE hM hS (hJ.2 14 (by decide)).1 rfl (vp_in_iff.mpr (by omega)) dX10_sets_150 (fun H locs I43 eI43 hM hS => ?_)
                      subst eI43
                      have hI := hI.putF (n := 1014) (k := ((a0).toNatClampNeg)) (v := a2) rfl
                      have hK := hK.put (n := 1014) (k := ((a0).toNatClampNeg)) (v := a2) (by first | rfl | simp [inR])
                      refine lv_goto (tgt := 176) hx hb dX10_sets_151 (by decide) ?_
                      refine lv_iload hx hb dX10_sets_176 (lv_at hl 0 rfl) ?_
                      exact m_iret hx hb hr hlocks hM hS (Nat.le_of_ble_eq_true rfl) (Nat.le_of_ble_eq_true rfl) ⟨_, _, rfl, hI, hK, (by exfalso; omega)⟩ dX10_sets_178
                  · have hc38 := c38
                    have q38 := q_eq hc38
                    refine lv_aload_n hx hb dX10_sets_129 rfl (lv_at hl 1 rfl) ?_
                    refine m_getr (1000) 9 (1009) hx hb hts hown hE oc10 hM hJ.1 rfl (by decide) rfl (hJ.2 9 (by decide)).2 (by decide) tb_1186 dX10_sets_130 ?_
                    refine lv_iload_n hx hb dX10_sets_133 rfl (lv_at hl 2 rfl) ?_
                    refine lv_iload_n hx hb dX10_sets_134 rfl (lv_at hl 4 rfl) ?_
                    refine m_iast (1009) hx hb hE hM hS (hJ.2 9 (by decide)).1 rfl (vp_in_iff.mpr (by omega)) dX10_sets_135 (fun H locs I44 eI44 hM hS => ?_)
                    subst eI44
                    have hI := hI.putF (n := 1009) (k := ((a0).toNatClampNeg)) (v := a2) rfl
                    have hK := hK.put (n := 1009) (k := ((a0).toNatClampNeg)) (v := a2) (by first | rfl | simp [inR])
                    refine lv_goto (tgt := 176) hx hb dX10_sets_136 (by decide) ?_
                    refine lv_iload hx hb dX10_sets_176 (lv_at hl 0 rfl) ?_
                    have hsr : srow a1 = 9 := by unfold srow; rw [if_pos (by omega)]
                    exact m_iret hx hb hr hlocks hM hS (Nat.le_of_ble_eq_true rfl) (Nat.le_of_ble_eq_true rfl) ⟨_, _, rfl, hI, hK, (Or.inl ⟨⟨by omega, by unfold okE; omega⟩, by rw [hsr]; rfl, by rw [hsr]; exact (live_st (n := 9) EqV.rf)⟩)⟩ dX10_sets_178
              · have hc13 := c13
                have q13 := xr12.f hc13
                refine lv_bipush (v := (-2)) hx hb dX10_sets_73 (by decide) ?_
                exact m_iret hx hb hr hlocks hM hS (Nat.le_of_ble_eq_true rfl) (Nat.le_of_ble_eq_true rfl) ⟨_, _, rfl, hI, hK, (Or.inr ⟨fun hh => by have h2 := hh.2; unfold okE at h2; omega, rfl, rfl⟩)⟩ dX10_sets_75
            · have hc11 := c11
              have q11 := q_eq hc11
              refine lv_lconst (v := 1) hx hb dX10_sets_60 (by decide) ?_
              refine lv_goto (tgt := 67) hx hb dX10_sets_61 (by decide) ?_
              refine m_calli (m_runS (As := [.long (v7), .long (0), .long (1)]) (rest := []) hx hb hml hown hts hE hM hS hA ce_X10_in tb_1425 (V_X10_in l D A ad ns I L G (v7) (0) (1) hI) rfl rfl ⟨Nat.le_of_ble_eq_true rfl, Nat.le_of_ble_eq_true rfl⟩  rfl hl.1 rfl (Nat.le_of_ble_eq_true rfl) dX10_sets_67 ⟨Nat.le_of_ble_eq_true rfl, Nat.le_of_ble_eq_true rfl⟩) hS (fun r45 u H locs hw hM hS => ?_)
              obtain ⟨rfl, xr45⟩ := hw
              have hM : Mem D A ad ns I L G H := hM
              have yr45 := bo01 xr45
              refine lv_if_ne (tgt := 76) hx hb dX10_sets_70 (by decide) (fun c46 => ?_) (fun c46 => ?_)
              · have hc46 := c46
                have q46 := xr45.t hc46
                refine lv_iload_n hx hb dX10_sets_76 rfl (lv_at hl 2 rfl) ?_
                refine lv_if_ne (tgt := 89) hx hb dX10_sets_77 (by decide) (fun c47 => ?_) (fun c47 => ?_)
                · have hc47 := c47
                  have q47 := q_ne hc47
                  refine lv_iload_n hx hb dX10_sets_89 rfl (lv_at hl 2 rfl) ?_
                  refine lv_iconst (v := (1)) hx hb dX10_sets_90 (by decide) ?_
                  refine lv_icmp_ne (tgt := 103) hx hb dX10_sets_91 (by decide) (fun c48 => ?_) (fun c48 => ?_)
                  · have hc48 := c48
                    have q48 := q_ne hc48
                    refine lv_iload_n hx hb dX10_sets_103 rfl (lv_at hl 2 rfl) ?_
                    refine lv_iconst (v := (2)) hx hb dX10_sets_104 (by decide) ?_
                    refine lv_icmp_ne (tgt := 117) hx hb dX10_sets_105 (by decide) (fun c49 => ?_) (fun c49 => ?_)
                    · have hc49 := c49
                      have q49 := q_ne hc49
                      refine lv_aload_n hx hb dX10_sets_117 rfl (lv_at hl 0 rfl) ?_
                      refine m_getr (1000) 16 (1016) hx hb hts hown hE oc10 hM hJ.1 rfl (by decide) rfl (hJ.2 16 (by decide)).2 (by decide) tb_1193 dX10_sets_118 ?_
                      refine lv_iload_n hx hb dX10_sets_121 rfl (lv_at hl 1 rfl) ?_
                      refine m_iald (1016) hx hb hE hM (hJ.2 16 (by decide)).1 rfl (vp_in_iff.mpr (by omega)) dX10_sets_122 ?_
                      refine lv_istore (lv' := [(4, .int (I (1016) (a0).toNatClampNeg)), (0, .ref (ad (1000))), (1, .int (a0)), (2, .int (a1)), (3, .int (a2))]) hx hb dX10_sets_123 hl (by decide) rfl (fun ls hl => ?_)
                      refine lv_iload_n hx hb dX10_sets_125 rfl (lv_at hl 3 rfl) ?_
                      refine lv_if_ne (tgt := 139) hx hb dX10_sets_126 (by decide) (fun c50 => ?_) (fun c50 => ?_)
                      · have hc50 := c50
                        have q50 := q_ne hc50
                        refine lv_iload_n hx hb dX10_sets_139 rfl (lv_at hl 3 rfl) ?_
                        refine lv_iconst (v := (1)) hx hb dX10_sets_140 (by decide) ?_
                        refine lv_icmp_ne (tgt := 154) hx hb dX10_sets_141 (by decide) (fun c51 => ?_) (fun c51 => ?_)
                        · have hc51 := c51
                          have q51 := q_ne hc51
                          refine lv_iload_n hx hb dX10_sets_154 rfl (lv_at hl 3 rfl) ?_
                          refine lv_iconst (v := (2)) hx hb dX10_sets_155 (by decide) ?_
                          refine lv_icmp_ne (tgt := 169) hx hb dX10_sets_156 (by decide) (fun c52 => ?_) (fun c52 => ?_)
                          · have hc52 := c52
                            have q52 := q_ne hc52
                            refine lv_aload_n hx hb dX10_sets_169 rfl (lv_at hl 1 rfl) ?_
                            refine m_getr (1000) 16 (1016) hx hb hts hown hE oc10 hM hJ.1 rfl (by decide) rfl (hJ.2 16 (by decide)).2 (by decide) tb_1193 dX10_sets_170 ?_
                            refine lv_iload_n hx hb dX10_sets_173 rfl (lv_at hl 2 rfl) ?_
                            refine lv_iload_n hx hb dX10_sets_174 rfl (lv_at hl 4 rfl) ?_
                            refine m_iast (1016) hx hb hE hM hS (hJ.2 16 (by decide)).1 rfl (vp_in_iff.mpr (by omega)) dX10_sets_175 (fun H locs I53 eI53 hM hS => ?_)
                            subst eI53
                            have hI := hI.putF (n := 1016) (k := ((a0).toNatClampNeg)) (v := a2) rfl
                            have hK := hK.put (n := 1016) (k := ((a0).toNatClampNeg)) (v := a2) (by first | rfl | simp [inR])
                            refine lv_iload hx hb dX10_sets_176 (lv_at hl 0 rfl) ?_
                            have hsr : srow a1 = 16 := by unfold srow; rw [if_neg (by omega), if_neg (by omega), if_neg (by omega)]
                            exact m_iret hx hb hr hlocks hM hS (Nat.le_of_ble_eq_true rfl) (Nat.le_of_ble_eq_true rfl) ⟨_, _, rfl, hI, hK, (Or.inl ⟨⟨by omega, by unfold okE; omega⟩, by rw [hsr]; rfl, by rw [hsr]; exact (live_st (n := 16) EqV.rf)⟩)⟩ dX10_sets_178
                          · have hc52 := c52
                            have q52 := q_eq hc52
                            refine lv_aload_n hx hb dX10_sets_159 rfl (lv_at hl 1 rfl) ?_
                            refine m_getr (1000) 15 (1015) hx hb hts hown hE oc10 hM hJ.1 rfl (by decide) rfl (hJ.2 15 (by decide)).2 (by decide) tb_1192 dX10_sets_160 ?_
                            refine lv_iload_n hx hb dX10_sets_163 rfl (lv_at hl 2 rfl) ?_
                            refine lv_iload_n hx hb dX10_sets_164 rfl (lv_at hl 4 rfl) ?_
                            refine m_iast (1015) hx hb hE hM hS (hJ.2 15 (by decide)).1 rfl (vp_in_iff.mpr (by omega)) dX10_sets_165 (fun H locs I54 eI54 hM hS => ?_)
                            subst eI54
                            have hI := hI.putF (n := 1015) (k := ((a0).toNatClampNeg)) (v := a2) rfl
                            have hK := hK.put (n := 1015) (k := ((a0).toNatClampNeg)) (v := a2) (by first | rfl | simp [inR])
                            refine lv_goto (tgt := 176) hx hb dX10_sets_166 (by decide) ?_
                            refine lv_iload hx hb dX10_sets_176 (lv_at hl 0 rfl) ?_
                            exact m_iret hx hb hr hlocks hM hS (Nat.le_of_ble_eq_true rfl) (Nat.le_of_ble_eq_true rfl) ⟨_, _, rfl, hI, hK, (by exfalso; omega)⟩ dX10_sets_178
                        · have hc51 := c51
                          have q51 := q_eq hc51
                          refine lv_aload_n hx hb dX10_sets_144 rfl (lv_at hl 1 rfl) ?_
                          refine m_getr (1000) 14 (1014) hx hb hts hown hE oc10 hM hJ.1 rfl (by decide) rfl (hJ.2 14 (by decide)).2 (by decide) tb_1191 dX10_sets_145 ?_
                          refine lv_iload_n hx hb dX10_sets_148 rfl (lv_at hl 2 rfl) ?_
                          refine lv_iload_n hx hb dX10_sets_149 rfl (lv_at hl 4 rfl) ?_
                          refine m_iast (1014) hx hb hE hM hS (hJ.2 14 (by decide)).1 rfl (vp_in_iff.mpr (by omega)) dX10_sets_150 (fun H locs I55 eI55 hM hS => ?_)
                          subst eI55
                          have hI := hI.putF (n := 1014) (k := ((a0).toNatClampNeg)) (v := a2) rfl
                          have hK := hK.put (n := 1014) (k := ((a0).toNatClampNeg)) (v := a2) (by first | rfl | simp [inR])
                          refine lv_goto (tgt := 176) hx hb dX10_sets_151 (by decide) ?_
                          refine lv_iload hx hb dX10_sets_176 (lv_at hl 0 rfl) ?_
                          exact m_iret hx hb hr hlocks hM hS (Nat.le_of_ble_eq_true rfl) (Nat.le_of_ble_eq_true rfl) ⟨_, _, rfl, hI, hK, (by exfalso; omega)⟩ dX10_sets_178
                      · have hc50 := c50
                        have q50 := q_eq hc50
                        refine lv_aload_n hx hb dX10_sets_129 rfl (lv_at hl 1 rfl) ?_
                        refine m_getr (1000) 9 (1009) hx hb hts hown hE oc10 hM hJ.1 rfl (by decide) rfl (hJ.2 9 (by decide)).2 (by decide) tb_1186 dX10_sets_130 ?_
                        refine lv_iload_n hx hb dX10_sets_133 rfl (lv_at hl 2 rfl) ?_
                        refine lv_iload_n hx hb dX10_sets_134 rfl (lv_at hl 4 rfl) ?_
                        refine m_iast (1009) hx hb hE hM hS (hJ.2 9 (by decide)).1 rfl (vp_in_iff.mpr (by omega)) dX10_sets_135 (fun H locs I56 eI56 hM hS => ?_)
                        subst eI56
                        have hI := hI.putF (n := 1009) (k := ((a0).toNatClampNeg)) (v := a2) rfl
                        have hK := hK.put (n := 1009) (k := ((a0).toNatClampNeg)) (v := a2) (by first | rfl | simp [inR])
                        refine lv_goto (tgt := 176) hx hb dX10_sets_136 (by decide) ?_
                        refine lv_iload hx hb dX10_sets_176 (lv_at hl 0 rfl) ?_
                        exact m_iret hx hb hr hlocks hM hS (Nat.le_of_ble_eq_true rfl) (Nat.le_of_ble_eq_true rfl) ⟨_, _, rfl, hI, hK, (by exfalso; omega)⟩ dX10_sets_178
                    · have hc49 := c49
                      have q49 := q_eq hc49
                      refine lv_aload_n hx hb dX10_sets_108 rfl (lv_at hl 0 rfl) ?_
                      refine m_getr (1000) 15 (1015) hx hb hts hown hE oc10 hM hJ.1 rfl (by decide) rfl (hJ.2 15 (by decide)).2 (by decide) tb_1192 dX10_sets_109 ?_
                      refine lv_iload_n hx hb dX10_sets_112 rfl (lv_at hl 1 rfl) ?_
                      refine m_iald (1015) hx hb hE hM (hJ.2 15 (by decide)).1 rfl (vp_in_iff.mpr (by omega)) dX10_sets_113 ?_
                      refine lv_goto (tgt := 123) hx hb dX10_sets_114 (by decide) ?_
                      refine lv_istore (lv' := [(4, .int (I (1015) (a0).toNatClampNeg)), (0, .ref (ad (1000))), (1, .int (a0)), (2, .int (a1)), (3, .int (a2))]) hx hb dX10_sets_123 hl (by decide) rfl (fun ls hl => ?_)
                      refine lv_iload_n hx hb dX10_sets_125 rfl (lv_at hl 3 rfl) ?_
                      refine lv_if_ne (tgt := 139) hx hb dX10_sets_126 (by decide) (fun c57 => ?_) (fun c57 => ?_)
                      · have hc57 := c57
                        have q57 := q_ne hc57
                        refine lv_iload_n hx hb dX10_sets_139 rfl (lv_at hl 3 rfl) ?_
                        refine lv_iconst (v := (1)) hx hb dX10_sets_140 (by decide) ?_
                        refine lv_icmp_ne (tgt := 154) hx hb dX10_sets_141 (by decide) (fun c58 => ?_) (fun c58 => ?_)
                        · have hc58 := c58
                          have q58 := q_ne hc58
                          refine lv_iload_n hx hb dX10_sets_154 rfl (lv_at hl 3 rfl) ?_
                          refine lv_iconst (v := (2)) hx hb dX10_sets_155 (by decide) ?_
                          refine lv_icmp_ne (tgt := 169) hx hb dX10_sets_156 (by decide) (fun c59 => ?_) (fun c59 => ?_)
                          · have hc59 := c59
                            have q59 := q_ne hc59
                            refine lv_aload_n hx hb dX10_sets_169 rfl (lv_at hl 1 rfl) ?_
                            refine m_getr (1000) 16 (1016) hx hb hts hown hE oc10 hM hJ.1 rfl (by decide) rfl (hJ.2 16 (by decide)).2 (by decide) tb_1193 dX10_sets_170 ?_
                            refine lv_iload_n hx hb dX10_sets_173 rfl (lv_at hl 2 rfl) ?_
                            refine lv_iload_n hx hb dX10_sets_174 rfl (lv_at hl 4 rfl) ?_
                            refine m_iast (1016) hx hb hE hM hS (hJ.2 16 (by decide)).1 rfl (vp_in_iff.mpr (by omega)) dX10_sets_175 (fun H locs I60 eI60 hM hS => ?_)
                            subst eI60
                            have hI := hI.putF (n := 1016) (k := ((a0).toNatClampNeg)) (v := a2) rfl
                            have hK := hK.put (n := 1016) (k := ((a0).toNatClampNeg)) (v := a2) (by first | rfl | simp [inR])
                            refine lv_iload hx hb dX10_sets_176 (lv_at hl 0 rfl) ?_
                            exact m_iret hx hb hr hlocks hM hS (Nat.le_of_ble_eq_true rfl) (Nat.le_of_ble_eq_true rfl) ⟨_, _, rfl, hI, hK, (by exfalso; omega)⟩ dX10_sets_178
                          · have hc59 := c59
                            have q59 := q_eq hc59
                            refine lv_aload_n hx hb dX10_sets_159 rfl (lv_at hl 1 rfl) ?_
                            refine m_getr (1000) 15 (1015) hx hb hts hown hE oc10 hM hJ.1 rfl (by decide) rfl (hJ.2 15 (by decide)).2 (by decide) tb_1192 dX10_sets_160 ?_
                            refine lv_iload_n hx hb dX10_sets_163 rfl (lv_at hl 2 rfl) ?_
                            refine lv_iload_n hx hb dX10_sets_164 rfl (lv_at hl 4 rfl) ?_
                            refine m_iast (1015) hx hb hE hM hS (hJ.2 15 (by decide)).1 rfl (vp_in_iff.mpr (by omega)) dX10_sets_165 (fun H locs I61 eI61 hM hS => ?_)
                            subst eI61
                            have hI := hI.putF (n := 1015) (k := ((a0).toNatClampNeg)) (v := a2) rfl
                            have hK := hK.put (n := 1015) (k := ((a0).toNatClampNeg)) (v := a2) (by first | rfl | simp [inR])
                            refine lv_goto (tgt := 176) hx hb dX10_sets_166 (by decide) ?_
                            refine lv_iload hx hb dX10_sets_176 (lv_at hl 0 rfl) ?_
                            have hsr : srow a1 = 15 := by unfold srow; rw [if_neg (by omega), if_neg (by omega), if_pos (by omega)]
                            exact m_iret hx hb hr hlocks hM hS (Nat.le_of_ble_eq_true rfl) (Nat.le_of_ble_eq_true rfl) ⟨_, _, rfl, hI, hK, (Or.inl ⟨⟨by omega, by unfold okE; omega⟩, by rw [hsr]; rfl, by rw [hsr]; exact (live_st (n := 15) EqV.rf)⟩)⟩ dX10_sets_178
                        · have hc58 := c58
                          have q58 := q_eq hc58
                          refine lv_aload_n hx hb dX10_sets_144 rfl (lv_at hl 1 rfl) ?_
                          refine m_getr (1000) 14 (1014) hx hb hts hown hE oc10 hM hJ.1 rfl (by decide) rfl (hJ.2 14 (by decide)).2 (by decide) tb_1191 dX10_sets_145 ?_
                          refine lv_iload_n hx hb dX10_sets_148 rfl (lv_at hl 2 rfl) ?_
                          refine lv_iload_n hx hb dX10_sets_149 rfl (lv_at hl 4 rfl) ?_
                          refine m_iast (1014) hx hb hE hM hS (hJ.2 14 (by decide)).1 rfl (vp_in_iff.mpr (by omega)) dX10_sets_150 (fun H locs I62 eI62 hM hS => ?_)
                          subst eI62
                          have hI := hI.putF (n := 1014) (k := ((a0).toNatClampNeg)) (v := a2) rfl
                          have hK := hK.put (n := 1014) (k := ((a0).toNatClampNeg)) (v := a2) (by first | rfl | simp [inR])
                          refine lv_goto (tgt := 176) hx hb dX10_sets_151 (by decide) ?_
                          refine lv_iload hx hb dX10_sets_176 (lv_at hl 0 rfl) ?_
                          exact m_iret hx hb hr hlocks hM hS (Nat.le_of_ble_eq_true rfl) (Nat.le_of_ble_eq_true rfl) ⟨_, _, rfl, hI, hK, (by exfalso; omega)⟩ dX10_sets_178
                      · have hc57 := c57
                        have q57 := q_eq hc57
                        refine lv_aload_n hx hb dX10_sets_129 rfl (lv_at hl 1 rfl) ?_
                        refine m_getr (1000) 9 (1009) hx hb hts hown hE oc10 hM hJ.1 rfl (by decide) rfl (hJ.2 9 (by decide)).2 (by decide) tb_1186 dX10_sets_130 ?_
                        refine lv_iload_n hx hb dX10_sets_133 rfl (lv_at hl 2 rfl) ?_
                        refine lv_iload_n hx hb dX10_sets_134 rfl (lv_at hl 4 rfl) ?_
                        refine m_iast (1009) hx hb hE hM hS (hJ.2 9 (by decide)).1 rfl (vp_in_iff.mpr (by omega)) dX10_sets_135 (fun H locs I63 eI63 hM hS => ?_)
                        subst eI63
                        have hI := hI.putF (n := 1009) (k := ((a0).toNatClampNeg)) (v := a2) rfl
                        have hK := hK.put (n := 1009) (k := ((a0).toNatClampNeg)) (v := a2) (by first | rfl | simp [inR])
                        refine lv_goto (tgt := 176) hx hb dX10_sets_136 (by decide) ?_
                        refine lv_iload hx hb dX10_sets_176 (lv_at hl 0 rfl) ?_
                        exact m_iret hx hb hr hlocks hM hS (Nat.le_of_ble_eq_true rfl) (Nat.le_of_ble_eq_true rfl) ⟨_, _, rfl, hI, hK, (by exfalso; omega)⟩ dX10_sets_178
                  · have hc48 := c48
                    have q48 := q_eq hc48
                    refine lv_aload_n hx hb dX10_sets_94 rfl (lv_at hl 0 rfl) ?_
                    refine m_getr (1000) 14 (1014) hx hb hts hown hE oc10 hM hJ.1 rfl (by decide) rfl (hJ.2 14 (by decide)).2 (by decide) tb_1191 dX10_sets_95 ?_
                    refine lv_iload_n hx hb dX10_sets_98 rfl (lv_at hl 1 rfl) ?_
                    refine m_iald (1014) hx hb hE hM (hJ.2 14 (by decide)).1 rfl (vp_in_iff.mpr (by omega)) dX10_sets_99 ?_
                    refine lv_goto (tgt := 123) hx hb dX10_sets_100 (by decide) ?_
                    refine lv_istore (lv' := [(4, .int (I (1014) (a0).toNatClampNeg)), (0, .ref (ad (1000))), (1, .int (a0)), (2, .int (a1)), (3, .int (a2))]) hx hb dX10_sets_123 hl (by decide) rfl (fun ls hl => ?_)
                    refine lv_iload_n hx hb dX10_sets_125 rfl (lv_at hl 3 rfl) ?_
                    refine lv_if_ne (tgt := 139) hx hb dX10_sets_126 (by decide) (fun c64 => ?_) (fun c64 => ?_)
                    · have hc64 := c64
                      have q64 := q_ne hc64
                      refine lv_iload_n hx hb dX10_sets_139 rfl (lv_at hl 3 rfl) ?_
                      refine lv_iconst (v := (1)) hx hb dX10_sets_140 (by decide) ?_
                      refine lv_icmp_ne (tgt := 154) hx hb dX10_sets_141 (by decide) (fun c65 => ?_) (fun c65 => ?_)
                      · have hc65 := c65
                        have q65 := q_ne hc65
                        refine lv_iload_n hx hb dX10_sets_154 rfl (lv_at hl 3 rfl) ?_
                        refine lv_iconst (v := (2)) hx hb dX10_sets_155 (by decide) ?_
                        refine lv_icmp_ne (tgt := 169) hx hb dX10_sets_156 (by decide) (fun c66 => ?_) (fun c66 => ?_)
                        · have hc66 := c66
                          have q66 := q_ne hc66
                          refine lv_aload_n hx hb dX10_sets_169 rfl (lv_at hl 1 rfl) ?_
                          refine m_getr (1000) 16 (1016) hx hb hts hown hE oc10 hM hJ.1 rfl (by decide) rfl (hJ.2 16 (by decide)).2 (by decide) tb_1193 dX10_sets_170 ?_
                          refine lv_iload_n hx hb dX10_sets_173 rfl (lv_at hl 2 rfl) ?_
                          refine lv_iload_n hx hb dX10_sets_174 rfl (lv_at hl 4 rfl) ?_
                          refine m_iast (1016) hx hb hE hM hS (hJ.2 16 (by decide)).1 rfl (vp_in_iff.mpr (by omega)) dX10_sets_175 (fun H locs I67 eI67 hM hS => ?_)
                          subst eI67
                          have hI := hI.putF (n := 1016) (k := ((a0).toNatClampNeg)) (v := a2) rfl
                          have hK := hK.put (n := 1016) (k := ((a0).toNatClampNeg)) (v := a2) (by first | rfl | simp [inR])
                          refine lv_iload hx hb dX10_sets_176 (lv_at hl 0 rfl) ?_
                          exact m_iret hx hb hr hlocks hM hS (Nat.le_of_ble_eq_true rfl) (Nat.le_of_ble_eq_true rfl) ⟨_, _, rfl, hI, hK, (by exfalso; omega)⟩ dX10_sets_178
                        · have hc66 := c66
                          have q66 := q_eq hc66
                          refine lv_aload_n hx hb dX10_sets_159 rfl (lv_at hl 1 rfl) ?_
                          refine m_getr (1000) 15 (1015) hx hb hts hown hE oc10 hM hJ.1 rfl (by decide) rfl (hJ.2 15 (by decide)).2 (by decide) tb_1192 dX10_sets_160 ?_
                          refine lv_iload_n hx hb dX10_sets_163 rfl (lv_at hl 2 rfl) ?_
                          refine lv_iload_n hx hb dX10_sets_164 rfl (lv_at hl 4 rfl) ?_
                          refine m_iast (1015) hx hb hE hM hS (hJ.2 15 (by decide)).1 rfl (vp_in_iff.mpr (by omega)) dX10_sets_165 (fun H locs I68 eI68 hM hS => ?_)
                          subst eI68
                          have hI := hI.putF (n := 1015) (k := ((a0).toNatClampNeg)) (v := a2) rfl
                          have hK := hK.put (n := 1015) (k := ((a0).toNatClampNeg)) (v := a2) (by first | rfl | simp [inR])
                          refine lv_goto (tgt := 176) hx hb dX10_sets_166 (by decide) ?_
                          refine lv_iload hx hb dX10_sets_176 (lv_at hl 0 rfl) ?_
                          exact m_iret hx hb hr hlocks hM hS (Nat.le_of_ble_eq_true rfl) (Nat.le_of_ble_eq_true rfl) ⟨_, _, rfl, hI, hK, (by exfalso; omega)⟩ dX10_sets_178
                      · have hc65 := c65
                        have q65 := q_eq hc65
                        refine lv_aload_n hx hb dX10_sets_144 rfl (lv_at hl 1 rfl) ?_
                        refine m_getr (1000) 14 (1014) hx hb hts hown hE oc10 hM hJ.1 rfl (by decide) rfl (hJ.2 14 (by decide)).2 (by decide) tb_1191 dX10_sets_145 ?_
                        refine lv_iload_n hx hb dX10_sets_148 rfl (lv_at hl 2 rfl) ?_
                        refine lv_iload_n hx hb dX10_sets_149 rfl (lv_at hl 4 rfl) ?_
                        refine m_iast (1014) hx hb hE hM hS (hJ.2 14 (by decide)).1 rfl (vp_in_iff.mpr (by omega)) dX10_sets_150 (fun H locs I69 eI69 hM hS => ?_)
                        subst eI69
                        have hI := hI.putF (n := 1014) (k := ((a0).toNatClampNeg)) (v := a2) rfl
                        have hK := hK.put (n := 1014) (k := ((a0).toNatClampNeg)) (v := a2) (by first | rfl | simp [inR])
                        refine lv_goto (tgt := 176) hx hb dX10_sets_151 (by decide) ?_
                        refine lv_iload hx hb dX10_sets_176 (lv_at hl 0 rfl) ?_
                        have hsr : srow a1 = 14 := by unfold srow; rw [if_neg (by omega), if_pos (by omega)]
                        exact m_iret hx hb hr hlocks hM hS (Nat.le_of_ble_eq_true rfl) (Nat.le_of_ble_eq_true rfl) ⟨_, _, rfl, hI, hK, (Or.inl ⟨⟨by omega, by unfold okE; omega⟩, by rw [hsr]; rfl, by rw [hsr]; exact (live_st (n := 14) EqV.rf)⟩)⟩ dX10_sets_178
                    · have hc64 := c64
                      have q64 := q_eq hc64
                      refine lv_aload_n hx hb dX10_sets_129 rfl (lv_at hl 1 rfl) ?_
                      refine m_getr (1000) 9 (1009) hx hb hts hown hE oc10 hM hJ.1 rfl (by decide) rfl (hJ.2 9 (by decide)).2 (by decide) tb_1186 dX10_sets_130 ?_
                      refine lv_iload_n hx hb dX10_sets_133 rfl (lv_at hl 2 rfl) ?_
                      refine lv_iload_n hx hb dX10_sets_134 rfl (lv_at hl 4 rfl) ?_
                      refine m_iast (1009) hx hb hE hM hS (hJ.2 9 (by decide)).1 rfl (vp_in_iff.mpr (by omega)) dX10_sets_135 (fun H locs I70 eI70 hM hS => ?_)
                      subst eI70
                      have hI := hI.putF (n := 1009) (k := ((a0).toNatClampNeg)) (v := a2) rfl
                      have hK := hK.put (n := 1009) (k := ((a0).toNatClampNeg)) (v := a2) (by first | rfl | simp [inR])
                      refine lv_goto (tgt := 176) hx hb dX10_sets_136 (by decide) ?_
                      refine lv_iload hx hb dX10_sets_176 (lv_at hl 0 rfl) ?_
                      exact m_iret hx hb hr hlocks hM hS (Nat.le_of_ble_eq_true rfl) (Nat.le_of_ble_eq_true rfl) ⟨_, _, rfl, hI, hK, (by exfalso; omega)⟩ dX10_sets_178
                · have hc47 := c47
                  have q47 := q_eq hc47
                  refine lv_aload_n hx hb dX10_sets_80 rfl (lv_at hl 0 rfl) ?_
                  refine m_getr (1000) 9 (1009) hx hb hts hown hE oc10 hM hJ.1 rfl (by decide) rfl (hJ.2 9 (by decide)).2 (by decide) tb_1186 dX10_sets_81 ?_
                  refine lv_iload_n hx hb dX10_sets_84 rfl (lv_at hl 1 rfl) ?_
                  refine m_iald (1009) hx hb hE hM (hJ.2 9 (by decide)).1 rfl (vp_in_iff.mpr (by omega)) dX10_sets_85 ?_
                  refine lv_goto (tgt := 123) hx hb dX10_sets_86 (by decide) ?_
                  refine lv_istore (lv' := [(4, .int (I (1009) (a0).toNatClampNeg)), (0, .ref (ad (1000))), (1, .int (a0)), (2, .int (a1)), (3, .int (a2))]) hx hb dX10_sets_123 hl (by decide) rfl (fun ls hl => ?_)
                  refine lv_iload_n hx hb dX10_sets_125 rfl (lv_at hl 3 rfl) ?_
                  refine lv_if_ne (tgt := 139) hx hb dX10_sets_126 (by decide) (fun c71 => ?_) (fun c71 => ?_)
                  · have hc71 := c71
                    have q71 := q_ne hc71
                    refine lv_iload_n hx hb dX10_sets_139 rfl (lv_at hl 3 rfl) ?_
                    refine lv_iconst (v := (1)) hx hb dX10_sets_140 (by decide) ?_
                    refine lv_icmp_ne (tgt := 154) hx hb dX10_sets_141 (by decide) (fun c72 => ?_) (fun c72 => ?_)
                    · have hc72 := c72
                      have q72 := q_ne hc72
                      refine lv_iload_n hx hb dX10_sets_154 rfl (lv_at hl 3 rfl) ?_
                      refine lv_iconst (v := (2)) hx hb dX10_sets_155 (by decide) ?_
                      refine lv_icmp_ne (tgt := 169) hx hb dX10_sets_156 (by decide) (fun c73 => ?_) (fun c73 => ?_)
                      · have hc73 := c73
                        have q73 := q_ne hc73
                        refine lv_aload_n hx hb dX10_sets_169 rfl (lv_at hl 1 rfl) ?_
                        refine m_getr (1000) 16 (1016) hx hb hts hown hE oc10 hM hJ.1 rfl (by decide) rfl (hJ.2 16 (by decide)).2 (by decide) tb_1193 dX10_sets_170 ?_
                        refine lv_iload_n hx hb dX10_sets_173 rfl (lv_at hl 2 rfl) ?_
                        refine lv_iload_n hx hb dX10_sets_174 rfl (lv_at hl 4 rfl) ?_
                        refine m_iast (1016) hx hb hE hM hS (hJ.2 16 (by decide)).1 rfl (vp_in_iff.mpr (by omega)) dX10_sets_175 (fun H locs I74 eI74 hM hS => ?_)
                        subst eI74
                        have hI := hI.putF (n := 1016) (k := ((a0).toNatClampNeg)) (v := a2) rfl
                        have hK := hK.put (n := 1016) (k := ((a0).toNatClampNeg)) (v := a2) (by first | rfl | simp [inR])
                        refine lv_iload hx hb dX10_sets_176 (lv_at hl 0 rfl) ?_
                        exact m_iret hx hb hr hlocks hM hS (Nat.le_of_ble_eq_true rfl) (Nat.le_of_ble_eq_true rfl) ⟨_, _, rfl, hI, hK, (by exfalso; omega)⟩ dX10_sets_178
                      · have hc73 := c73
                        have q73 := q_eq hc73
                        refine lv_aload_n hx hb dX10_sets_159 rfl (lv_at hl 1 rfl) ?_
                        refine m_getr (1000) 15 (1015) hx hb hts hown hE oc10 hM hJ.1 rfl (by decide) rfl (hJ.2 15 (by decide)).2 (by decide) tb_1192 dX10_sets_160 ?_
                        refine lv_iload_n hx hb dX10_sets_163 rfl (lv_at hl 2 rfl) ?_
                        refine lv_iload_n hx hb dX10_sets_164 rfl (lv_at hl 4 rfl) ?_
                        refine m_iast (1015) hx hb hE hM hS (hJ.2 15 (by decide)).1 rfl (vp_in_iff.mpr (by omega)) dX10_sets_165 (fun H locs I75 eI75 hM hS => ?_)
                        subst eI75
                        have hI := hI.putF (n := 1015) (k := ((a0).toNatClampNeg)) (v := a2) rfl
                        have hK := hK.put (n := 1015) (k := ((a0).toNatClampNeg)) (v := a2) (by first | rfl | simp [inR])
                        refine lv_goto (tgt := 176) hx hb dX10_sets_166 (by decide) ?_
                        refine lv_iload hx hb dX10_sets_176 (lv_at hl 0 rfl) ?_
                        exact m_iret hx hb hr hlocks hM hS (Nat.le_of_ble_eq_true rfl) (Nat.le_of_ble_eq_true rfl) ⟨_, _, rfl, hI, hK, (by exfalso; omega)⟩ dX10_sets_178
                    · have hc72 := c72
                      have q72 := q_eq hc72
                      refine lv_aload_n hx hb dX10_sets_144 rfl (lv_at hl 1 rfl) ?_
                      refine m_getr (1000) 14 (1014) hx hb hts hown hE oc10 hM hJ.1 rfl (by decide) rfl (hJ.2 14 (by decide)).2 (by decide) tb_1191 dX10_sets_145 ?_
                      refine lv_iload_n hx hb dX10_sets_148 rfl (lv_at hl 2 rfl) ?_
                      refine lv_iload_n hx hb dX10_sets_149 rfl (lv_at hl 4 rfl) ?_
                      refine m_iast (1014) hx hb hE hM hS (hJ.2 14 (by decide)).1 rfl (vp_in_iff.mpr (by omega)) dX10_sets_150 (fun H locs I76 eI76 hM hS => ?_)
                      subst eI76
                      have hI := hI.putF (n := 1014) (k := ((a0).toNatClampNeg)) (v := a2) rfl
                      have hK := hK.put (n := 1014) (k := ((a0).toNatClampNeg)) (v := a2) (by first | rfl | simp [inR])
                      refine lv_goto (tgt := 176) hx hb dX10_sets_151 (by decide) ?_
                      refine lv_iload hx hb dX10_sets_176 (lv_at hl 0 rfl) ?_
                      exact m_iret hx hb hr hlocks hM hS (Nat.le_of_ble_eq_true rfl) (Nat.le_of_ble_eq_true rfl) ⟨_, _, rfl, hI, hK, (by exfalso; omega)⟩ dX10_sets_178
                  · have hc71 := c71
                    have q71 := q_eq hc71
                    refine lv_aload_n hx hb dX10_sets_129 rfl (lv_at hl 1 rfl) ?_
                    refine m_getr (1000) 9 (1009) hx hb hts hown hE oc10 hM hJ.1 rfl (by decide) rfl (hJ.2 9 (by decide)).2 (by decide) tb_1186 dX10_sets_130 ?_
                    refine lv_iload_n hx hb dX10_sets_133 rfl (lv_at hl 2 rfl) ?_
                    refine lv_iload_n hx hb dX10_sets_134 rfl (lv_at hl 4 rfl) ?_
                    refine m_iast (1009) hx hb hE hM hS (hJ.2 9 (by decide)).1 rfl (vp_in_iff.mpr (by omega)) dX10_sets_135 (fun H locs I77 eI77 hM hS => ?_)
                    subst eI77
                    have hI := hI.putF (n := 1009) (k := ((a0).toNatClampNeg)) (v := a2) rfl
                    have hK := hK.put (n := 1009) (k := ((a0).toNatClampNeg)) (v := a2) (by first | rfl | simp [inR])
                    refine lv_goto (tgt := 176) hx hb dX10_sets_136 (by decide) ?_
                    refine lv_iload hx hb dX10_sets_176 (lv_at hl 0 rfl) ?_
                    have hsr : srow a1 = 9 := by unfold srow; rw [if_pos (by omega)]
                    exact m_iret hx hb hr hlocks hM hS (Nat.le_of_ble_eq_true rfl) (Nat.le_of_ble_eq_true rfl) ⟨_, _, rfl, hI, hK, (Or.inl ⟨⟨by omega, by unfold okE; omega⟩, by rw [hsr]; rfl, by rw [hsr]; exact (live_st (n := 9) EqV.rf)⟩)⟩ dX10_sets_178
              · have hc46 := c46
                have q46 := xr45.f hc46
                refine lv_bipush (v := (-2)) hx hb dX10_sets_73 (by decide) ?_
                exact m_iret hx hb hr hlocks hM hS (Nat.le_of_ble_eq_true rfl) (Nat.le_of_ble_eq_true rfl) ⟨_, _, rfl, hI, hK, (Or.inr ⟨fun hh => by have h2 := hh.2; unfold okE at h2; omega, rfl, rfl⟩)⟩ dX10_sets_75
          · have hc10 := c10
            have q10 := q_eq hc10
            refine lv_ldc2 (v := (1000)) hx hb hown (hts _ tb_1428) dX10_sets_49 ?_
            refine lv_goto (tgt := 67) hx hb dX10_sets_52 (by decide) ?_
            refine m_calli (m_runS (As := [.long (v7), .long (0), .long ((1000 : Int64))]) (rest := []) hx hb hml hown hts hE hM hS hA ce_X10_in tb_1425 (V_X10_in l D A ad ns I L G (v7) (0) ((1000 : Int64)) hI) rfl rfl ⟨Nat.le_of_ble_eq_true rfl, Nat.le_of_ble_eq_true rfl⟩  rfl hl.1 rfl (Nat.le_of_ble_eq_true rfl) dX10_sets_67 ⟨Nat.le_of_ble_eq_true rfl, Nat.le_of_ble_eq_true rfl⟩) hS (fun r78 u H locs hw hM hS => ?_)
            obtain ⟨rfl, xr78⟩ := hw
            have hM : Mem D A ad ns I L G H := hM
            have yr78 := bo01 xr78
            refine lv_if_ne (tgt := 76) hx hb dX10_sets_70 (by decide) (fun c79 => ?_) (fun c79 => ?_)
            · have hc79 := c79
              have q79 := xr78.t hc79
              refine lv_iload_n hx hb dX10_sets_76 rfl (lv_at hl 2 rfl) ?_
              refine lv_if_ne (tgt := 89) hx hb dX10_sets_77 (by decide) (fun c80 => ?_) (fun c80 => ?_)
              · have hc80 := c80
                have q80 := q_ne hc80
                refine lv_iload_n hx hb dX10_sets_89 rfl (lv_at hl 2 rfl) ?_
                refine lv_iconst (v := (1)) hx hb dX10_sets_90 (by decide) ?_
                refine lv_icmp_ne (tgt := 103) hx hb dX10_sets_91 (by decide) (fun c81 => ?_) (fun c81 => ?_)
                · have hc81 := c81
                  have q81 := q_ne hc81
                  refine lv_iload_n hx hb dX10_sets_103 rfl (lv_at hl 2 rfl) ?_
                  refine lv_iconst (v := (2)) hx hb dX10_sets_104 (by decide) ?_
                  refine lv_icmp_ne (tgt := 117) hx hb dX10_sets_105 (by decide) (fun c82 => ?_) (fun c82 => ?_)
                  · have hc82 := c82
                    have q82 := q_ne hc82
                    refine lv_aload_n hx hb dX10_sets_117 rfl (lv_at hl 0 rfl) ?_
                    refine m_getr (1000) 16 (1016) hx hb hts hown hE oc10 hM hJ.1 rfl (by decide) rfl (hJ.2 16 (by decide)).2 (by decide) tb_1193 dX10_sets_118 ?_
                    refine lv_iload_n hx hb dX10_sets_121 rfl (lv_at hl 1 rfl) ?_
                    refine m_iald (1016) hx hb hE hM (hJ.2 16 (by decide)).1 rfl (vp_in_iff.mpr (by omega)) dX10_sets_122 ?_
                    refine lv_istore (lv' := [(4, .int (I (1016) (a0).toNatClampNeg)), (0, .ref (ad (1000))), (1, .int (a0)), (2, .int (a1)), (3, .int (a2))]) hx hb dX10_sets_123 hl (by decide) rfl (fun ls hl => ?_)
                    refine lv_iload_n hx hb dX10_sets_125 rfl (lv_at hl 3 rfl) ?_
                    refine lv_if_ne (tgt := 139) hx hb dX10_sets_126 (by decide) (fun c83 => ?_) (fun c83 => ?_)
                    · have hc83 := c83
                      have q83 := q_ne hc83
                      refine lv_iload_n hx hb dX10_sets_139 rfl (lv_at hl 3 rfl) ?_
                      refine lv_iconst (v := (1)) hx hb dX10_sets_140 (by decide) ?_
                      refine lv_icmp_ne (tgt := 154) hx hb dX10_sets_141 (by decide) (fun c84 => ?_) (fun c84 => ?_)
                      · have hc84 := c84
                        have q84 := q_ne hc84
                        refine lv_iload_n hx hb dX10_sets_154 rfl (lv_at hl 3 rfl) ?_
                        refine lv_iconst (v := (2)) hx hb dX10_sets_155 (by decide) ?_
                        refine lv_icmp_ne (tgt := 169) hx hb dX10_sets_156 (by decide) (fun c85 => ?_) (fun c85 => ?_)
                        · have hc85 := c85
                          have q85 := q_ne hc85
                          refine lv_aload_n hx hb dX10_sets_169 rfl (lv_at hl 1 rfl) ?_
                          refine m_getr (1000) 16 (1016) hx hb hts hown hE oc10 hM hJ.1 rfl (by decide) rfl (hJ.2 16 (by decide)).2 (by decide) tb_1193 dX10_sets_170 ?_
                          refine lv_iload_n hx hb dX10_sets_173 rfl (lv_at hl 2 rfl) ?_
                          refine lv_iload_n hx hb dX10_sets_174 rfl (lv_at hl 4 rfl) ?_
                          refine m_iast (1016) hx hb hE hM hS (hJ.2 16 (by decide)).1 rfl (vp_in_iff.mpr (by omega)) dX10_sets_175 (fun H locs I86 eI86 hM hS => ?_)
                          subst eI86
                          have hI := hI.putF (n := 1016) (k := ((a0).toNatClampNeg)) (v := a2) rfl
                          have hK := hK.put (n := 1016) (k := ((a0).toNatClampNeg)) (v := a2) (by first | rfl | simp [inR])
                          refine lv_iload hx hb dX10_sets_176 (lv_at hl 0 rfl) ?_
                          have hsr : srow a1 = 16 := by unfold srow; rw [if_neg (by omega), if_neg (by omega), if_neg (by omega)]
                          exact m_iret hx hb hr hlocks hM hS (Nat.le_of_ble_eq_true rfl) (Nat.le_of_ble_eq_true rfl) ⟨_, _, rfl, hI, hK, (Or.inl ⟨⟨by omega, by unfold okE; omega⟩, by rw [hsr]; rfl, by rw [hsr]; exact (live_st (n := 16) EqV.rf)⟩)⟩ dX10_sets_178
                        · have hc85 := c85
                          have q85 := q_eq hc85
                          refine lv_aload_n hx hb dX10_sets_159 rfl (lv_at hl 1 rfl) ?_
                          refine m_getr (1000) 15 (1015) hx hb hts hown hE oc10 hM hJ.1 rfl (by decide) rfl (hJ.2 15 (by decide)).2 (by decide) tb_1192 dX10_sets_160 ?_
                          refine lv_iload_n hx hb dX10_sets_163 rfl (lv_at hl 2 rfl) ?_
                          refine lv_iload_n hx hb dX10_sets_164 rfl (lv_at hl 4 rfl) ?_
                          refine m_iast (1015) hx hb hE hM hS (hJ.2 15 (by decide)).1 rfl (vp_in_iff.mpr (by omega)) dX10_sets_165 (fun H locs I87 eI87 hM hS => ?_)
                          subst eI87
                          have hI := hI.putF (n := 1015) (k := ((a0).toNatClampNeg)) (v := a2) rfl
                          have hK := hK.put (n := 1015) (k := ((a0).toNatClampNeg)) (v := a2) (by first | rfl | simp [inR])
                          refine lv_goto (tgt := 176) hx hb dX10_sets_166 (by decide) ?_
                          refine lv_iload hx hb dX10_sets_176 (lv_at hl 0 rfl) ?_
                          exact m_iret hx hb hr hlocks hM hS (Nat.le_of_ble_eq_true rfl) (Nat.le_of_ble_eq_true rfl) ⟨_, _, rfl, hI, hK, (by exfalso; omega)⟩ dX10_sets_178
                      · have hc84 := c84
                        have q84 := q_eq hc84
                        refine lv_aload_n hx hb dX10_sets_144 rfl (lv_at hl 1 rfl) ?_
                        refine m_getr (1000) 14 (1014) hx hb hts hown hE oc10 hM hJ.1 rfl (by decide) rfl (hJ.2 14 (by decide)).2 (by decide) tb_1191 dX10_sets_145 ?_
                        refine lv_iload_n hx hb dX10_sets_148 rfl (lv_at hl 2 rfl) ?_
                        refine lv_iload_n hx hb dX10_sets_149 rfl (lv_at hl 4 rfl) ?_
                        refine m_iast (1014) hx hb hE hM hS (hJ.2 14 (by decide)).1 rfl (vp_in_iff.mpr (by omega)) dX10_sets_150 (fun H locs I88 eI88 hM hS => ?_)
                        subst eI88
                        have hI := hI.putF (n := 1014) (k := ((a0).toNatClampNeg)) (v := a2) rfl
                        have hK := hK.put (n := 1014) (k := ((a0).toNatClampNeg)) (v := a2) (by first | rfl | simp [inR])
                        refine lv_goto (tgt := 176) hx hb dX10_sets_151 (by decide) ?_
                        refine lv_iload hx hb dX10_sets_176 (lv_at hl 0 rfl) ?_
                        exact m_iret hx hb hr hlocks hM hS (Nat.le_of_ble_eq_true rfl) (Nat.le_of_ble_eq_true rfl) ⟨_, _, rfl, hI, hK, (by exfalso; omega)⟩ dX10_sets_178
                    · have hc83 := c83
                      have q83 := q_eq hc83
                      refine lv_aload_n hx hb dX10_sets_129 rfl (lv_at hl 1 rfl) ?_
                      refine m_getr (1000) 9 (1009) hx hb hts hown hE oc10 hM hJ.1 rfl (by decide) rfl (hJ.2 9 (by decide)).2 (by decide) tb_1186 dX10_sets_130 ?_
                      refine lv_iload_n hx hb dX10_sets_133 rfl (lv_at hl 2 rfl) ?_
                      refine lv_iload_n hx hb dX10_sets_134 rfl (lv_at hl 4 rfl) ?_
                      refine m_iast (1009) hx hb hE hM hS (hJ.2 9 (by decide)).1 rfl (vp_in_iff.mpr (by omega)) dX10_sets_135 (fun H locs I89 eI89 hM hS => ?_)
                      subst eI89
                      have hI := hI.putF (n := 1009) (k := ((a0).toNatClampNeg)) (v := a2) rfl
                      have hK := hK.put (n := 1009) (k := ((a0).toNatClampNeg)) (v := a2) (by first | rfl | simp [inR])
                      refine lv_goto (tgt := 176) hx hb dX10_sets_136 (by decide) ?_
                      refine lv_iload hx hb dX10_sets_176 (lv_at hl 0 rfl) ?_
                      exact m_iret hx hb hr hlocks hM hS (Nat.le_of_ble_eq_true rfl) (Nat.le_of_ble_eq_true rfl) ⟨_, _, rfl, hI, hK, (by exfalso; omega)⟩ dX10_sets_178
                  · have hc82 := c82
                    have q82 := q_eq hc82
                    refine lv_aload_n hx hb dX10_sets_108 rfl (lv_at hl 0 rfl) ?_
                    refine m_getr (1000) 15 (1015) hx hb hts hown hE oc10 hM hJ.1 rfl (by decide) rfl (hJ.2 15 (by decide)).2 (by decide) tb_1192 dX10_sets_109 ?_
                    refine lv_iload_n hx hb dX10_sets_112 rfl (lv_at hl 1 rfl) ?_
                    refine m_iald (1015) hx hb hE hM (hJ.2 15 (by decide)).1 rfl (vp_in_iff.mpr (by omega)) dX10_sets_113 ?_
                    refine lv_goto (tgt := 123) hx hb dX10_sets_114 (by decide) ?_
                    refine lv_istore (lv' := [(4, .int (I (1015) (a0).toNatClampNeg)), (0, .ref (ad (1000))), (1, .int (a0)), (2, .int (a1)), (3, .int (a2))]) hx hb dX10_sets_123 hl (by decide) rfl (fun ls hl => ?_)
                    refine lv_iload_n hx hb dX10_sets_125 rfl (lv_at hl 3 rfl) ?_
                    refine lv_if_ne (tgt := 139) hx hb dX10_sets_126 (by decide) (fun c90 => ?_) (fun c90 => ?_)
                    · have hc90 := c90
                      have q90 := q_ne hc90
                      refine lv_iload_n hx hb dX10_sets_139 rfl (lv_at hl 3 rfl) ?_
                      refine lv_iconst (v := (1)) hx hb dX10_sets_140 (by decide) ?_
                      refine lv_icmp_ne (tgt := 154) hx hb dX10_sets_141 (by decide) (fun c91 => ?_) (fun c91 => ?_)
                      · have hc91 := c91
                        have q91 := q_ne hc91
                        refine lv_iload_n hx hb dX10_sets_154 rfl (lv_at hl 3 rfl) ?_
                        refine lv_iconst (v := (2)) hx hb dX10_sets_155 (by decide) ?_
                        refine lv_icmp_ne (tgt := 169) hx hb dX10_sets_156 (by decide) (fun c92 => ?_) (fun c92 => ?_)
                        · have hc92 := c92
                          have q92 := q_ne hc92
                          refine lv_aload_n hx hb dX10_sets_169 rfl (lv_at hl 1 rfl) ?_
                          refine m_getr (1000) 16 (1016) hx hb hts hown hE oc10 hM hJ.1 rfl (by decide) rfl (hJ.2 16 (by decide)).2 (by decide) tb_1193 dX10_sets_170 ?_
                          refine lv_iload_n hx hb dX10_sets_173 rfl (lv_at hl 2 rfl) ?_
                          refine lv_iload_n hx hb dX10_sets_174 rfl (lv_at hl 4 rfl) ?_
                          refine m_iast (1016) hx hb hE hM hS (hJ.2 16 (by decide)).1 rfl (vp_in_iff.mpr (by omega)) dX10_sets_175 (fun H locs I93 eI93 hM hS => ?_)
                          subst eI93
                          have hI := hI.putF (n := 1016) (k := ((a0).toNatClampNeg)) (v := a2) rfl
                          have hK := hK.put (n := 1016) (k := ((a0).toNatClampNeg)) (v := a2) (by first | rfl | simp [inR])
                          refine lv_iload hx hb dX10_sets_176 (lv_at hl 0 rfl) ?_
                          exact m_iret hx hb hr hlocks hM hS (Nat.le_of_ble_eq_true rfl) (Nat.le_of_ble_eq_true rfl) ⟨_, _, rfl, hI, hK, (by exfalso; omega)⟩ dX10_sets_178
                        · have hc92 := c92
                          have q92 := q_eq hc92
                          refine lv_aload_n hx hb dX10_sets_159 rfl (lv_at hl 1 rfl) ?_
                          refine m_getr (1000) 15 (1015) hx hb hts hown hE oc10 hM hJ.1 rfl (by decide) rfl (hJ.2 15 (by decide)).2 (by decide) tb_1192 dX10_sets_160 ?_
                          refine lv_iload_n hx hb dX10_sets_163 rfl (lv_at hl 2 rfl) ?_
                          refine lv_iload_n hx hb dX10_sets_164 rfl (lv_at hl 4 rfl) ?_
                          refine m_iast (1015) hx hb hE hM hS (hJ.2 15 (by decide)).1 rfl (vp_in_iff.mpr (by omega)) dX10_sets_165 (fun H locs I94 eI94 hM hS => ?_)
                          subst eI94
                          have hI := hI.putF (n := 1015) (k := ((a0).toNatClampNeg)) (v := a2) rfl
                          have hK := hK.put (n := 1015) (k := ((a0).toNatClampNeg)) (v := a2) (by first | rfl | simp [inR])
                          refine lv_goto (tgt := 176) hx hb dX10_sets_166 (by decide) ?_
                          refine lv_iload hx hb dX10_sets_176 (lv_at hl 0 rfl) ?_
                          have hsr : srow a1 = 15 := by unfold srow; rw [if_neg (by omega), if_neg (by omega), if_pos (by omega)]
                          exact m_iret hx hb hr hlocks hM hS (Nat.le_of_ble_eq_true rfl) (Nat.le_of_ble_eq_true rfl) ⟨_, _, rfl, hI, hK, (Or.inl ⟨⟨by omega, by unfold okE; omega⟩, by rw [hsr]; rfl, by rw [hsr]; exact (live_st (n := 15) EqV.rf)⟩)⟩ dX10_sets_178
                      · have hc91 := c91
                        have q91 := q_eq hc91
                        refine lv_aload_n hx hb dX10_sets_144 rfl (lv_at hl 1 rfl) ?_
                        refine m_getr (1000) 14 (1014) hx hb hts hown hE oc10 hM hJ.1 rfl (by decide) rfl (hJ.2 14 (by decide)).2 (by decide) tb_1191 dX10_sets_145 ?_
                        refine lv_iload_n hx hb dX10_sets_148 rfl (lv_at hl 2 rfl) ?_
                        refine lv_iload_n hx hb dX10_sets_149 rfl (lv_at hl 4 rfl) ?_
                        refine m_iast (1014) hx hb hE hM hS (hJ.2 14 (by decide)).1 rfl (vp_in_iff.mpr (by omega)) dX10_sets_150 (fun H locs I95 eI95 hM hS => ?_)
                        subst eI95
                        have hI := hI.putF (n := 1014) (k := ((a0).toNatClampNeg)) (v := a2) rfl
                        have hK := hK.put (n := 1014) (k := ((a0).toNatClampNeg)) (v := a2) (by first | rfl | simp [inR])
                        refine lv_goto (tgt := 176) hx hb dX10_sets_151 (by decide) ?_
                        refine lv_iload hx hb dX10_sets_176 (lv_at hl 0 rfl) ?_
                        exact m_iret hx hb hr hlocks hM hS (Nat.le_of_ble_eq_true rfl) (Nat.le_of_ble_eq_true rfl) ⟨_, _, rfl, hI, hK, (by exfalso; omega)⟩ dX10_sets_178
                    · have hc90 := c90
                      have q90 := q_eq hc90
                      refine lv_aload_n hx hb dX10_sets_129 rfl (lv_at hl 1 rfl) ?_
                      refine m_getr (1000) 9 (1009) hx hb hts hown hE oc10 hM hJ.1 rfl (by decide) rfl (hJ.2 9 (by decide)).2 (by decide) tb_1186 dX10_sets_130 ?_
                      refine lv_iload_n hx hb dX10_sets_133 rfl (lv_at hl 2 rfl) ?_
                      refine lv_iload_n hx hb dX10_sets_134 rfl (lv_at hl 4 rfl) ?_
                      refine m_iast (1009) hx hb hE hM hS (hJ.2 9 (by decide)).1 rfl (vp_in_iff.mpr (by omega)) dX10_sets_135 (fun H locs I96 eI96 hM hS => ?_)
                      subst eI96
                      have hI := hI.putF (n := 1009) (k := ((a0).toNatClampNeg)) (v := a2) rfl
                      have hK := hK.put (n := 1009) (k := ((a0).toNatClampNeg)) (v := a2) (by first | rfl | simp [inR])
                      refine lv_goto (tgt := 176) hx hb dX10_sets_136 (by decide) ?_
                      refine lv_iload hx hb dX10_sets_176 (lv_at hl 0 rfl) ?_
                      exact m_iret hx hb hr hlocks hM hS (Nat.le_of_ble_eq_true rfl) (Nat.le_of_ble_eq_true rfl) ⟨_, _, rfl, hI, hK, (by exfalso; omega)⟩ dX10_sets_178
                · have hc81 := c81
                  have q81 := q_eq hc81
                  refine lv_aload_n hx hb dX10_sets_94 rfl (lv_at hl 0 rfl) ?_
                  refine m_getr (1000) 14 (1014) hx hb hts hown hE oc10 hM hJ.1 rfl (by decide) rfl (hJ.2 14 (by decide)).2 (by decide) tb_1191 dX10_sets_95 ?_
                  refine lv_iload_n hx hb dX10_sets_98 rfl (lv_at hl 1 rfl) ?_
                  refine m_iald (1014) hx hb hE hM (hJ.2 14 (by decide)).1 rfl (vp_in_iff.mpr (by omega)) dX10_sets_99 ?_
                  refine lv_goto (tgt := 123) hx hb dX10_sets_100 (by decide) ?_
                  refine lv_istore (lv' := [(4, .int (I (1014) (a0).toNatClampNeg)), (0, .ref (ad (1000))), (1, .int (a0)), (2, .int (a1)), (3, .int (a2))]) hx hb dX10_sets_123 hl (by decide) rfl (fun ls hl => ?_)
                  refine lv_iload_n hx hb dX10_sets_125 rfl (lv_at hl 3 rfl) ?_
                  refine lv_if_ne (tgt := 139) hx hb dX10_sets_126 (by decide) (fun c97 => ?_) (fun c97 => ?_)
                  · have hc97 := c97
                    have q97 := q_ne hc97
                    refine lv_iload_n hx hb dX10_sets_139 rfl (lv_at hl 3 rfl) ?_
                    refine lv_iconst (v := (1)) hx hb dX10_sets_140 (by decide) ?_
                    refine lv_icmp_ne (tgt := 154) hx hb dX10_sets_141 (by decide) (fun c98 => ?_) (fun c98 => ?_)
                    · have hc98 := c98
                      have q98 := q_ne hc98
                      refine lv_iload_n hx hb dX10_sets_154 rfl (lv_at hl 3 rfl) ?_
                      refine lv_iconst (v := (2)) hx hb dX10_sets_155 (by decide) ?_
                      refine lv_icmp_ne (tgt := 169) hx hb dX10_sets_156 (by decide) (fun c99 => ?_) (fun c99 => ?_)
                      · have hc99 := c99
                        have q99 := q_ne hc99
                        refine lv_aload_n hx hb dX10_sets_169 rfl (lv_at hl 1 rfl) ?_
                        refine m_getr (1000) 16 (1016) hx hb hts hown hE oc10 hM hJ.1 rfl (by decide) rfl (hJ.2 16 (by decide)).2 (by decide) tb_1193 dX10_sets_170 ?_
                        refine lv_iload_n hx hb dX10_sets_173 rfl (lv_at hl 2 rfl) ?_
                        refine lv_iload_n hx hb dX10_sets_174 rfl (lv_at hl 4 rfl) ?_
                        refine m_iast (1016) hx hb hE hM hS (hJ.2 16 (by decide)).1 rfl (vp_in_iff.mpr (by omega)) dX10_sets_175 (fun H locs I100 eI100 hM hS => ?_)
                        subst eI100
                        have hI := hI.putF (n := 1016) (k := ((a0).toNatClampNeg)) (v := a2) rfl
                        have hK := hK.put (n := 1016) (k := ((a0).toNatClampNeg)) (v := a2) (by first | rfl | simp [inR])
                        refine lv_iload hx hb dX10_sets_176 (lv_at hl 0 rfl) ?_
                        exact m_iret hx hb hr hlocks hM hS (Nat.le_of_ble_eq_true rfl) (Nat.le_of_ble_eq_true rfl) ⟨_, _, rfl, hI, hK, (by exfalso; omega)⟩ dX10_sets_178
                      · have hc99 := c99
                        have q99 := q_eq hc99
                        refine lv_aload_n hx hb dX10_sets_159 rfl (lv_at hl 1 rfl) ?_
                        refine m_getr (1000) 15 (1015) hx hb hts hown hE oc10 hM hJ.1 rfl (by decide) rfl (hJ.2 15 (by decide)).2 (by decide) tb_1192 dX10_sets_160 ?_
                        refine lv_iload_n hx hb dX10_sets_163 rfl (lv_at hl 2 rfl) ?_
                        refine lv_iload_n hx hb dX10_sets_164 rfl (lv_at hl 4 rfl) ?_
                        refine m_iast (1015) hx hb hE hM hS (hJ.2 15 (by decide)).1 rfl (vp_in_iff.mpr (by omega)) dX10_sets_165 (fun H locs I101 eI101 hM hS => ?_)
                        subst eI101
                        have hI := hI.putF (n := 1015) (k := ((a0).toNatClampNeg)) (v := a2) rfl
                        have hK := hK.put (n := 1015) (k := ((a0).toNatClampNeg)) (v := a2) (by first | rfl | simp [inR])
                        refine lv_goto (tgt := 176) hx hb dX10_sets_166 (by decide) ?_
                        refine lv_iload hx hb dX10_sets_176 (lv_at hl 0 rfl) ?_
                        exact m_iret hx hb hr hlocks hM hS (Nat.le_of_ble_eq_true rfl) (Nat.le_of_ble_eq_true rfl) ⟨_, _, rfl, hI, hK, (by exfalso; omega)⟩ dX10_sets_178
                    · have hc98 := c98
                      have q98 := q_eq hc98
                      refine lv_aload_n hx hb dX10_sets_144 rfl (lv_at hl 1 rfl) ?_
                      refine m_getr (1000) 14 (1014) hx hb hts hown hE oc10 hM hJ.1 rfl (by decide) rfl (hJ.2 14 (by decide)).2 (by decide) tb_1191 dX10_sets_145 ?_
                      refine lv_iload_n hx hb dX10_sets_148 rfl (lv_at hl 2 rfl) ?_
                      refine lv_iload_n hx hb dX10_sets_149 rfl (lv_at hl 4 rfl) ?_
                      refine m_iast (1014) hx hb hE hM hS (hJ.2 14 (by decide)).1 rfl (vp_in_iff.mpr (by omega)) dX10_sets_150 (fun H locs I102 eI102 hM hS => ?_)
                      subst eI102
                      have hI := hI.putF (n := 1014) (k := ((a0).toNatClampNeg)) (v := a2) rfl
                      have hK := hK.put (n := 1014) (k := ((a0).toNatClampNeg)) (v := a2) (by first | rfl | simp [inR])
                      refine lv_goto (tgt := 176) hx hb dX10_sets_151 (by decide) ?_
                      refine lv_iload hx hb dX10_sets_176 (lv_at hl 0 rfl) ?_
                      have hsr : srow a1 = 14 := by unfold srow; rw [if_neg (by omega), if_pos (by omega)]
                      exact m_iret hx hb hr hlocks hM hS (Nat.le_of_ble_eq_true rfl) (Nat.le_of_ble_eq_true rfl) ⟨_, _, rfl, hI, hK, (Or.inl ⟨⟨by omega, by unfold okE; omega⟩, by rw [hsr]; rfl, by rw [hsr]; exact (live_st (n := 14) EqV.rf)⟩)⟩ dX10_sets_178
                  · have hc97 := c97
                    have q97 := q_eq hc97
                    refine lv_aload_n hx hb dX10_sets_129 rfl (lv_at hl 1 rfl) ?_
                    refine m_getr (1000) 9 (1009) hx hb hts hown hE oc10 hM hJ.1 rfl (by decide) rfl (hJ.2 9 (by decide)).2 (by decide) tb_1186 dX10_sets_130 ?_
                    refine lv_iload_n hx hb dX10_sets_133 rfl (lv_at hl 2 rfl) ?_
                    refine lv_iload_n hx hb dX10_sets_134 rfl (lv_at hl 4 rfl) ?_
                    refine m_iast (1009) hx hb hE hM hS (hJ.2 9 (by decide)).1 rfl (vp_in_iff.mpr (by omega)) dX10_sets_135 (fun H locs I103 eI103 hM hS => ?_)
                    subst eI103
                    have hI := hI.putF (n := 1009) (k := ((a0).toNatClampNeg)) (v := a2) rfl
                    have hK := hK.put (n := 1009) (k := ((a0).toNatClampNeg)) (v := a2) (by first | rfl | simp [inR])
                    refine lv_goto (tgt := 176) hx hb dX10_sets_136 (by decide) ?_
                    refine lv_iload hx hb dX10_sets_176 (lv_at hl 0 rfl) ?_
                    exact m_iret hx hb hr hlocks hM hS (Nat.le_of_ble_eq_true rfl) (Nat.le_of_ble_eq_true rfl) ⟨_, _, rfl, hI, hK, (by exfalso; omega)⟩ dX10_sets_178
              · have hc80 := c80
                have q80 := q_eq hc80
                refine lv_aload_n hx hb dX10_sets_80 rfl (lv_at hl 0 rfl) ?_
                refine m_getr (1000) 9 (1009) hx hb hts hown hE oc10 hM hJ.1 rfl (by decide) rfl (hJ.2 9 (by decide)).2 (by decide) tb_1186 dX10_sets_81 ?_
                refine lv_iload_n hx hb dX10_sets_84 rfl (lv_at hl 1 rfl) ?_
                refine m_iald (1009) hx hb hE hM (hJ.2 9 (by decide)).1 rfl (vp_in_iff.mpr (by omega)) dX10_sets_85 ?_
                refine lv_goto (tgt := 123) hx hb dX10_sets_86 (by decide) ?_
                refine lv_istore (lv' := [(4, .int (I (1009) (a0).toNatClampNeg)), (0, .ref (ad (1000))), (1, .int (a0)), (2, .int (a1)), (3, .int (a2))]) hx hb dX10_sets_123 hl (by decide) rfl (fun ls hl => ?_)
                refine lv_iload_n hx hb dX10_sets_125 rfl (lv_at hl 3 rfl) ?_
                refine lv_if_ne (tgt := 139) hx hb dX10_sets_126 (by decide) (fun c104 => ?_) (fun c104 => ?_)
                · have hc104 := c104
                  have q104 := q_ne hc104
                  refine lv_iload_n hx hb dX10_sets_139 rfl (lv_at hl 3 rfl) ?_
                  refine lv_iconst (v := (1)) hx hb dX10_sets_140 (by decide) ?_
                  refine lv_icmp_ne (tgt := 154) hx hb dX10_sets_141 (by decide) (fun c105 => ?_) (fun c105 => ?_)
                  · have hc105 := c105
                    have q105 := q_ne hc105
                    refine lv_iload_n hx hb dX10_sets_154 rfl (lv_at hl 3 rfl) ?_
                    refine lv_iconst (v := (2)) hx hb dX10_sets_155 (by decide) ?_
                    refine lv_icmp_ne (tgt := 169) hx hb dX10_sets_156 (by decide) (fun c106 => ?_) (fun c106 => ?_)
                    · have hc106 := c106
                      have q106 := q_ne hc106
                      refine lv_aload_n hx hb dX10_sets_169 rfl (lv_at hl 1 rfl) ?_
                      refine m_getr (1000) 16 (1016) hx hb hts hown hE oc10 hM hJ.1 rfl (by decide) rfl (hJ.2 16 (by decide)).2 (by decide) tb_1193 dX10_sets_170 ?_
                      refine lv_iload_n hx hb dX10_sets_173 rfl (lv_at hl 2 rfl) ?_
                      refine lv_iload_n hx hb dX10_sets_174 rfl (lv_at hl 4 rfl) ?_
                      refine m_iast (1016) hx hb hE hM hS (hJ.2 16 (by decide)).1 rfl (vp_in_iff.mpr (by omega)) dX10_sets_175 (fun H locs I107 eI107 hM hS => ?_)
                      subst eI107
                      have hI := hI.putF (n := 1016) (k := ((a0).toNatClampNeg)) (v := a2) rfl
                      have hK := hK.put (n := 1016) (k := ((a0).toNatClampNeg)) (v := a2) (by first | rfl | simp [inR])
                      refine lv_iload hx hb dX10_sets_176 (lv_at hl 0 rfl) ?_
                      exact m_iret hx hb hr hlocks hM hS (Nat.le_of_ble_eq_true rfl) (Nat.le_of_ble_eq_true rfl) ⟨_, _, rfl, hI, hK, (by exfalso; omega)⟩ dX10_sets_178
                    · have hc106 := c106
                      have q106 := q_eq hc106
                      refine lv_aload_n hx hb dX10_sets_159 rfl (lv_at hl 1 rfl) ?_
                      refine m_getr (1000) 15 (1015) hx hb hts hown hE oc10 hM hJ.1 rfl (by decide) rfl (hJ.2 15 (by decide)).2 (by decide) tb_1192 dX10_sets_160 ?_
                      refine lv_iload_n hx hb dX10_sets_163 rfl (lv_at hl 2 rfl) ?_
                      refine lv_iload_n hx hb dX10_sets_164 rfl (lv_at hl 4 rfl) ?_
                      refine m_iast (1015) hx hb hE hM hS (hJ.2 15 (by decide)).1 rfl (vp_in_iff.mpr (by omega)) dX10_sets_165 (fun H locs I108 eI108 hM hS => ?_)
                      subst eI108
                      have hI := hI.putF (n := 1015) (k := ((a0).toNatClampNeg)) (v := a2) rfl
                      have hK := hK.put (n := 1015) (k := ((a0).toNatClampNeg)) (v := a2) (by first | rfl | simp [inR])
                      refine lv_goto (tgt := 176) hx hb dX10_sets_166 (by decide) ?_
                      refine lv_iload hx hb dX10_sets_176 (lv_at hl 0 rfl) ?_
                      exact m_iret hx hb hr hlocks hM hS (Nat.le_of_ble_eq_true rfl) (Nat.le_of_ble_eq_true rfl) ⟨_, _, rfl, hI, hK, (by exfalso; omega)⟩ dX10_sets_178
                  · have hc105 := c105
                    have q105 := q_eq hc105
                    refine lv_aload_n hx hb dX10_sets_144 rfl (lv_at hl 1 rfl) ?_
                    refine m_getr (1000) 14 (1014) hx hb hts hown hE oc10 hM hJ.1 rfl (by decide) rfl (hJ.2 14 (by decide)).2 (by decide) tb_1191 dX10_sets_145 ?_
                    refine lv_iload_n hx hb dX10_sets_148 rfl (lv_at hl 2 rfl) ?_
                    refine lv_iload_n hx hb dX10_sets_149 rfl (lv_at hl 4 rfl) ?_
                    refine m_iast (1014) hx hb hE hM hS (hJ.2 14 (by decide)).1 rfl (vp_in_iff.mpr (by omega)) dX10_sets_150 (fun H locs I109 eI109 hM hS => ?_)
                    subst eI109
                    have hI := hI.putF (n := 1014) (k := ((a0).toNatClampNeg)) (v := a2) rfl
                    have hK := hK.put (n := 1014) (k := ((a0).toNatClampNeg)) (v := a2) (by first | rfl | simp [inR])
                    refine lv_goto (tgt := 176) hx hb dX10_sets_151 (by decide) ?_
                    refine lv_iload hx hb dX10_sets_176 (lv_at hl 0 rfl) ?_
                    exact m_iret hx hb hr hlocks hM hS (Nat.le_of_ble_eq_true rfl) (Nat.le_of_ble_eq_true rfl) ⟨_, _, rfl, hI, hK, (by exfalso; omega)⟩ dX10_sets_178
                · have hc104 := c104
                  have q104 := q_eq hc104
                  refine lv_aload_n hx hb dX10_sets_129 rfl (lv_at hl 1 rfl) ?_
                  refine m_getr (1000) 9 (1009) hx hb hts hown hE oc10 hM hJ.1 rfl (by decide) rfl (hJ.2 9 (by decide)).2 (by decide) tb_1186 dX10_sets_130 ?_
                  refine lv_iload_n hx hb dX10_sets_133 rfl (lv_at hl 2 rfl) ?_
                  refine lv_iload_n hx hb dX10_sets_134 rfl (lv_at hl 4 rfl) ?_
                  refine m_iast (1009) hx hb hE hM hS (hJ.2 9 (by decide)).1 rfl (vp_in_iff.mpr (by omega)) dX10_sets_135 (fun H locs I110 eI110 hM hS => ?_)
                  subst eI110
                  have hI := hI.putF (n := 1009) (k := ((a0).toNatClampNeg)) (v := a2) rfl
                  have hK := hK.put (n := 1009) (k := ((a0).toNatClampNeg)) (v := a2) (by first | rfl | simp [inR])
                  refine lv_goto (tgt := 176) hx hb dX10_sets_136 (by decide) ?_
                  refine lv_iload hx hb dX10_sets_176 (lv_at hl 0 rfl) ?_
                  have hsr : srow a1 = 9 := by unfold srow; rw [if_pos (by omega)]
                  exact m_iret hx hb hr hlocks hM hS (Nat.le_of_ble_eq_true rfl) (Nat.le_of_ble_eq_true rfl) ⟨_, _, rfl, hI, hK, (Or.inl ⟨⟨by omega, by unfold okE; omega⟩, by rw [hsr]; rfl, by rw [hsr]; exact (live_st (n := 9) EqV.rf)⟩)⟩ dX10_sets_178
            · have hc79 := c79
              have q79 := xr78.f hc79
              refine lv_bipush (v := (-2)) hx hb dX10_sets_73 (by decide) ?_
              exact m_iret hx hb hr hlocks hM hS (Nat.le_of_ble_eq_true rfl) (Nat.le_of_ble_eq_true rfl) ⟨_, _, rfl, hI, hK, (Or.inr ⟨fun hh => by have h2 := hh.2; unfold okE at h2; omega, rfl, rfl⟩)⟩ dX10_sets_75
        · have hc9 := c9
          have q9 := q_eq hc9
          refine lv_ldc2 (v := (7)) hx hb hown (hts _ tb_1451) dX10_sets_38 ?_
          refine lv_goto (tgt := 67) hx hb dX10_sets_41 (by decide) ?_
          refine m_calli (m_runS (As := [.long (v7), .long (0), .long ((7 : Int64))]) (rest := []) hx hb hml hown hts hE hM hS hA ce_X10_in tb_1425 (V_X10_in l D A ad ns I L G (v7) (0) ((7 : Int64)) hI) rfl rfl ⟨Nat.le_of_ble_eq_true rfl, Nat.le_of_ble_eq_true rfl⟩  rfl hl.1 rfl (Nat.le_of_ble_eq_true rfl) dX10_sets_67 ⟨Nat.le_of_ble_eq_true rfl, Nat.le_of_ble_eq_true rfl⟩) hS (fun r111 u H locs hw hM hS => ?_)
          obtain ⟨rfl, xr111⟩ := hw
          have hM : Mem D A ad ns I L G H := hM
          have yr111 := bo01 xr111
          refine lv_if_ne (tgt := 76) hx hb dX10_sets_70 (by decide) (fun c112 => ?_) (fun c112 => ?_)
          · have hc112 := c112
            have q112 := xr111.t hc112
            refine lv_iload_n hx hb dX10_sets_76 rfl (lv_at hl 2 rfl) ?_
            refine lv_if_ne (tgt := 89) hx hb dX10_sets_77 (by decide) (fun c113 => ?_) (fun c113 => ?_)
            · have hc113 := c113
              have q113 := q_ne hc113
              refine lv_iload_n hx hb dX10_sets_89 rfl (lv_at hl 2 rfl) ?_
              refine lv_iconst (v := (1)) hx hb dX10_sets_90 (by decide) ?_
              refine lv_icmp_ne (tgt := 103) hx hb dX10_sets_91 (by decide) (fun c114 => ?_) (fun c114 => ?_)
              · have hc114 := c114
                have q114 := q_ne hc114
                refine lv_iload_n hx hb dX10_sets_103 rfl (lv_at hl 2 rfl) ?_
                refine lv_iconst (v := (2)) hx hb dX10_sets_104 (by decide) ?_
                refine lv_icmp_ne (tgt := 117) hx hb dX10_sets_105 (by decide) (fun c115 => ?_) (fun c115 => ?_)
                · have hc115 := c115
                  have q115 := q_ne hc115
                  refine lv_aload_n hx hb dX10_sets_117 rfl (lv_at hl 0 rfl) ?_
                  refine m_getr (1000) 16 (1016) hx hb hts hown hE oc10 hM hJ.1 rfl (by decide) rfl (hJ.2 16 (by decide)).2 (by decide) tb_1193 dX10_sets_118 ?_
                  refine lv_iload_n hx hb dX10_sets_121 rfl (lv_at hl 1 rfl) ?_
                  refine m_iald (1016) hx hb hE hM (hJ.2 16 (by decide)).1 rfl (vp_in_iff.mpr (by omega)) dX10_sets_122 ?_
                  refine lv_istore (lv' := [(4, .int (I (1016) (a0).toNatClampNeg)), (0, .ref (ad (1000))), (1, .int (a0)), (2, .int (a1)), (3, .int (a2))]) hx hb dX10_sets_123 hl (by decide) rfl (fun ls hl => ?_)
                  refine lv_iload_n hx hb dX10_sets_125 rfl (lv_at hl 3 rfl) ?_
                  refine lv_if_ne (tgt := 139) hx hb dX10_sets_126 (by decide) (fun c116 => ?_) (fun c116 => ?_)
                  · have hc116 := c116
                    have q116 := q_ne hc116
                    refine lv_iload_n hx hb dX10_sets_139 rfl (lv_at hl 3 rfl) ?_
                    refine lv_iconst (v := (1)) hx hb dX10_sets_140 (by decide) ?_
                    refine lv_icmp_ne (tgt := 154) hx hb dX10_sets_141 (by decide) (fun c117 => ?_) (fun c117 => ?_)
                    · have hc117 := c117
                      have q117 := q_ne hc117
                      refine lv_iload_n hx hb dX10_sets_154 rfl (lv_at hl 3 rfl) ?_
                      refine lv_iconst (v := (2)) hx hb dX10_sets_155 (by decide) ?_
                      refine lv_icmp_ne (tgt := 169) hx hb dX10_sets_156 (by decide) (fun c118 => ?_) (fun c118 => ?_)
                      · have hc118 := c118
                        have q118 := q_ne hc118
                        refine lv_aload_n hx hb dX10_sets_169 rfl (lv_at hl 1 rfl) ?_
                        refine m_getr (1000) 16 (1016) hx hb hts hown hE oc10 hM hJ.1 rfl (by decide) rfl (hJ.2 16 (by decide)).2 (by decide) tb_1193 dX10_sets_170 ?_
                        refine lv_iload_n hx hb dX10_sets_173 rfl (lv_at hl 2 rfl) ?_
                        refine lv_iload_n hx hb dX10_sets_174 rfl (lv_at hl 4 rfl) ?_
                        refine m_iast (1016) hx hb hE hM hS (hJ.2 16 (by decide)).1 rfl (vp_in_iff.mpr (by omega)) dX10_sets_175 (fun H locs I119 eI119 hM hS => ?_)
                        subst eI119
                        have hI := hI.putF (n := 1016) (k := ((a0).toNatClampNeg)) (v := a2) rfl
                        have hK := hK.put (n := 1016) (k := ((a0).toNatClampNeg)) (v := a2) (by first | rfl | simp [inR])
                        refine lv_iload hx hb dX10_sets_176 (lv_at hl 0 rfl) ?_
                        have hsr : srow a1 = 16 := by unfold srow; rw [if_neg (by omega), if_neg (by omega), if_neg (by omega)]
                        exact m_iret hx hb hr hlocks hM hS (Nat.le_of_ble_eq_true rfl) (Nat.le_of_ble_eq_true rfl) ⟨_, _, rfl, hI, hK, (Or.inl ⟨⟨by omega, by unfold okE; omega⟩, by rw [hsr]; rfl, by rw [hsr]; exact (live_st (n := 16) EqV.rf)⟩)⟩ dX10_sets_178
                      · have hc118 := c118
                        have q118 := q_eq hc118
                        refine lv_aload_n hx hb dX10_sets_159 rfl (lv_at hl 1 rfl) ?_
                        refine m_getr (1000) 15 (1015) hx hb hts hown hE oc10 hM hJ.1 rfl (by decide) rfl (hJ.2 15 (by decide)).2 (by decide) tb_1192 dX10_sets_160 ?_
                        refine lv_iload_n hx hb dX10_sets_163 rfl (lv_at hl 2 rfl) ?_
                        refine lv_iload_n hx hb dX10_sets_164 rfl (lv_at hl 4 rfl) ?_
                        refine m_iast (1015) hx hb hE hM hS (hJ.2 15 (by decide)).1 rfl (vp_in_iff.mpr (by omega)) dX10_sets_165 (fun H locs I120 eI120 hM hS => ?_)
                        subst eI120
                        have hI := hI.putF (n := 1015) (k := ((a0).toNatClampNeg)) (v := a2) rfl
                        have hK := hK.put (n := 1015) (k := ((a0).toNatClampNeg)) (v := a2) (by first | rfl | simp [inR])
                        refine lv_goto (tgt := 176) hx hb dX10_sets_166 (by decide) ?_
                        refine lv_iload hx hb dX10_sets_176 (lv_at hl 0 rfl) ?_
                        exact m_iret hx hb hr hlocks hM hS (Nat.le_of_ble_eq_true rfl) (Nat.le_of_ble_eq_true rfl) ⟨_, _, rfl, hI, hK, (by exfalso; omega)⟩ dX10_sets_178
                    · have hc117 := c117
                      have q117 := q_eq hc117
                      refine lv_aload_n hx hb dX10_sets_144 rfl (lv_at hl 1 rfl) ?_
                      refine m_getr (1000) 14 (1014) hx hb hts hown hE oc10 hM hJ.1 rfl (by decide) rfl (hJ.2 14 (by decide)).2 (by decide) tb_1191 dX10_sets_145 ?_
                      refine lv_iload_n hx hb dX10_sets_148 rfl (lv_at hl 2 rfl) ?_
                      refine lv_iload_n hx hb dX10_sets_149 rfl (lv_at hl 4 rfl) ?_
                      refine m_iast (1014) hx hb hE hM hS (hJ.2 14 (by decide)).1 rfl (vp_in_iff.mpr (by omega)) dX10_sets_150 (fun H locs I121 eI121 hM hS => ?_)
                      subst eI121
                      have hI := hI.putF (n := 1014) (k := ((a0).toNatClampNeg)) (v := a2) rfl
                      have hK := hK.put (n := 1014) (k := ((a0).toNatClampNeg)) (v := a2) (by first | rfl | simp [inR])
                      refine lv_goto (tgt := 176) hx hb dX10_sets_151 (by decide) ?_
                      refine lv_iload hx hb dX10_sets_176 (lv_at hl 0 rfl) ?_
                      exact m_iret hx hb hr hlocks hM hS (Nat.le_of_ble_eq_true rfl) (Nat.le_of_ble_eq_true rfl) ⟨_, _, rfl, hI, hK, (by exfalso; omega)⟩ dX10_sets_178
                  · have hc116 := c116
                    have q116 := q_eq hc116
                    refine lv_aload_n hx hb dX10_sets_129 rfl (lv_at hl 1 rfl) ?_
                    refine m_getr (1000) 9 (1009) hx hb hts hown hE oc10 hM hJ.1 rfl (by decide) rfl (hJ.2 9 (by decide)).2 (by decide) tb_1186 dX10_sets_130 ?_
                    refine lv_iload_n hx hb dX10_sets_133 rfl (lv_at hl 2 rfl) ?_
                    refine lv_iload_n hx hb dX10_sets_134 rfl (lv_at hl 4 rfl) ?_
                    refine m_iast (1009) hx hb hE hM hS (hJ.2 9 (by decide)).1 rfl (vp_in_iff.mpr (by omega)) dX10_sets_135 (fun H locs I122 eI122 hM hS => ?_)
                    subst eI122
                    have hI := hI.putF (n := 1009) (k := ((a0).toNatClampNeg)) (v := a2) rfl
                    have hK := hK.put (n := 1009) (k := ((a0).toNatClampNeg)) (v := a2) (by first | rfl | simp [inR])
                    refine lv_goto (tgt := 176) hx hb dX10_sets_136 (by decide) ?_
                    refine lv_iload hx hb dX10_sets_176 (lv_at hl 0 rfl) ?_
                    exact m_iret hx hb hr hlocks hM hS (Nat.le_of_ble_eq_true rfl) (Nat.le_of_ble_eq_true rfl) ⟨_, _, rfl, hI, hK, (by exfalso; omega)⟩ dX10_sets_178
                · have hc115 := c115
                  have q115 := q_eq hc115
                  refine lv_aload_n hx hb dX10_sets_108 rfl (lv_at hl 0 rfl) ?_
                  refine m_getr (1000) 15 (1015) hx hb hts hown hE oc10 hM hJ.1 rfl (by decide) rfl (hJ.2 15 (by decide)).2 (by decide) tb_1192 dX10_sets_109 ?_
                  refine lv_iload_n hx hb dX10_sets_112 rfl (lv_at hl 1 rfl) ?_
                  refine m_iald (1015) hx hb hE hM (hJ.2 15 (by decide)).1 rfl (vp_in_iff.mpr (by omega)) dX10_sets_113 ?_
                  refine lv_goto (tgt := 123) hx hb dX10_sets_114 (by decide) ?_
                  refine lv_istore (lv' := [(4, .int (I (1015) (a0).toNatClampNeg)), (0, .ref (ad (1000))), (1, .int (a0)), (2, .int (a1)), (3, .int (a2))]) hx hb dX10_sets_123 hl (by decide) rfl (fun ls hl => ?_)
                  refine lv_iload_n hx hb dX10_sets_125 rfl (lv_at hl 3 rfl) ?_
                  refine lv_if_ne (tgt := 139) hx hb dX10_sets_126 (by decide) (fun c123 => ?_) (fun c123 => ?_)
                  · have hc123 := c123
                    have q123 := q_ne hc123
                    refine lv_iload_n hx hb dX10_sets_139 rfl (lv_at hl 3 rfl) ?_
                    refine lv_iconst (v := (1)) hx hb dX10_sets_140 (by decide) ?_
                    refine lv_icmp_ne (tgt := 154) hx hb dX10_sets_141 (by decide) (fun c124 => ?_) (fun c124 => ?_)
                    · have hc124 := c124
                      have q124 := q_ne hc124
                      refine lv_iload_n hx hb dX10_sets_154 rfl (lv_at hl 3 rfl) ?_
                      refine lv_iconst (v := (2)) hx hb dX10_sets_155 (by decide) ?_
                      refine lv_icmp_ne (tgt := 169) hx hb dX10_sets_156 (by decide) (fun c125 => ?_) (fun c125 => ?_)
                      · have hc125 := c125
                        have q125 := q_ne hc125
                        refine lv_aload_n hx hb dX10_sets_169 rfl (lv_at hl 1 rfl) ?_
                        refine m_getr (1000) 16 (1016) hx hb hts hown hE oc10 hM hJ.1 rfl (by decide) rfl (hJ.2 16 (by decide)).2 (by decide) tb_1193 dX10_sets_170 ?_
                        refine lv_iload_n hx hb dX10_sets_173 rfl (lv_at hl 2 rfl) ?_
                        refine lv_iload_n hx hb dX10_sets_174 rfl (lv_at hl 4 rfl) ?_
                        refine m_iast (1016) hx hb hE hM hS (hJ.2 16 (by decide)).1 rfl (vp_in_iff.mpr (by omega)) dX10_sets_175 (fun H locs I126 eI126 hM hS => ?_)
                        subst eI126
                        have hI := hI.putF (n := 1016) (k := ((a0).toNatClampNeg)) (v := a2) rfl
                        have hK := hK.put (n := 1016) (k := ((a0).toNatClampNeg)) (v := a2) (by first | rfl | simp [inR])
                        refine lv_iload hx hb dX10_sets_176 (lv_at hl 0 rfl) ?_
                        exact m_iret hx hb hr hlocks hM hS (Nat.le_of_ble_eq_true rfl) (Nat.le_of_ble_eq_true rfl) ⟨_, _, rfl, hI, hK, (by exfalso; omega)⟩ dX10_sets_178
                      · have hc125 := c125
                        have q125 := q_eq hc125
                        refine lv_aload_n hx hb dX10_sets_159 rfl (lv_at hl 1 rfl) ?_
                        refine m_getr (1000) 15 (1015) hx hb hts hown hE oc10 hM hJ.1 rfl (by decide) rfl (hJ.2 15 (by decide)).2 (by decide) tb_1192 dX10_sets_160 ?_
                        refine lv_iload_n hx hb dX10_sets_163 rfl (lv_at hl 2 rfl) ?_
                        refine lv_iload_n hx hb dX10_sets_164 rfl (lv_at hl 4 rfl) ?_
                        refine m_iast (1015) hx hb hE hM hS (hJ.2 15 (by decide)).1 rfl (vp_in_iff.mpr (by omega)) dX10_sets_165 (fun H locs I127 eI127 hM hS => ?_)
                        subst eI127
                        have hI := hI.putF (n := 1015) (k := ((a0).toNatClampNeg)) (v := a2) rfl
                        have hK := hK.put (n := 1015) (k := ((a0).toNatClampNeg)) (v := a2) (by first | rfl | simp [inR])
                        refine lv_goto (tgt := 176) hx hb dX10_sets_166 (by decide) ?_
                        refine lv_iload hx hb dX10_sets_176 (lv_at hl 0 rfl) ?_
                        have hsr : srow a1 = 15 := by unfold srow; rw [if_neg (by omega), if_neg (by omega), if_pos (by omega)]
                        exact m_iret hx hb hr hlocks hM hS (Nat.le_of_ble_eq_true rfl) (Nat.le_of_ble_eq_true rfl) ⟨_, _, rfl, hI, hK, (Or.inl ⟨⟨by omega, by unfold okE; omega⟩, by rw [hsr]; rfl, by rw [hsr]; exact (live_st (n := 15) EqV.rf)⟩)⟩ dX10_sets_178
                    · have hc124 := c124
                      have q124 := q_eq hc124
                      refine lv_aload_n hx hb dX10_sets_144 rfl (lv_at hl 1 rfl) ?_
                      refine m_getr (1000) 14 (1014) hx hb hts hown hE oc10 hM hJ.1 rfl (by decide) rfl (hJ.2 14 (by decide)).2 (by decide) tb_1191 dX10_sets_145 ?_
                      refine lv_iload_n hx hb dX10_sets_148 rfl (lv_at hl 2 rfl) ?_
                      refine lv_iload_n hx hb dX10_sets_149 rfl (lv_at hl 4 rfl) ?_
                      refine m_iast (1014) hx hb hE hM hS (hJ.2 14 (by decide)).1 rfl (vp_in_iff.mpr (by omega)) dX10_sets_150 (fun H locs I128 eI128 hM hS => ?_)
                      subst eI128
                      have hI := hI.putF (n := 1014) (k := ((a0).toNatClampNeg)) (v := a2) rfl
                      have hK := hK.put (n := 1014) (k := ((a0).toNatClampNeg)) (v := a2) (by first | rfl | simp [inR])
                      refine lv_goto (tgt := 176) hx hb dX10_sets_151 (by decide) ?_
                      refine lv_iload hx hb dX10_sets_176 (lv_at hl 0 rfl) ?_
                      exact m_iret hx hb hr hlocks hM hS (Nat.le_of_ble_eq_true rfl) (Nat.le_of_ble_eq_true rfl) ⟨_, _, rfl, hI, hK, (by exfalso; omega)⟩ dX10_sets_178
                  · have hc123 := c123
                    have q123 := q_eq hc123
                    refine lv_aload_n hx hb dX10_sets_129 rfl (lv_at hl 1 rfl) ?_
                    refine m_getr (1000) 9 (1009) hx hb hts hown hE oc10 hM hJ.1 rfl (by decide) rfl (hJ.2 9 (by decide)).2 (by decide) tb_1186 dX10_sets_130 ?_
                    refine lv_iload_n hx hb dX10_sets_133 rfl (lv_at hl 2 rfl) ?_
                    refine lv_iload_n hx hb dX10_sets_134 rfl (lv_at hl 4 rfl) ?_
                    refine m_iast (1009) hx hb hE hM hS (hJ.2 9 (by decide)).1 rfl (vp_in_iff.mpr (by omega)) dX10_sets_135 (fun H locs I129 eI129 hM hS => ?_)
                    subst eI129
                    have hI := hI.putF (n := 1009) (k := ((a0).toNatClampNeg)) (v := a2) rfl
                    have hK := hK.put (n := 1009) (k := ((a0).toNatClampNeg)) (v := a2) (by first | rfl | simp [inR])
                    refine lv_goto (tgt := 176) hx hb dX10_sets_136 (by decide) ?_
                    refine lv_iload hx hb dX10_sets_176 (lv_at hl 0 rfl) ?_
                    exact m_iret hx hb hr hlocks hM hS (Nat.le_of_ble_eq_true rfl) (Nat.le_of_ble_eq_true rfl) ⟨_, _, rfl, hI, hK, (by exfalso; omega)⟩ dX10_sets_178
              · have hc114 := c114
                have q114 := q_eq hc114
                refine lv_aload_n hx hb dX10_sets_94 rfl (lv_at hl 0 rfl) ?_
                refine m_getr (1000) 14 (1014) hx hb hts hown hE oc10 hM hJ.1 rfl (by decide) rfl (hJ.2 14 (by decide)).2 (by decide) tb_1191 dX10_sets_95 ?_
                refine lv_iload_n hx hb dX10_sets_98 rfl (lv_at hl 1 rfl) ?_
                refine m_iald (1014) hx hb hE hM (hJ.2 14 (by decide)).1 rfl (vp_in_iff.mpr (by omega)) dX10_sets_99 ?_
                refine lv_goto (tgt := 123) hx hb dX10_sets_100 (by decide) ?_
                refine lv_istore (lv' := [(4, .int (I (1014) (a0).toNatClampNeg)), (0, .ref (ad (1000))), (1, .int (a0)), (2, .int (a1)), (3, .int (a2))]) hx hb dX10_sets_123 hl (by decide) rfl (fun ls hl => ?_)
                refine lv_iload_n hx hb dX10_sets_125 rfl (lv_at hl 3 rfl) ?_
                refine lv_if_ne (tgt := 139) hx hb dX10_sets_126 (by decide) (fun c130 => ?_) (fun c130 => ?_)
                · have hc130 := c130
                  have q130 := q_ne hc130
                  refine lv_iload_n hx hb dX10_sets_139 rfl (lv_at hl 3 rfl) ?_
                  refine lv_iconst (v := (1)) hx hb dX10_sets_140 (by decide) ?_
                  refine lv_icmp_ne (tgt := 154) hx hb dX10_sets_141 (by decide) (fun c131 => ?_) (fun c131 => ?_)
                  · have hc131 := c131
                    have q131 := q_ne hc131
                    refine lv_iload_n hx hb dX10_sets_154 rfl (lv_at hl 3 rfl) ?_
                    refine lv_iconst (v := (2)) hx hb dX10_sets_155 (by decide) ?_
                    refine lv_icmp_ne (tgt := 169) hx hb dX10_sets_156 (by decide) (fun c132 => ?_) (fun c132 => ?_)
                    · have hc132 := c132
                      have q132 := q_ne hc132
                      refine lv_aload_n hx hb dX10_sets_169 rfl (lv_at hl 1 rfl) ?_
                      refine m_getr (1000) 16 (1016) hx hb hts hown hE oc10 hM hJ.1 rfl (by decide) rfl (hJ.2 16 (by decide)).2 (by decide) tb_1193 dX10_sets_170 ?_
                      refine lv_iload_n hx hb dX10_sets_173 rfl (lv_at hl 2 rfl) ?_
                      refine lv_iload_n hx hb dX10_sets_174 rfl (lv_at hl 4 rfl) ?_
                      refine m_iast (1016) hx hb hE hM hS (hJ.2 16 (by decide)).1 rfl (vp_in_iff.mpr (by omega)) dX10_sets_175 (fun H locs I133 eI133 hM hS => ?_)
                      subst eI133
                      have hI := hI.putF (n := 1016) (k := ((a0).toNatClampNeg)) (v := a2) rfl
                      have hK := hK.put (n := 1016) (k := ((a0).toNatClampNeg)) (v := a2) (by first | rfl | simp [inR])
                      refine lv_iload hx hb dX10_sets_176 (lv_at hl 0 rfl) ?_
                      exact m_iret hx hb hr hlocks hM hS (Nat.le_of_ble_eq_true rfl) (Nat.le_of_ble_eq_true rfl) ⟨_, _, rfl, hI, hK, (by exfalso; omega)⟩ dX10_sets_178
                    · have hc132 := c132
                      have q132 := q_eq hc132
                      refine lv_aload_n hx hb dX10_sets_159 rfl (lv_at hl 1 rfl) ?_
                      refine m_getr (1000) 15 (1015) hx hb hts hown hE oc10 hM hJ.1 rfl (by decide) rfl (hJ.2 15 (by decide)).2 (by decide) tb_1192 dX10_sets_160 ?_
                      refine lv_iload_n hx hb dX10_sets_163 rfl (lv_at hl 2 rfl) ?_
                      refine lv_iload_n hx hb dX10_sets_164 rfl (lv_at hl 4 rfl) ?_
                      refine m_iast (1015) hx hb hE hM hS (hJ.2 15 (by decide)).1 rfl (vp_in_iff.mpr (by omega)) dX10_sets_165 (fun H locs I134 eI134 hM hS => ?_)
                      subst eI134
                      have hI := hI.putF (n := 1015) (k := ((a0).toNatClampNeg)) (v := a2) rfl
                      have hK := hK.put (n := 1015) (k := ((a0).toNatClampNeg)) (v := a2) (by first | rfl | simp [inR])
                      refine lv_goto (tgt := 176) hx hb dX10_sets_166 (by decide) ?_
                      refine lv_iload hx hb dX10_sets_176 (lv_at hl 0 rfl) ?_
                      exact m_iret hx hb hr hlocks hM hS (Nat.le_of_ble_eq_true rfl) (Nat.le_of_ble_eq_true rfl) ⟨_, _, rfl, hI, hK, (by exfalso; omega)⟩ dX10_sets_178
                  · have hc131 := c131
                    have q131 := q_eq hc131
                    refine lv_aload_n hx hb dX10_sets_144 rfl (lv_at hl 1 rfl) ?_
                    refine m_getr (1000) 14 (1014) hx hb hts hown hE oc10 hM hJ.1 rfl (by decide) rfl (hJ.2 14 (by decide)).2 (by decide) tb_1191 dX10_sets_145 ?_
                    refine lv_iload_n hx hb dX10_sets_148 rfl (lv_at hl 2 rfl) ?_
                    refine lv_iload_n hx hb dX10_sets_149 rfl (lv_at hl 4 rfl) ?_
                    refine m_iast (1014) hx hb hE hM hS (hJ.2 14 (by decide)).1 rfl (vp_in_iff.mpr (by omega)) dX10_sets_150 (fun H locs I135 eI135 hM hS => ?_)
                    subst eI135
                    have hI := hI.putF (n := 1014) (k := ((a0).toNatClampNeg)) (v := a2) rfl
                    have hK := hK.put (n := 1014) (k := ((a0).toNatClampNeg)) (v := a2) (by first | rfl | simp [inR])
                    refine lv_goto (tgt := 176) hx hb dX10_sets_151 (by decide) ?_
                    refine lv_iload hx hb dX10_sets_176 (lv_at hl 0 rfl) ?_
                    have hsr : srow a1 = 14 := by unfold srow; rw [if_neg (by omega), if_pos (by omega)]
                    exact m_iret hx hb hr hlocks hM hS (Nat.le_of_ble_eq_true rfl) (Nat.le_of_ble_eq_true rfl) ⟨_, _, rfl, hI, hK, (Or.inl ⟨⟨by omega, by unfold okE; omega⟩, by rw [hsr]; rfl, by rw [hsr]; exact (live_st (n := 14) EqV.rf)⟩)⟩ dX10_sets_178
                · have hc130 := c130
                  have q130 := q_eq hc130
                  refine lv_aload_n hx hb dX10_sets_129 rfl (lv_at hl 1 rfl) ?_
                  refine m_getr (1000) 9 (1009) hx hb hts hown hE oc10 hM hJ.1 rfl (by decide) rfl (hJ.2 9 (by decide)).2 (by decide) tb_1186 dX10_sets_130 ?_
                  refine lv_iload_n hx hb dX10_sets_133 rfl (lv_at hl 2 rfl) ?_
                  refine lv_iload_n hx hb dX10_sets_134 rfl (lv_at hl 4 rfl) ?_
                  refine m_iast (1009) hx hb hE hM hS (hJ.2 9 (by decide)).1 rfl (vp_in_iff.mpr (by omega)) dX10_sets_135 (fun H locs I136 eI136 hM hS => ?_)
                  subst eI136
                  have hI := hI.putF (n := 1009) (k := ((a0).toNatClampNeg)) (v := a2) rfl
                  have hK := hK.put (n := 1009) (k := ((a0).toNatClampNeg)) (v := a2) (by first | rfl | simp [inR])
                  refine lv_goto (tgt := 176) hx hb dX10_sets_136 (by decide) ?_
                  refine lv_iload hx hb dX10_sets_176 (lv_at hl 0 rfl) ?_
                  exact m_iret hx hb hr hlocks hM hS (Nat.le_of_ble_eq_true rfl) (Nat.le_of_ble_eq_true rfl) ⟨_, _, rfl, hI, hK, (by exfalso; omega)⟩ dX10_sets_178
            · have hc113 := c113
              have q113 := q_eq hc113
              refine lv_aload_n hx hb dX10_sets_80 rfl (lv_at hl 0 rfl) ?_
              refine m_getr (1000) 9 (1009) hx hb hts hown hE oc10 hM hJ.1 rfl (by decide) rfl (hJ.2 9 (by decide)).2 (by decide) tb_1186 dX10_sets_81 ?_
              refine lv_iload_n hx hb dX10_sets_84 rfl (lv_at hl 1 rfl) ?_
              refine m_iald (1009) hx hb hE hM (hJ.2 9 (by decide)).1 rfl (vp_in_iff.mpr (by omega)) dX10_sets_85 ?_
              refine lv_goto (tgt := 123) hx hb dX10_sets_86 (by decide) ?_
              refine lv_istore (lv' := [(4, .int (I (1009) (a0).toNatClampNeg)), (0, .ref (ad (1000))), (1, .int (a0)), (2, .int (a1)), (3, .int (a2))]) hx hb dX10_sets_123 hl (by decide) rfl (fun ls hl => ?_)
              refine lv_iload_n hx hb dX10_sets_125 rfl (lv_at hl 3 rfl) ?_
              refine lv_if_ne (tgt := 139) hx hb dX10_sets_126 (by decide) (fun c137 => ?_) (fun c137 => ?_)
              · have hc137 := c137
                have q137 := q_ne hc137
                refine lv_iload_n hx hb dX10_sets_139 rfl (lv_at hl 3 rfl) ?_
                refine lv_iconst (v := (1)) hx hb dX10_sets_140 (by decide) ?_
                refine lv_icmp_ne (tgt := 154) hx hb dX10_sets_141 (by decide) (fun c138 => ?_) (fun c138 => ?_)
                · have hc138 := c138
                  have q138 := q_ne hc138
                  refine lv_iload_n hx hb dX10_sets_154 rfl (lv_at hl 3 rfl) ?_
                  refine lv_iconst (v := (2)) hx hb dX10_sets_155 (by decide) ?_
                  refine lv_icmp_ne (tgt := 169) hx hb dX10_sets_156 (by decide) (fun c139 => ?_) (fun c139 => ?_)
                  · have hc139 := c139
                    have q139 := q_ne hc139
                    refine lv_aload_n hx hb dX10_sets_169 rfl (lv_at hl 1 rfl) ?_
                    refine m_getr (1000) 16 (1016) hx hb hts hown hE oc10 hM hJ.1 rfl (by decide) rfl (hJ.2 16 (by decide)).2 (by decide) tb_1193 dX10_sets_170 ?_
                    refine lv_iload_n hx hb dX10_sets_173 rfl (lv_at hl 2 rfl) ?_
                    refine lv_iload_n hx hb dX10_sets_174 rfl (lv_at hl 4 rfl) ?_
                    refine m_iast (1016) hx hb hE hM hS (hJ.2 16 (by decide)).1 rfl (vp_in_iff.mpr (by omega)) dX10_sets_175 (fun H locs I140 eI140 hM hS => ?_)
                    subst eI140
                    have hI := hI.putF (n := 1016) (k := ((a0).toNatClampNeg)) (v := a2) rfl
                    have hK := hK.put (n := 1016) (k := ((a0).toNatClampNeg)) (v := a2) (by first | rfl | simp [inR])
                    refine lv_iload hx hb dX10_sets_176 (lv_at hl 0 rfl) ?_
                    exact m_iret hx hb hr hlocks hM hS (Nat.le_of_ble_eq_true rfl) (Nat.le_of_ble_eq_true rfl) ⟨_, _, rfl, hI, hK, (by exfalso; omega)⟩ dX10_sets_178
                  · have hc139 := c139
                    have q139 := q_eq hc139
                    refine lv_aload_n hx hb dX10_sets_159 rfl (lv_at hl 1 rfl) ?_
                    refine m_getr (1000) 15 (1015) hx hb hts hown hE oc10 hM hJ.1 rfl (by decide) rfl (hJ.2 15 (by decide)).2 (by decide) tb_1192 dX10_sets_160 ?_
                    refine lv_iload_n hx hb dX10_sets_163 rfl (lv_at hl 2 rfl) ?_
                    refine lv_iload_n hx hb dX10_sets_164 rfl (lv_at hl 4 rfl) ?_
                    refine m_iast (1015) hx hb hE hM hS (hJ.2 15 (by decide)).1 rfl (vp_in_iff.mpr (by omega)) dX10_sets_165 (fun H locs I141 eI141 hM hS => ?_)
                    subst eI141
                    have hI := hI.putF (n := 1015) (k := ((a0).toNatClampNeg)) (v := a2) rfl
                    have hK := hK.put (n := 1015) (k := ((a0).toNatClampNeg)) (v := a2) (by first | rfl | simp [inR])
                    refine lv_goto (tgt := 176) hx hb dX10_sets_166 (by decide) ?_
                    refine lv_iload hx hb dX10_sets_176 (lv_at hl 0 rfl) ?_
                    exact m_iret hx hb hr hlocks hM hS (Nat.le_of_ble_eq_true rfl) (Nat.le_of_ble_eq_true rfl) ⟨_, _, rfl, hI, hK, (by exfalso; omega)⟩ dX10_sets_178
                · have hc138 := c138
                  have q138 := q_eq hc138
                  refine lv_aload_n hx hb dX10_sets_144 rfl (lv_at hl 1 rfl) ?_
                  refine m_getr (1000) 14 (1014) hx hb hts hown hE oc10 hM hJ.1 rfl (by decide) rfl (hJ.2 14 (by decide)).2 (by decide) tb_1191 dX10_sets_145 ?_
                  refine lv_iload_n hx hb dX10_sets_148 rfl (lv_at hl 2 rfl) ?_
                  refine lv_iload_n hx hb dX10_sets_149 rfl (lv_at hl 4 rfl) ?_
                  refine m_iast (1014) hx hb hE hM hS (hJ.2 14 (by decide)).1 rfl (vp_in_iff.mpr (by omega)) dX10_sets_150 (fun H locs I142 eI142 hM hS => ?_)
                  subst eI142
                  have hI := hI.putF (n := 1014) (k := ((a0).toNatClampNeg)) (v := a2) rfl
                  have hK := hK.put (n := 1014) (k := ((a0).toNatClampNeg)) (v := a2) (by first | rfl | simp [inR])
                  refine lv_goto (tgt := 176) hx hb dX10_sets_151 (by decide) ?_
                  refine lv_iload hx hb dX10_sets_176 (lv_at hl 0 rfl) ?_
                  exact m_iret hx hb hr hlocks hM hS (Nat.le_of_ble_eq_true rfl) (Nat.le_of_ble_eq_true rfl) ⟨_, _, rfl, hI, hK, (by exfalso; omega)⟩ dX10_sets_178
              · have hc137 := c137
                have q137 := q_eq hc137
                refine lv_aload_n hx hb dX10_sets_129 rfl (lv_at hl 1 rfl) ?_
                refine m_getr (1000) 9 (1009) hx hb hts hown hE oc10 hM hJ.1 rfl (by decide) rfl (hJ.2 9 (by decide)).2 (by decide) tb_1186 dX10_sets_130 ?_
                refine lv_iload_n hx hb dX10_sets_133 rfl (lv_at hl 2 rfl) ?_
                refine lv_iload_n hx hb dX10_sets_134 rfl (lv_at hl 4 rfl) ?_
                refine m_iast (1009) hx hb hE hM hS (hJ.2 9 (by decide)).1 rfl (vp_in_iff.mpr (by omega)) dX10_sets_135 (fun H locs I143 eI143 hM hS => ?_)
                subst eI143
                have hI := hI.putF (n := 1009) (k := ((a0).toNatClampNeg)) (v := a2) rfl
                have hK := hK.put (n := 1009) (k := ((a0).toNatClampNeg)) (v := a2) (by first | rfl | simp [inR])
                refine lv_goto (tgt := 176) hx hb dX10_sets_136 (by decide) ?_
                refine lv_iload hx hb dX10_sets_176 (lv_at hl 0 rfl) ?_
                have hsr : srow a1 = 9 := by unfold srow; rw [if_pos (by omega)]
                exact m_iret hx hb hr hlocks hM hS (Nat.le_of_ble_eq_true rfl) (Nat.le_of_ble_eq_true rfl) ⟨_, _, rfl, hI, hK, (Or.inl ⟨⟨by omega, by unfold okE; omega⟩, by rw [hsr]; rfl, by rw [hsr]; exact (live_st (n := 9) EqV.rf)⟩)⟩ dX10_sets_178
          · have hc112 := c112
            have q112 := xr111.f hc112
            refine lv_bipush (v := (-2)) hx hb dX10_sets_73 (by decide) ?_
            exact m_iret hx hb hr hlocks hM hS (Nat.le_of_ble_eq_true rfl) (Nat.le_of_ble_eq_true rfl) ⟨_, _, rfl, hI, hK, (Or.inr ⟨fun hh => by have h2 := hh.2; unfold okE at h2; omega, rfl, rfl⟩)⟩ dX10_sets_75
      · have hc8 := c8
        have q8 := q_eq hc8
        refine lv_ldc2 (v := (-1)) hx hb hown (hts _ tb_1467) dX10_sets_27 ?_
        refine lv_goto (tgt := 34) hx hb dX10_sets_30 (by decide) ?_
        refine lv_iload_n hx hb dX10_sets_34 rfl (lv_at hl 2 rfl) ?_
        refine lv_if_ne (tgt := 44) hx hb dX10_sets_35 (by decide) (fun c144 => ?_) (fun c144 => ?_)
        · have hc144 := c144
          have q144 := q_ne hc144
          refine lv_iload_n hx hb dX10_sets_44 rfl (lv_at hl 2 rfl) ?_
          refine lv_iconst (v := (1)) hx hb dX10_sets_45 (by decide) ?_
          refine lv_icmp_ne (tgt := 55) hx hb dX10_sets_46 (by decide) (fun c145 => ?_) (fun c145 => ?_)
          · have hc145 := c145
            have q145 := q_ne hc145
            refine lv_iload_n hx hb dX10_sets_55 rfl (lv_at hl 2 rfl) ?_
            refine lv_iconst (v := (2)) hx hb dX10_sets_56 (by decide) ?_
            refine lv_icmp_ne (tgt := 64) hx hb dX10_sets_57 (by decide) (fun c146 => ?_) (fun c146 => ?_)
            · have hc146 := c146
              have q146 := q_ne hc146
              refine lv_ldc2 (v := (99999)) hx hb hown (hts _ tb_1452) dX10_sets_64 ?_
              refine m_calli (m_runS (As := [.long (v7), .long ((-1 : Int64)), .long ((99999 : Int64))]) (rest := []) hx hb hml hown hts hE hM hS hA ce_X10_in tb_1425 (V_X10_in l D A ad ns I L G (v7) ((-1 : Int64)) ((99999 : Int64)) hI) rfl rfl ⟨Nat.le_of_ble_eq_true rfl, Nat.le_of_ble_eq_true rfl⟩  rfl hl.1 rfl (Nat.le_of_ble_eq_true rfl) dX10_sets_67 ⟨Nat.le_of_ble_eq_true rfl, Nat.le_of_ble_eq_true rfl⟩) hS (fun r147 u H locs hw hM hS => ?_)
              obtain ⟨rfl, xr147⟩ := hw
              have hM : Mem D A ad ns I L G H := hM
              have yr147 := bo01 xr147
              refine lv_if_ne (tgt := 76) hx hb dX10_sets_70 (by decide) (fun c148 => ?_) (fun c148 => ?_)
              · have hc148 := c148
                have q148 := xr147.t hc148
                refine lv_iload_n hx hb dX10_sets_76 rfl (lv_at hl 2 rfl) ?_
                refine lv_if_ne (tgt := 89) hx hb dX10_sets_77 (by decide) (fun c149 => ?_) (fun c149 => ?_)
                · have hc149 := c149
                  have q149 := q_ne hc149
                  refine lv_iload_n hx hb dX10_sets_89 rfl (lv_at hl 2 rfl) ?_
                  refine lv_iconst (v := (1)) hx hb dX10_sets_90 (by decide) ?_
                  refine lv_icmp_ne (tgt := 103) hx hb dX10_sets_91 (by decide) (fun c150 => ?_) (fun c150 => ?_)
                  · have hc150 := c150
                    have q150 := q_ne hc150
                    refine lv_iload_n hx hb dX10_sets_103 rfl (lv_at hl 2 rfl) ?_
                    refine lv_iconst (v := (2)) hx hb dX10_sets_104 (by decide) ?_
                    refine lv_icmp_ne (tgt := 117) hx hb dX10_sets_105 (by decide) (fun c151 => ?_) (fun c151 => ?_)
                    · have hc151 := c151
                      have q151 := q_ne hc151
                      refine lv_aload_n hx hb dX10_sets_117 rfl (lv_at hl 0 rfl) ?_
                      refine m_getr (1000) 16 (1016) hx hb hts hown hE oc10 hM hJ.1 rfl (by decide) rfl (hJ.2 16 (by decide)).2 (by decide) tb_1193 dX10_sets_118 ?_
                      refine lv_iload_n hx hb dX10_sets_121 rfl (lv_at hl 1 rfl) ?_
                      refine m_iald (1016) hx hb hE hM (hJ.2 16 (by decide)).1 rfl (vp_in_iff.mpr (by omega)) dX10_sets_122 ?_
                      refine lv_istore (lv' := [(4, .int (I (1016) (a0).toNatClampNeg)), (0, .ref (ad (1000))), (1, .int (a0)), (2, .int (a1)), (3, .int (a2))]) hx hb dX10_sets_123 hl (by decide) rfl (fun ls hl => ?_)
                      refine lv_iload_n hx hb dX10_sets_125 rfl (lv_at hl 3 rfl) ?_
                      refine lv_if_ne (tgt := 139) hx hb dX10_sets_126 (by decide) (fun c152 => ?_) (fun c152 => ?_)
                      · have hc152 := c152
                        have q152 := q_ne hc152
                        refine lv_iload_n hx hb dX10_sets_139 rfl (lv_at hl 3 rfl) ?_
                        refine lv_iconst (v := (1)) hx hb dX10_sets_140 (by decide) ?_
                        refine lv_icmp_ne (tgt := 154) hx hb dX10_sets_141 (by decide) (fun c153 => ?_) (fun c153 => ?_)
                        · have hc153 := c153
                          have q153 := q_ne hc153
                          refine lv_iload_n hx hb dX10_sets_154 rfl (lv_at hl 3 rfl) ?_
                          refine lv_iconst (v := (2)) hx hb dX10_sets_155 (by decide) ?_
                          refine lv_icmp_ne (tgt := 169) hx hb dX10_sets_156 (by decide) (fun c154 => ?_) (fun c154 => ?_)
                          · have hc154 := c154
                            have q154 := q_ne hc154
                            refine lv_aload_n hx hb dX10_sets_169 rfl (lv_at hl 1 rfl) ?_
                            refine m_getr (1000) 16 (1016) hx hb hts hown hE oc10 hM hJ.1 rfl (by decide) rfl (hJ.2 16 (by decide)).2 (by decide) tb_1193 dX10_sets_170 ?_
                            refine lv_iload_n hx hb dX10_sets_173 rfl (lv_at hl 2 rfl) ?_
                            refine lv_iload_n hx hb dX10_sets_174 rfl (lv_at hl 4 rfl) ?_
                            refine m_iast (1016) hx hb hE hM hS (hJ.2 16 (by decide)).1 rfl (vp_in_iff.mpr (by omega)) dX10_sets_175 (fun H locs I155 eI155 hM hS => ?_)
                            subst eI155
                            have hI := hI.putF (n := 1016) (k := ((a0).toNatClampNeg)) (v := a2) rfl
                            have hK := hK.put (n := 1016) (k := ((a0).toNatClampNeg)) (v := a2) (by first | rfl | simp [inR])
                            refine lv_iload hx hb dX10_sets_176 (lv_at hl 0 rfl) ?_
                            have hsr : srow a1 = 16 := by unfold srow; rw [if_neg (by omega), if_neg (by omega), if_neg (by omega)]
                            exact m_iret hx hb hr hlocks hM hS (Nat.le_of_ble_eq_true rfl) (Nat.le_of_ble_eq_true rfl) ⟨_, _, rfl, hI, hK, (Or.inl ⟨⟨by omega, by unfold okE; omega⟩, by rw [hsr]; rfl, by rw [hsr]; exact (live_st (n := 16) EqV.rf)⟩)⟩ dX10_sets_178
                          · have hc154 := c154
                            have q154 := q_eq hc154
                            refine lv_aload_n hx hb dX10_sets_159 rfl (lv_at hl 1 rfl) ?_
                            refine m_getr (1000) 15 (1015) hx hb hts hown hE oc10 hM hJ.1 rfl (by decide) rfl (hJ.2 15 (by decide)).2 (by decide) tb_1192 dX10_sets_160 ?_
                            refine lv_iload_n hx hb dX10_sets_163 rfl (lv_at hl 2 rfl) ?_
                            refine lv_iload_n hx hb dX10_sets_164 rfl (lv_at hl 4 rfl) ?_
                            refine m_iast (1015) hx hb hE hM hS (hJ.2 15 (by decide)).1 rfl (vp_in_iff.mpr (by omega)) dX10_sets_165 (fun H locs I156 eI156 hM hS => ?_)
                            subst eI156
                            have hI := hI.putF (n := 1015) (k := ((a0).toNatClampNeg)) (v := a2) rfl
                            have hK := hK.put (n := 1015) (k := ((a0).toNatClampNeg)) (v := a2) (by first | rfl | simp [inR])
                            refine lv_goto (tgt := 176) hx hb dX10_sets_166 (by decide) ?_
                            refine lv_iload hx hb dX10_sets_176 (lv_at hl 0 rfl) ?_
                            exact m_iret hx hb hr hlocks hM hS (Nat.le_of_ble_eq_true rfl) (Nat.le_of_ble_eq_true rfl) ⟨_, _, rfl, hI, hK, (by exfalso; omega)⟩ dX10_sets_178
                        · have hc153 := c153
                          have q153 := q_eq hc153
                          refine lv_aload_n hx hb dX10_sets_144 rfl (lv_at hl 1 rfl) ?_
                          refine m_getr (1000) 14 (1014) hx hb hts hown hE oc10 hM hJ.1 rfl (by decide) rfl (hJ.2 14 (by decide)).2 (by decide) tb_1191 dX10_sets_145 ?_
                          refine lv_iload_n hx hb dX10_sets_148 rfl (lv_at hl 2 rfl) ?_
                          refine lv_iload_n hx hb dX10_sets_149 rfl (lv_at hl 4 rfl) ?_
                          refine m_iast (1014) hx hb hE hM hS (hJ.2 14 (by decide)).1 rfl (vp_in_iff.mpr (by omega)) dX10_sets_150 (fun H locs I157 eI157 hM hS => ?_)
                          subst eI157
                          have hI := hI.putF (n := 1014) (k := ((a0).toNatClampNeg)) (v := a2) rfl
                          have hK := hK.put (n := 1014) (k := ((a0).toNatClampNeg)) (v := a2) (by first | rfl | simp [inR])
                          refine lv_goto (tgt := 176) hx hb dX10_sets_151 (by decide) ?_
                          refine lv_iload hx hb dX10_sets_176 (lv_at hl 0 rfl) ?_
                          exact m_iret hx hb hr hlocks hM hS (Nat.le_of_ble_eq_true rfl) (Nat.le_of_ble_eq_true rfl) ⟨_, _, rfl, hI, hK, (by exfalso; omega)⟩ dX10_sets_178
                      · have hc152 := c152
                        have q152 := q_eq hc152
                        refine lv_aload_n hx hb dX10_sets_129 rfl (lv_at hl 1 rfl) ?_
                        refine m_getr (1000) 9 (1009) hx hb hts hown hE oc10 hM hJ.1 rfl (by decide) rfl (hJ.2 9 (by decide)).2 (by decide) tb_1186 dX10_sets_130 ?_
                        refine lv_iload_n hx hb dX10_sets_133 rfl (lv_at hl 2 rfl) ?_
                        refine lv_iload_n hx hb dX10_sets_134 rfl (lv_at hl 4 rfl) ?_
                        refine m_iast (1009) hx hb hE hM hS (hJ.2 9 (by decide)).1 rfl (vp_in_iff.mpr (by omega)) dX10_sets_135 (fun H locs I158 eI158 hM hS => ?_)
                        subst eI158
                        have hI := hI.putF (n := 1009) (k := ((a0).toNatClampNeg)) (v := a2) rfl
                        have hK := hK.put (n := 1009) (k := ((a0).toNatClampNeg)) (v := a2) (by first | rfl | simp [inR])
                        refine lv_goto (tgt := 176) hx hb dX10_sets_136 (by decide) ?_
                        refine lv_iload hx hb dX10_sets_176 (lv_at hl 0 rfl) ?_
                        exact m_iret hx hb hr hlocks hM hS (Nat.le_of_ble_eq_true rfl) (Nat.le_of_ble_eq_true rfl) ⟨_, _, rfl, hI, hK, (by exfalso; omega)⟩ dX10_sets_178
                    · have hc151 := c151
                      have q151 := q_eq hc151
                      refine lv_aload_n hx hb dX10_sets_108 rfl (lv_at hl 0 rfl) ?_
                      refine m_getr (1000) 15 (1015) hx hb hts hown hE oc10 hM hJ.1 rfl (by decide) rfl (hJ.2 15 (by decide)).2 (by decide) tb_1192 dX10_sets_109 ?_
                      refine lv_iload_n hx hb dX10_sets_112 rfl (lv_at hl 1 rfl) ?_
                      refine m_iald (1015) hx hb hE hM (hJ.2 15 (by decide)).1 rfl (vp_in_iff.mpr (by omega)) dX10_sets_113 ?_
                      refine lv_goto (tgt := 123) hx hb dX10_sets_114 (by decide) ?_
                      refine lv_istore (lv' := [(4, .int (I (1015) (a0).toNatClampNeg)), (0, .ref (ad (1000))), (1, .int (a0)), (2, .int (a1)), (3, .int (a2))]) hx hb dX10_sets_123 hl (by decide) rfl (fun ls hl => ?_)
                      refine lv_iload_n hx hb dX10_sets_125 rfl (lv_at hl 3 rfl) ?_
                      refine lv_if_ne (tgt := 139) hx hb dX10_sets_126 (by decide) (fun c159 => ?_) (fun c159 => ?_)
                      · have hc159 := c159
                        have q159 := q_ne hc159
                        refine lv_iload_n hx hb dX10_sets_139 rfl (lv_at hl 3 rfl) ?_
                        refine lv_iconst (v := (1)) hx hb dX10_sets_140 (by decide) ?_
                        refine lv_icmp_ne (tgt := 154) hx hb dX10_sets_141 (by decide) (fun c160 => ?_) (fun c160 => ?_)
                        · have hc160 := c160
                          have q160 := q_ne hc160
                          refine lv_iload_n hx hb dX10_sets_154 rfl (lv_at hl 3 rfl) ?_
                          refine lv_iconst (v := (2)) hx hb dX10_sets_155 (by decide) ?_
                          refine lv_icmp_ne (tgt := 169) hx hb dX10_sets_156 (by decide) (fun c161 => ?_) (fun c161 => ?_)
                          · have hc161 := c161
                            have q161 := q_ne hc161
                            refine lv_aload_n hx hb dX10_sets_169 rfl (lv_at hl 1 rfl) ?_
                            refine m_getr (1000) 16 (1016) hx hb hts hown hE oc10 hM hJ.1 rfl (by decide) rfl (hJ.2 16 (by decide)).2 (by decide) tb_1193 dX10_sets_170 ?_
                            refine lv_iload_n hx hb dX10_sets_173 rfl (lv_at hl 2 rfl) ?_
                            refine lv_iload_n hx hb dX10_sets_174 rfl (lv_at hl 4 rfl) ?_
                            refine m_iast (1016) hx hb hE hM hS (hJ.2 16 (by decide)).1 rfl (vp_in_iff.mpr (by omega)) dX10_sets_175 (fun H locs I162 eI162 hM hS => ?_)
                            subst eI162
                            have hI := hI.putF (n := 1016) (k := ((a0).toNatClampNeg)) (v := a2) rfl
                            have hK := hK.put (n := 1016) (k := ((a0).toNatClampNeg)) (v := a2) (by first | rfl | simp [inR])
                            refine lv_iload hx hb dX10_sets_176 (lv_at hl 0 rfl) ?_
                            exact m_iret hx hb hr hlocks hM hS (Nat.le_of_ble_eq_true rfl) (Nat.le_of_ble_eq_true rfl) ⟨_, _, rfl, hI, hK, (by exfalso; omega)⟩ dX10_sets_178
                          · have hc161 := c161
                            have q161 := q_eq hc161
                            refine lv_aload_n hx hb dX10_sets_159 rfl (lv_at hl 1 rfl) ?_
                            refine m_getr (1000) 15 (1015) hx hb hts hown hE oc10 hM hJ.1 rfl (by decide) rfl (hJ.2 15 (by decide)).2 (by decide) tb_1192 dX10_sets_160 ?_
                            refine lv_iload_n hx hb dX10_sets_163 rfl (lv_at hl 2 rfl) ?_
                            refine lv_iload_n hx hb dX10_sets_164 rfl (lv_at hl 4 rfl) ?_
                            refine m_iast (1015) hx hb hE hM hS (hJ.2 15 (by decide)).1 rfl (vp_in_iff.mpr (by omega)) dX10_sets_165 (fun H locs I163 eI163 hM hS => ?_)
                            subst eI163
                            have hI := hI.putF (n := 1015) (k := ((a0).toNatClampNeg)) (v := a2) rfl
                            have hK := hK.put (n := 1015) (k := ((a0).toNatClampNeg)) (v := a2) (by first | rfl | simp [inR])
                            refine lv_goto (tgt := 176) hx hb dX10_sets_166 (by decide) ?_
                            refine lv_iload hx hb dX10_sets_176 (lv_at hl 0 rfl) ?_
                            have hsr : srow a1 = 15 := by unfold srow; rw [if_neg (by omega), if_neg (by omega), if_pos (by omega)]
                            exact m_iret hx hb hr hlocks hM hS (Nat.le_of_ble_eq_true rfl) (Nat.le_of_ble_eq_true rfl) ⟨_, _, rfl, hI, hK, (Or.inl ⟨⟨by omega, by unfold okE; omega⟩, by rw [hsr]; rfl, by rw [hsr]; exact (live_st (n := 15) EqV.rf)⟩)⟩ dX10_sets_178
                        · have hc160 := c160
                          have q160 := q_eq hc160
                          refine lv_aload_n hx hb dX10_sets_144 rfl (lv_at hl 1 rfl) ?_
                          refine m_getr (1000) 14 (1014) hx hb hts hown hE oc10 hM hJ.1 rfl (by decide) rfl (hJ.2 14 (by decide)).2 (by decide) tb_1191 dX10_sets_145 ?_
                          refine lv_iload_n hx hb dX10_sets_148 rfl (lv_at hl 2 rfl) ?_
                          refine lv_iload_n hx hb dX10_sets_149 rfl (lv_at hl 4 rfl) ?_
                          refine m_iast (1014) hx hb hE hM hS (hJ.2 14 (by decide)).1 rfl (vp_in_iff.mpr (by omega)) dX10_sets_150 (fun H locs I164 eI164 hM hS => ?_)
                          subst eI164
                          have hI := hI.putF (n := 1014) (k := ((a0).toNatClampNeg)) (v := a2) rfl
                          have hK := hK.put (n := 1014) (k := ((a0).toNatClampNeg)) (v := a2) (by first | rfl | simp [inR])
                          refine lv_goto (tgt := 176) hx hb dX10_sets_151 (by decide) ?_
                          refine lv_iload hx hb dX10_sets_176 (lv_at hl 0 rfl) ?_
                          exact m_iret hx hb hr hlocks hM hS (Nat.le_of_ble_eq_true rfl) (Nat.le_of_ble_eq_true rfl) ⟨_, _, rfl, hI, hK, (by exfalso; omega)⟩ dX10_sets_178
                      · have hc159 := c159
                        have q159 := q_eq hc159
                        refine lv_aload_n hx hb dX10_sets_129 rfl (lv_at hl 1 rfl) ?_
                        refine m_getr (1000) 9 (1009) hx hb hts hown hE oc10 hM hJ.1 rfl (by decide) rfl (hJ.2 9 (by decide)).2 (by decide) tb_1186 dX10_sets_130 ?_
                        refine lv_iload_n hx hb dX10_sets_133 rfl (lv_at hl 2 rfl) ?_
                        refine lv_iload_n hx hb dX10_sets_134 rfl (lv_at hl 4 rfl) ?_
                        refine m_iast (1009) hx hb hE hM hS (hJ.2 9 (by decide)).1 rfl (vp_in_iff.mpr (by omega)) dX10_sets_135 (fun H locs I165 eI165 hM hS => ?_)
                        subst eI165
                        have hI := hI.putF (n := 1009) (k := ((a0).toNatClampNeg)) (v := a2) rfl
                        have hK := hK.put (n := 1009) (k := ((a0).toNatClampNeg)) (v := a2) (by first | rfl | simp [inR])
                        refine lv_goto (tgt := 176) hx hb dX10_sets_136 (by decide) ?_
                        refine lv_iload hx hb dX10_sets_176 (lv_at hl 0 rfl) ?_
                        exact m_iret hx hb hr hlocks hM hS (Nat.le_of_ble_eq_true rfl) (Nat.le_of_ble_eq_true rfl) ⟨_, _, rfl, hI, hK, (by exfalso; omega)⟩ dX10_sets_178
                  · have hc150 := c150
                    have q150 := q_eq hc150
                    refine lv_aload_n hx hb dX10_sets_94 rfl (lv_at hl 0 rfl) ?_
                    refine m_getr (1000) 14 (1014) hx hb hts hown hE oc10 hM hJ.1 rfl (by decide) rfl (hJ.2 14 (by decide)).2 (by decide) tb_1191 dX10_sets_95 ?_
                    refine lv_iload_n hx hb dX10_sets_98 rfl (lv_at hl 1 rfl) ?_
                    refine m_iald (1014) hx hb hE hM (hJ.2 14 (by decide)).1 rfl (vp_in_iff.mpr (by omega)) dX10_sets_99 ?_
                    refine lv_goto (tgt := 123) hx hb dX10_sets_100 (by decide) ?_
                    refine lv_istore (lv' := [(4, .int (I (1014) (a0).toNatClampNeg)), (0, .ref (ad (1000))), (1, .int (a0)), (2, .int (a1)), (3, .int (a2))]) hx hb dX10_sets_123 hl (by decide) rfl (fun ls hl => ?_)
                    refine lv_iload_n hx hb dX10_sets_125 rfl (lv_at hl 3 rfl) ?_
                    refine lv_if_ne (tgt := 139) hx hb dX10_sets_126 (by decide) (fun c166 => ?_) (fun c166 => ?_)
                    · have hc166 := c166
                      have q166 := q_ne hc166
                      refine lv_iload_n hx hb dX10_sets_139 rfl (lv_at hl 3 rfl) ?_
                      refine lv_iconst (v := (1)) hx hb dX10_sets_140 (by decide) ?_
                      refine lv_icmp_ne (tgt := 154) hx hb dX10_sets_141 (by decide) (fun c167 => ?_) (fun c167 => ?_)
                      · have hc167 := c167
                        have q167 := q_ne hc167
                        refine lv_iload_n hx hb dX10_sets_154 rfl (lv_at hl 3 rfl) ?_
                        refine lv_iconst (v := (2)) hx hb dX10_sets_155 (by decide) ?_
                        refine lv_icmp_ne (tgt := 169) hx hb dX10_sets_156 (by decide) (fun c168 => ?_) (fun c168 => ?_)
                        · have hc168 := c168
                          have q168 := q_ne hc168
                          refine lv_aload_n hx hb dX10_sets_169 rfl (lv_at hl 1 rfl) ?_
                          refine m_getr (1000) 16 (1016) hx hb hts hown hE oc10 hM hJ.1 rfl (by decide) rfl (hJ.2 16 (by decide)).2 (by decide) tb_1193 dX10_sets_170 ?_
                          refine lv_iload_n hx hb dX10_sets_173 rfl (lv_at hl 2 rfl) ?_
                          refine lv_iload_n hx hb dX10_sets_174 rfl (lv_at hl 4 rfl) ?_
                          refine m_iast (1016) hx hb hE hM hS (hJ.2 16 (by decide)).1 rfl (vp_in_iff.mpr (by omega)) dX10_sets_175 (fun H locs I169 eI169 hM hS => ?_)
                          subst eI169
                          have hI := hI.putF (n := 1016) (k := ((a0).toNatClampNeg)) (v := a2) rfl
                          have hK := hK.put (n := 1016) (k := ((a0).toNatClampNeg)) (v := a2) (by first | rfl | simp [inR])
                          refine lv_iload hx hb dX10_sets_176 (lv_at hl 0 rfl) ?_
                          exact m_iret hx hb hr hlocks hM hS (Nat.le_of_ble_eq_true rfl) (Nat.le_of_ble_eq_true rfl) ⟨_, _, rfl, hI, hK, (by exfalso; omega)⟩ dX10_sets_178
                        · have hc168 := c168
                          have q168 := q_eq hc168
                          refine lv_aload_n hx hb dX10_sets_159 rfl (lv_at hl 1 rfl) ?_
                          refine m_getr (1000) 15 (1015) hx hb hts hown hE oc10 hM hJ.1 rfl (by decide) rfl (hJ.2 15 (by decide)).2 (by decide) tb_1192 dX10_sets_160 ?_
                          refine lv_iload_n hx hb dX10_sets_163 rfl (lv_at hl 2 rfl) ?_
                          refine lv_iload_n hx hb dX10_sets_164 rfl (lv_at hl 4 rfl) ?_
                          refine m_iast (1015) hx hb hE hM hS (hJ.2 15 (by decide)).1 rfl (vp_in_iff.mpr (by omega)) dX10_sets_165 (fun H locs I170 eI170 hM hS => ?_)
                          subst eI170
                          have hI := hI.putF (n := 1015) (k := ((a0).toNatClampNeg)) (v := a2) rfl
                          have hK := hK.put (n := 1015) (k := ((a0).toNatClampNeg)) (v := a2) (by first | rfl | simp [inR])
                          refine lv_goto (tgt := 176) hx hb dX10_sets_166 (by decide) ?_
                          refine lv_iload hx hb dX10_sets_176 (lv_at hl 0 rfl) ?_
                          exact m_iret hx hb hr hlocks hM hS (Nat.le_of_ble_eq_true rfl) (Nat.le_of_ble_eq_true rfl) ⟨_, _, rfl, hI, hK, (by exfalso; omega)⟩ dX10_sets_178
                      · have hc167 := c167
                        have q167 := q_eq hc167
                        refine lv_aload_n hx hb dX10_sets_144 rfl (lv_at hl 1 rfl) ?_
                        refine m_getr (1000) 14 (1014) hx hb hts hown hE oc10 hM hJ.1 rfl (by decide) rfl (hJ.2 14 (by decide)).2 (by decide) tb_1191 dX10_sets_145 ?_
                        refine lv_iload_n hx hb dX10_sets_148 rfl (lv_at hl 2 rfl) ?_
                        refine lv_iload_n hx hb dX10_sets_149 rfl (lv_at hl 4 rfl) ?_
                        refine m_iast (1014) hx hb hE hM hS (hJ.2 14 (by decide)).1 rfl (vp_in_iff.mpr (by omega)) dX10_sets_150 (fun H locs I171 eI171 hM hS => ?_)
                        subst eI171
                        have hI := hI.putF (n := 1014) (k := ((a0).toNatClampNeg)) (v := a2) rfl
                        have hK := hK.put (n := 1014) (k := ((a0).toNatClampNeg)) (v := a2) (by first | rfl | simp [inR])
                        refine lv_goto (tgt := 176) hx hb dX10_sets_151 (by decide) ?_
                        refine lv_iload hx hb dX10_sets_176 (lv_at hl 0 rfl) ?_
                        have hsr : srow a1 = 14 := by unfold srow; rw [if_neg (by omega), if_pos (by omega)]
                        exact m_iret hx hb hr hlocks hM hS (Nat.le_of_ble_eq_true rfl) (Nat.le_of_ble_eq_true rfl) ⟨_, _, rfl, hI, hK, (Or.inl ⟨⟨by omega, by unfold okE; omega⟩, by rw [hsr]; rfl, by rw [hsr]; exact (live_st (n := 14) EqV.rf)⟩)⟩ dX10_sets_178
                    · have hc166 := c166
                      have q166 := q_eq hc166
                      refine lv_aload_n hx hb dX10_sets_129 rfl (lv_at hl 1 rfl) ?_
                      refine m_getr (1000) 9 (1009) hx hb hts hown hE oc10 hM hJ.1 rfl (by decide) rfl (hJ.2 9 (by decide)).2 (by decide) tb_1186 dX10_sets_130 ?_
                      refine lv_iload_n hx hb dX10_sets_133 rfl (lv_at hl 2 rfl) ?_
                      refine lv_iload_n hx hb dX10_sets_134 rfl (lv_at hl 4 rfl) ?_
                      refine m_iast (1009) hx hb hE hM hS (hJ.2 9 (by decide)).1 rfl (vp_in_iff.mpr (by omega)) dX10_sets_135 (fun H locs I172 eI172 hM hS => ?_)
                      subst eI172
                      have hI := hI.putF (n := 1009) (k := ((a0).toNatClampNeg)) (v := a2) rfl
                      have hK := hK.put (n := 1009) (k := ((a0).toNatClampNeg)) (v := a2) (by first | rfl | simp [inR])
                      refine lv_goto (tgt := 176) hx hb dX10_sets_136 (by decide) ?_
                      refine lv_iload hx hb dX10_sets_176 (lv_at hl 0 rfl) ?_
                      exact m_iret hx hb hr hlocks hM hS (Nat.le_of_ble_eq_true rfl) (Nat.le_of_ble_eq_true rfl) ⟨_, _, rfl, hI, hK, (by exfalso; omega)⟩ dX10_sets_178
                · have hc149 := c149
                  have q149 := q_eq hc149
                  refine lv_aload_n hx hb dX10_sets_80 rfl (lv_at hl 0 rfl) ?_
                  refine m_getr (1000) 9 (1009) hx hb hts hown hE oc10 hM hJ.1 rfl (by decide) rfl (hJ.2 9 (by decide)).2 (by decide) tb_1186 dX10_sets_81 ?_
                  refine lv_iload_n hx hb dX10_sets_84 rfl (lv_at hl 1 rfl) ?_
                  refine m_iald (1009) hx hb hE hM (hJ.2 9 (by decide)).1 rfl (vp_in_iff.mpr (by omega)) dX10_sets_85 ?_
                  refine lv_goto (tgt := 123) hx hb dX10_sets_86 (by decide) ?_
                  refine lv_istore (lv' := [(4, .int (I (1009) (a0).toNatClampNeg)), (0, .ref (ad (1000))), (1, .int (a0)), (2, .int (a1)), (3, .int (a2))]) hx hb dX10_sets_123 hl (by decide) rfl (fun ls hl => ?_)
                  refine lv_iload_n hx hb dX10_sets_125 rfl (lv_at hl 3 rfl) ?_
                  refine lv_if_ne (tgt := 139) hx hb dX10_sets_126 (by decide) (fun c173 => ?_) (fun c173 => ?_)
                  · have hc173 := c173
                    have q173 := q_ne hc173
                    refine lv_iload_n hx hb dX10_sets_139 rfl (lv_at hl 3 rfl) ?_
                    refine lv_iconst (v := (1)) hx hb dX10_sets_140 (by decide) ?_
                    refine lv_icmp_ne (tgt := 154) hx hb dX10_sets_141 (by decide) (fun c174 => ?_) (fun c174 => ?_)
                    · have hc174 := c174
                      have q174 := q_ne hc174
                      refine lv_iload_n hx hb dX10_sets_154 rfl (lv_at hl 3 rfl) ?_
                      refine lv_iconst (v := (2)) hx hb dX10_sets_155 (by decide) ?_
                      refine lv_icmp_ne (tgt := 169) hx hb dX10_sets_156 (by decide) (fun c175 => ?_) (fun c175 => ?_)
                      · have hc175 := c175
                        have q175 := q_ne hc175
                        refine lv_aload_n hx hb dX10_sets_169 rfl (lv_at hl 1 rfl) ?_
                        refine m_getr (1000) 16 (1016) hx hb hts hown hE oc10 hM hJ.1 rfl (by decide) rfl (hJ.2 16 (by decide)).2 (by decide) tb_1193 dX10_sets_170 ?_
                        refine lv_iload_n hx hb dX10_sets_173 rfl (lv_at hl 2 rfl) ?_
                        refine lv_iload_n hx hb dX10_sets_174 rfl (lv_at hl 4 rfl) ?_
                        refine m_iast (1016) hx hb hE hM hS (hJ.2 16 (by decide)).1 rfl (vp_in_iff.mpr (by omega)) dX10_sets_175 (fun H locs I176 eI176 hM hS => ?_)
                        subst eI176
                        have hI := hI.putF (n := 1016) (k := ((a0).toNatClampNeg)) (v := a2) rfl
                        have hK := hK.put (n := 1016) (k := ((a0).toNatClampNeg)) (v := a2) (by first | rfl | simp [inR])
                        refine lv_iload hx hb dX10_sets_176 (lv_at hl 0 rfl) ?_
                        exact m_iret hx hb hr hlocks hM hS (Nat.le_of_ble_eq_true rfl) (Nat.le_of_ble_eq_true rfl) ⟨_, _, rfl, hI, hK, (by exfalso; omega)⟩ dX10_sets_178
                      · have hc175 := c175
                        have q175 := q_eq hc175
                        refine lv_aload_n hx hb dX10_sets_159 rfl (lv_at hl 1 rfl) ?_
                        refine m_getr (1000) 15 (1015) hx hb hts hown hE oc10 hM hJ.1 rfl (by decide) rfl (hJ.2 15 (by decide)).2 (by decide) tb_1192 dX10_sets_160 ?_
                        refine lv_iload_n hx hb dX10_sets_163 rfl (lv_at hl 2 rfl) ?_
                        refine lv_iload_n hx hb dX10_sets_164 rfl (lv_at hl 4 rfl) ?_
                        refine m_iast (1015) hx hb hE hM hS (hJ.2 15 (by decide)).1 rfl (vp_in_iff.mpr (by omega)) dX10_sets_165 (fun H locs I177 eI177 hM hS => ?_)
                        subst eI177
                        have hI := hI.putF (n := 1015) (k := ((a0).toNatClampNeg)) (v := a2) rfl
                        have hK := hK.put (n := 1015) (k := ((a0).toNatClampNeg)) (v := a2) (by first | rfl | simp [inR])
                        refine lv_goto (tgt := 176) hx hb dX10_sets_166 (by decide) ?_
                        refine lv_iload hx hb dX10_sets_176 (lv_at hl 0 rfl) ?_
                        exact m_iret hx hb hr hlocks hM hS (Nat.le_of_ble_eq_true rfl) (Nat.le_of_ble_eq_true rfl) ⟨_, _, rfl, hI, hK, (by exfalso; omega)⟩ dX10_sets_178
                    · have hc174 := c174
                      have q174 := q_eq hc174
                      refine lv_aload_n hx hb dX10_sets_144 rfl (lv_at hl 1 rfl) ?_
                      refine m_getr (1000) 14 (1014) hx hb hts hown hE oc10 hM hJ.1 rfl (by decide) rfl (hJ.2 14 (by decide)).2 (by decide) tb_1191 dX10_sets_145 ?_
                      refine lv_iload_n hx hb dX10_sets_148 rfl (lv_at hl 2 rfl) ?_
                      refine lv_iload_n hx hb dX10_sets_149 rfl (lv_at hl 4 rfl) ?_
                      refine m_iast (1014) hx hb hE hM hS (hJ.2 14 (by decide)).1 rfl (vp_in_iff.mpr (by omega)) dX10_sets_150 (fun H locs I178 eI178 hM hS => ?_)
                      subst eI178
                      have hI := hI.putF (n := 1014) (k := ((a0).toNatClampNeg)) (v := a2) rfl
                      have hK := hK.put (n := 1014) (k := ((a0).toNatClampNeg)) (v := a2) (by first | rfl | simp [inR])
                      refine lv_goto (tgt := 176) hx hb dX10_sets_151 (by decide) ?_
                      refine lv_iload hx hb dX10_sets_176 (lv_at hl 0 rfl) ?_
                      exact m_iret hx hb hr hlocks hM hS (Nat.le_of_ble_eq_true rfl) (Nat.le_of_ble_eq_true rfl) ⟨_, _, rfl, hI, hK, (by exfalso; omega)⟩ dX10_sets_178
                  · have hc173 := c173
                    have q173 := q_eq hc173
                    refine lv_aload_n hx hb dX10_sets_129 rfl (lv_at hl 1 rfl) ?_
                    refine m_getr (1000) 9 (1009) hx hb hts hown hE oc10 hM hJ.1 rfl (by decide) rfl (hJ.2 9 (by decide)).2 (by decide) tb_1186 dX10_sets_130 ?_
                    refine lv_iload_n hx hb dX10_sets_133 rfl (lv_at hl 2 rfl) ?_
                    refine lv_iload_n hx hb dX10_sets_134 rfl (lv_at hl 4 rfl) ?_
                    refine m_iast (1009) hx hb hE hM hS (hJ.2 9 (by decide)).1 rfl (vp_in_iff.mpr (by omega)) dX10_sets_135 (fun H locs I179 eI179 hM hS => ?_)
                    subst eI179
                    have hI := hI.putF (n := 1009) (k := ((a0).toNatClampNeg)) (v := a2) rfl
                    have hK := hK.put (n := 1009) (k := ((a0).toNatClampNeg)) (v := a2) (by first | rfl | simp [inR])
                    refine lv_goto (tgt := 176) hx hb dX10_sets_136 (by decide) ?_
                    refine lv_iload hx hb dX10_sets_176 (lv_at hl 0 rfl) ?_
                    have hsr : srow a1 = 9 := by unfold srow; rw [if_pos (by omega)]
                    exact m_iret hx hb hr hlocks hM hS (Nat.le_of_ble_eq_true rfl) (Nat.le_of_ble_eq_true rfl) ⟨_, _, rfl, hI, hK, (Or.inl ⟨⟨by omega, by unfold okE; omega⟩, by rw [hsr]; rfl, by rw [hsr]; exact (live_st (n := 9) EqV.rf)⟩)⟩ dX10_sets_178
              · have hc148 := c148
                have q148 := xr147.f hc148
                refine lv_bipush (v := (-2)) hx hb dX10_sets_73 (by decide) ?_
                exact m_iret hx hb hr hlocks hM hS (Nat.le_of_ble_eq_true rfl) (Nat.le_of_ble_eq_true rfl) ⟨_, _, rfl, hI, hK, (Or.inr ⟨fun hh => by have h2 := hh.2; unfold okE at h2; omega, rfl, rfl⟩)⟩ dX10_sets_75
            · have hc146 := c146
              have q146 := q_eq hc146
              refine lv_lconst (v := 1) hx hb dX10_sets_60 (by decide) ?_
              refine lv_goto (tgt := 67) hx hb dX10_sets_61 (by decide) ?_
              refine m_calli (m_runS (As := [.long (v7), .long ((-1 : Int64)), .long (1)]) (rest := []) hx hb hml hown hts hE hM hS hA ce_X10_in tb_1425 (V_X10_in l D A ad ns I L G (v7) ((-1 : Int64)) (1) hI) rfl rfl ⟨Nat.le_of_ble_eq_true rfl, Nat.le_of_ble_eq_true rfl⟩  rfl hl.1 rfl (Nat.le_of_ble_eq_true rfl) dX10_sets_67 ⟨Nat.le_of_ble_eq_true rfl, Nat.le_of_ble_eq_true rfl⟩) hS (fun r180 u H locs hw hM hS => ?_)
              obtain ⟨rfl, xr180⟩ := hw
              have hM : Mem D A ad ns I L G H := hM
              have yr180 := bo01 xr180
              refine lv_if_ne (tgt := 76) hx hb dX10_sets_70 (by decide) (fun c181 => ?_) (fun c181 => ?_)
              · have hc181 := c181
                have q181 := xr180.t hc181
                refine lv_iload_n hx hb dX10_sets_76 rfl (lv_at hl 2 rfl) ?_
                refine lv_if_ne (tgt := 89) hx hb dX10_sets_77 (by decide) (fun c182 => ?_) (fun c182 => ?_)
                · have hc182 := c182
                  have q182 := q_ne hc182
                  refine lv_iload_n hx hb dX10_sets_89 rfl (lv_at hl 2 rfl) ?_
                  refine lv_iconst (v := (1)) hx hb dX10_sets_90 (by decide) ?_
                  refine lv_icmp_ne (tgt := 103) hx hb dX10_sets_91 (by decide) (fun c183 => ?_) (fun c183 => ?_)
                  · have hc183 := c183
                    have q183 := q_ne hc183
                    refine lv_iload_n hx hb dX10_sets_103 rfl (lv_at hl 2 rfl) ?_
                    refine lv_iconst (v := (2)) hx hb dX10_sets_104 (by decide) ?_
                    refine lv_icmp_ne (tgt := 117) hx hb dX10_sets_105 (by decide) (fun c184 => ?_) (fun c184 => ?_)
                    · have hc184 := c184
                      have q184 := q_ne hc184
                      refine lv_aload_n hx hb dX10_sets_117 rfl (lv_at hl 0 rfl) ?_
                      refine m_getr (1000) 16 (1016) hx hb hts hown hE oc10 hM hJ.1 rfl (by decide) rfl (hJ.2 16 (by decide)).2 (by decide) tb_1193 dX10_sets_118 ?_
                      refine lv_iload_n hx hb dX10_sets_121 rfl (lv_at hl 1 rfl) ?_
                      refine m_iald (1016) hx hb hE hM (hJ.2 16 (by decide)).1 rfl (vp_in_iff.mpr (by omega)) dX10_sets_122 ?_
                      refine lv_istore (lv' := [(4, .int (I (1016) (a0).toNatClampNeg)), (0, .ref (ad (1000))), (1, .int (a0)), (2, .int (a1)), (3, .int (a2))]) hx hb dX10_sets_123 hl (by decide) rfl (fun ls hl => ?_)
                      refine lv_iload_n hx hb dX10_sets_125 rfl (lv_at hl 3 rfl) ?_
                      refine lv_if_ne (tgt := 139) hx hb dX10_sets_126 (by decide) (fun c185 => ?_) (fun c185 => ?_)
                      · have hc185 := c185
                        have q185 := q_ne hc185
                        refine lv_iload_n hx hb dX10_sets_139 rfl (lv_at hl 3 rfl) ?_
                        refine lv_iconst (v := (1)) hx hb dX10_sets_140 (by decide) ?_
                        refine lv_icmp_ne (tgt := 154) hx hb dX10_sets_141 (by decide) (fun c186 => ?_) (fun c186 => ?_)
                        · have hc186 := c186
                          have q186 := q_ne hc186
                          refine lv_iload_n hx hb dX10_sets_154 rfl (lv_at hl 3 rfl) ?_
                          refine lv_iconst (v := (2)) hx hb dX10_sets_155 (by decide) ?_
                          refine lv_icmp_ne (tgt := 169) hx hb dX10_sets_156 (by decide) (fun c187 => ?_) (fun c187 => ?_)
                          · have hc187 := c187
                            have q187 := q_ne hc187
                            refine lv_aload_n hx hb dX10_sets_169 rfl (lv_at hl 1 rfl) ?_
                            refine m_getr (1000) 16 (1016) hx hb hts hown hE oc10 hM hJ.1 rfl (by decide) rfl (hJ.2 16 (by decide)).2 (by decide) tb_1193 dX10_sets_170 ?_
                            refine lv_iload_n hx hb dX10_sets_173 rfl (lv_at hl 2 rfl) ?_
                            refine lv_iload_n hx hb dX10_sets_174 rfl (lv_at hl 4 rfl) ?_
                            refine m_iast (1016) hx hb hE hM hS (hJ.2 16 (by decide)).1 rfl (vp_in_iff.mpr (by omega)) dX10_sets_175 (fun H locs I188 eI188 hM hS => ?_)
                            subst eI188
                            have hI := hI.putF (n := 1016) (k := ((a0).toNatClampNeg)) (v := a2) rfl
                            have hK := hK.put (n := 1016) (k := ((a0).toNatClampNeg)) (v := a2) (by first | rfl | simp [inR])
                            refine lv_iload hx hb dX10_sets_176 (lv_at hl 0 rfl) ?_
                            have hsr : srow a1 = 16 := by unfold srow; rw [if_neg (by omega), if_neg (by omega), if_neg (by omega)]
                            exact m_iret hx hb hr hlocks hM hS (Nat.le_of_ble_eq_true rfl) (Nat.le_of_ble_eq_true rfl) ⟨_, _, rfl, hI, hK, (Or.inl ⟨⟨by omega, by unfold okE; omega⟩, by rw [hsr]; rfl, by rw [hsr]; exact (live_st (n := 16) EqV.rf)⟩)⟩ dX10_sets_178
                          · have hc187 := c187
                            have q187 := q_eq hc187
                            refine lv_aload_n hx hb dX10_sets_159 rfl (lv_at hl 1 rfl) ?_
                            refine m_getr (1000) 15 (1015) hx hb hts hown hE oc10 hM hJ.1 rfl (by decide) rfl (hJ.2 15 (by decide)).2 (by decide) tb_1192 dX10_sets_160 ?_
                            refine lv_iload_n hx hb dX10_sets_163 rfl (lv_at hl 2 rfl) ?_
                            refine lv_iload_n hx hb dX10_sets_164 rfl (lv_at hl 4 rfl) ?_
                            refine m_iast (1015) hx hb hE hM hS (hJ.2 15 (by decide)).1 rfl (vp_in_iff.mpr (by omega)) dX10_sets_165 (fun H locs I189 eI189 hM hS => ?_)
                            subst eI189
                            have hI := hI.putF (n := 1015) (k := ((a0).toNatClampNeg)) (v := a2) rfl
                            have hK := hK.put (n := 1015) (k := ((a0).toNatClampNeg)) (v := a2) (by first | rfl | simp [inR])
                            refine lv_goto (tgt := 176) hx hb dX10_sets_166 (by decide) ?_
                            refine lv_iload hx hb dX10_sets_176 (lv_at hl 0 rfl) ?_
                            exact m_iret hx hb hr hlocks hM hS (Nat.le_of_ble_eq_true rfl) (Nat.le_of_ble_eq_true rfl) ⟨_, _, rfl, hI, hK, (by exfalso; omega)⟩ dX10_sets_178
                        · have hc186 := c186
                          have q186 := q_eq hc186
                          refine lv_aload_n hx hb dX10_sets_144 rfl (lv_at hl 1 rfl) ?_
                          refine m_getr (1000) 14 (1014) hx hb hts hown hE oc10 hM hJ.1 rfl (by decide) rfl (hJ.2 14 (by decide)).2 (by decide) tb_1191 dX10_sets_145 ?_
                          refine lv_iload_n hx hb dX10_sets_148 rfl (lv_at hl 2 rfl) ?_
                          refine lv_iload_n hx hb dX10_sets_149 rfl (lv_at hl 4 rfl) ?_
                          refine m_iast (1014) hx hb hE hM hS (hJ.2 14 (by decide)).1 rfl (vp_in_iff.mpr (by omega)) dX10_sets_150 (fun H locs I190 eI190 hM hS => ?_)
                          subst eI190
                          have hI := hI.putF (n := 1014) (k := ((a0).toNatClampNeg)) (v := a2) rfl
                          have hK := hK.put (n := 1014) (k := ((a0).toNatClampNeg)) (v := a2) (by first | rfl | simp [inR])
                          refine lv_goto (tgt := 176) hx hb dX10_sets_151 (by decide) ?_
                          refine lv_iload hx hb dX10_sets_176 (lv_at hl 0 rfl) ?_
                          exact m_iret hx hb hr hlocks hM hS (Nat.le_of_ble_eq_true rfl) (Nat.le_of_ble_eq_true rfl) ⟨_, _, rfl, hI, hK, (by exfalso; omega)⟩ dX10_sets_178
                      · have hc185 := c185
                        have q185 := q_eq hc185
                        refine lv_aload_n hx hb dX10_sets_129 rfl (lv_at hl 1 rfl) ?_
                        refine m_getr (1000) 9 (1009) hx hb hts hown hE oc10 hM hJ.1 rfl (by decide) rfl (hJ.2 9 (by decide)).2 (by decide) tb_1186 dX10_sets_130 ?_
                        refine lv_iload_n hx hb dX10_sets_133 rfl (lv_at hl 2 rfl) ?_
                        refine lv_iload_n hx hb dX10_sets_134 rfl (lv_at hl 4 rfl) ?_
                        refine m_iast (1009) hx hb hE hM hS (hJ.2 9 (by decide)).1 rfl (vp_in_iff.mpr (by omega)) dX10_sets_135 (fun H locs I191 eI191 hM hS => ?_)
                        subst eI191
                        have hI := hI.putF (n := 1009) (k := ((a0).toNatClampNeg)) (v := a2) rfl
                        have hK := hK.put (n := 1009) (k := ((a0).toNatClampNeg)) (v := a2) (by first | rfl | simp [inR])
                        refine lv_goto (tgt := 176) hx hb dX10_sets_136 (by decide) ?_
                        refine lv_iload hx hb dX10_sets_176 (lv_at hl 0 rfl) ?_
                        exact m_iret hx hb hr hlocks hM hS (Nat.le_of_ble_eq_true rfl) (Nat.le_of_ble_eq_true rfl) ⟨_, _, rfl, hI, hK, (by exfalso; omega)⟩ dX10_sets_178
                    · have hc184 := c184
                      have q184 := q_eq hc184
                      refine lv_aload_n hx hb dX10_sets_108 rfl (lv_at hl 0 rfl) ?_
                      refine m_getr (1000) 15 (1015) hx hb hts hown hE oc10 hM hJ.1 rfl (by decide) rfl (hJ.2 15 (by decide)).2 (by decide) tb_1192 dX10_sets_109 ?_
                      refine lv_iload_n hx hb dX10_sets_112 rfl (lv_at hl 1 rfl) ?_
                      refine m_iald (1015) hx hb hE hM (hJ.2 15 (by decide)).1 rfl (vp_in_iff.mpr (by omega)) dX10_sets_113 ?_
                      refine lv_goto (tgt := 123) hx hb dX10_sets_114 (by decide) ?_
                      refine lv_istore (lv' := [(4, .int (I (1015) (a0).toNatClampNeg)), (0, .ref (ad (1000))), (1, .int (a0)), (2, .int (a1)), (3, .int (a2))]) hx hb dX10_sets_123 hl (by decide) rfl (fun ls hl => ?_)
                      refine lv_iload_n hx hb dX10_sets_125 rfl (lv_at hl 3 rfl) ?_
                      refine lv_if_ne (tgt := 139) hx hb dX10_sets_126 (by decide) (fun c192 => ?_) (fun c192 => ?_)
                      · have hc192 := c192
                        have q192 := q_ne hc192
                        refine lv_iload_n hx hb dX10_sets_139 rfl (lv_at hl 3 rfl) ?_
                        refine lv_iconst (v := (1)) hx hb dX10_sets_140 (by decide) ?_
                        refine lv_icmp_ne (tgt := 154) hx hb dX10_sets_141 (by decide) (fun c193 => ?_) (fun c193 => ?_)
                        · have hc193 := c193
                          have q193 := q_ne hc193
                          refine lv_iload_n hx hb dX10_sets_154 rfl (lv_at hl 3 rfl) ?_
                          refine lv_iconst (v := (2)) hx hb dX10_sets_155 (by decide) ?_
                          refine lv_icmp_ne (tgt := 169) hx hb dX10_sets_156 (by decide) (fun c194 => ?_) (fun c194 => ?_)
                          · have hc194 := c194
                            have q194 := q_ne hc194
                            refine lv_aload_n hx hb dX10_sets_169 rfl (lv_at hl 1 rfl) ?_
                            refine m_getr (1000) 16 (1016) hx hb hts hown hE oc10 hM hJ.1 rfl (by decide) rfl (hJ.2 16 (by decide)).2 (by decide) tb_1193 dX10_sets_170 ?_
                            refine lv_iload_n hx hb dX10_sets_173 rfl (lv_at hl 2 rfl) ?_
                            refine lv_iload_n hx hb dX10_sets_174 rfl (lv_at hl 4 rfl) ?_
                            refine m_iast (1016) hx hb hE hM hS (hJ.2 16 (by decide)).1 rfl (vp_in_iff.mpr (by omega)) dX10_sets_175 (fun H locs I195 eI195 hM hS => ?_)
                            subst eI195
                            have hI := hI.putF (n := 1016) (k := ((a0).toNatClampNeg)) (v := a2) rfl
                            have hK := hK.put (n := 1016) (k := ((a0).toNatClampNeg)) (v := a2) (by first | rfl | simp [inR])
                            refine lv_iload hx hb dX10_sets_176 (lv_at hl 0 rfl) ?_
                            exact m_iret hx hb hr hlocks hM hS (Nat.le_of_ble_eq_true rfl) (Nat.le_of_ble_eq_true rfl) ⟨_, _, rfl, hI, hK, (by exfalso; omega)⟩ dX10_sets_178
                          · have hc194 := c194
                            have q194 := q_eq hc194
                            refine lv_aload_n hx hb dX10_sets_159 rfl (lv_at hl 1 rfl) ?_
                            refine m_getr (1000) 15 (1015) hx hb hts hown hE oc10 hM hJ.1 rfl (by decide) rfl (hJ.2 15 (by decide)).2 (by decide) tb_1192 dX10_sets_160 ?_
                            refine lv_iload_n hx hb dX10_sets_163 rfl (lv_at hl 2 rfl) ?_
                            refine lv_iload_n hx hb dX10_sets_164 rfl (lv_at hl 4 rfl) ?_
                            refine m_iast (1015) hx hb hE hM hS (hJ.2 15 (by decide)).1 rfl (vp_in_iff.mpr (by omega)) dX10_sets_165 (fun H locs I196 eI196 hM hS => ?_)
                            subst eI196
                            have hI := hI.putF (n := 1015) (k := ((a0).toNatClampNeg)) (v := a2) rfl
                            have hK := hK.put (n := 1015) (k := ((a0).toNatClampNeg)) (v := a2) (by first | rfl | simp [inR])
                            refine lv_goto (tgt := 176) hx hb dX10_sets_166 (by decide) ?_
                            refine lv_iload hx hb dX10_sets_176 (lv_at hl 0 rfl) ?_
                            have hsr : srow a1 = 15 := by unfold srow; rw [if_neg (by omega), if_neg (by omega), if_pos (by omega)]
                            exact m_iret hx hb hr hlocks hM hS (Nat.le_of_ble_eq_true rfl) (Nat.le_of_ble_eq_true rfl) ⟨_, _, rfl, hI, hK, (Or.inl ⟨⟨by omega, by unfold okE; omega⟩, by rw [hsr]; rfl, by rw [hsr]; exact (live_st (n := 15) EqV.rf)⟩)⟩ dX10_sets_178
                        · have hc193 := c193
                          have q193 := q_eq hc193
                          refine lv_aload_n hx hb dX10_sets_144 rfl (lv_at hl 1 rfl) ?_
                          refine m_getr (1000) 14 (1014) hx hb hts hown hE oc10 hM hJ.1 rfl (by decide) rfl (hJ.2 14 (by decide)).2 (by decide) tb_1191 dX10_sets_145 ?_
                          refine lv_iload_n hx hb dX10_sets_148 rfl (lv_at hl 2 rfl) ?_
                          refine lv_iload_n hx hb dX10_sets_149 rfl (lv_at hl 4 rfl) ?_
                          refine m_iast (1014) hx hb hE hM hS (hJ.2 14 (by decide)).1 rfl (vp_in_iff.mpr (by omega)) dX10_sets_150 (fun H locs I197 eI197 hM hS => ?_)
                          subst eI197
                          have hI := hI.putF (n := 1014) (k := ((a0).toNatClampNeg)) (v := a2) rfl
                          have hK := hK.put (n := 1014) (k := ((a0).toNatClampNeg)) (v := a2) (by first | rfl | simp [inR])
                          refine lv_goto (tgt := 176) hx hb dX10_sets_151 (by decide) ?_
                          refine lv_iload hx hb dX10_sets_176 (lv_at hl 0 rfl) ?_
                          exact m_iret hx hb hr hlocks hM hS (Nat.le_of_ble_eq_true rfl) (Nat.le_of_ble_eq_true rfl) ⟨_, _, rfl, hI, hK, (by exfalso; omega)⟩ dX10_sets_178
                      · have hc192 := c192
                        have q192 := q_eq hc192
                        refine lv_aload_n hx hb dX10_sets_129 rfl (lv_at hl 1 rfl) ?_
                        refine m_getr (1000) 9 (1009) hx hb hts hown hE oc10 hM hJ.1 rfl (by decide) rfl (hJ.2 9 (by decide)).2 (by decide) tb_1186 dX10_sets_130 ?_
                        refine lv_iload_n hx hb dX10_sets_133 rfl (lv_at hl 2 rfl) ?_
                        refine lv_iload_n hx hb dX10_sets_134 rfl (lv_at hl 4 rfl) ?_
                        refine m_iast (1009) hx hb hE hM hS (hJ.2 9 (by decide)).1 rfl (vp_in_iff.mpr (by omega)) dX10_sets_135 (fun H locs I198 eI198 hM hS => ?_)
                        subst eI198
                        have hI := hI.putF (n := 1009) (k := ((a0).toNatClampNeg)) (v := a2) rfl
                        have hK := hK.put (n := 1009) (k := ((a0).toNatClampNeg)) (v := a2) (by first | rfl | simp [inR])
                        refine lv_goto (tgt := 176) hx hb dX10_sets_136 (by decide) ?_
                        refine lv_iload hx hb dX10_sets_176 (lv_at hl 0 rfl) ?_
                        exact m_iret hx hb hr hlocks hM hS (Nat.le_of_ble_eq_true rfl) (Nat.le_of_ble_eq_true rfl) ⟨_, _, rfl, hI, hK, (by exfalso; omega)⟩ dX10_sets_178
                  · have hc183 := c183
                    have q183 := q_eq hc183
                    refine lv_aload_n hx hb dX10_sets_94 rfl (lv_at hl 0 rfl) ?_
                    refine m_getr (1000) 14 (1014) hx hb hts hown hE oc10 hM hJ.1 rfl (by decide) rfl (hJ.2 14 (by decide)).2 (by decide) tb_1191 dX10_sets_95 ?_
                    refine lv_iload_n hx hb dX10_sets_98 rfl (lv_at hl 1 rfl) ?_
                    refine m_iald (1014) hx hb hE hM (hJ.2 14 (by decide)).1 rfl (vp_in_iff.mpr (by omega)) dX10_sets_99 ?_
                    refine lv_goto (tgt := 123) hx hb dX10_sets_100 (by decide) ?_
                    refine lv_istore (lv' := [(4, .int (I (1014) (a0).toNatClampNeg)), (0, .ref (ad (1000))), (1, .int (a0)), (2, .int (a1)), (3, .int (a2))]) hx hb dX10_sets_123 hl (by decide) rfl (fun ls hl => ?_)
                    refine lv_iload_n hx hb dX10_sets_125 rfl (lv_at hl 3 rfl) ?_
                    refine lv_if_ne (tgt := 139) hx hb dX10_sets_126 (by decide) (fun c199 => ?_) (fun c199 => ?_)
                    · have hc199 := c199
                      have q199 := q_ne hc199
                      refine lv_iload_n hx hb dX10_sets_139 rfl (lv_at hl 3 rfl) ?_
                      refine lv_iconst (v := (1)) hx hb dX10_sets_140 (by decide) ?_
                      refine lv_icmp_ne (tgt := 154) hx hb dX10_sets_141 (by decide) (fun c200 => ?_) (fun c200 => ?_)
                      · have hc200 := c200
                        have q200 := q_ne hc200
                        refine lv_iload_n hx hb dX10_sets_154 rfl (lv_at hl 3 rfl) ?_
                        refine lv_iconst (v := (2)) hx hb dX10_sets_155 (by decide) ?_
                        refine lv_icmp_ne (tgt := 169) hx hb dX10_sets_156 (by decide) (fun c201 => ?_) (fun c201 => ?_)
                        · have hc201 := c201
                          have q201 := q_ne hc201
                          refine lv_aload_n hx hb dX10_sets_169 rfl (lv_at hl 1 rfl) ?_
                          refine m_getr (1000) 16 (1016) hx hb hts hown hE oc10 hM hJ.1 rfl (by decide) rfl (hJ.2 16 (by decide)).2 (by decide) tb_1193 dX10_sets_170 ?_
                          refine lv_iload_n hx hb dX10_sets_173 rfl (lv_at hl 2 rfl) ?_
                          refine lv_iload_n hx hb dX10_sets_174 rfl (lv_at hl 4 rfl) ?_
                          refine m_iast (1016) hx hb hE hM hS (hJ.2 16 (by decide)).1 rfl (vp_in_iff.mpr (by omega)) dX10_sets_175 (fun H locs I202 eI202 hM hS => ?_)
                          subst eI202
                          have hI := hI.putF (n := 1016) (k := ((a0).toNatClampNeg)) (v := a2) rfl
                          have hK := hK.put (n := 1016) (k := ((a0).toNatClampNeg)) (v := a2) (by first | rfl | simp [inR])
                          refine lv_iload hx hb dX10_sets_176 (lv_at hl 0 rfl) ?_
                          exact m_iret hx hb hr hlocks hM hS (Nat.le_of_ble_eq_true rfl) (Nat.le_of_ble_eq_true rfl) ⟨_, _, rfl, hI, hK, (by exfalso; omega)⟩ dX10_sets_178
                        · have hc201 := c201
                          have q201 := q_eq hc201
                          refine lv_aload_n hx hb dX10_sets_159 rfl (lv_at hl 1 rfl) ?_
                          refine m_getr (1000) 15 (1015) hx hb hts hown hE oc10 hM hJ.1 rfl (by decide) rfl (hJ.2 15 (by decide)).2 (by decide) tb_1192 dX10_sets_160 ?_
                          refine lv_iload_n hx hb dX10_sets_163 rfl (lv_at hl 2 rfl) ?_
                          refine lv_iload_n hx hb dX10_sets_164 rfl (lv_at hl 4 rfl) ?_
                          refine m_iast (1015) hx hb hE hM hS (hJ.2 15 (by decide)).1 rfl (vp_in_iff.mpr (by omega)) dX10_sets_165 (fun H locs I203 eI203 hM hS => ?_)
                          subst eI203
                          have hI := hI.putF (n := 1015) (k := ((a0).toNatClampNeg)) (v := a2) rfl
                          have hK := hK.put (n := 1015) (k := ((a0).toNatClampNeg)) (v := a2) (by first | rfl | simp [inR])
                          refine lv_goto (tgt := 176) hx hb dX10_sets_166 (by decide) ?_
                          refine lv_iload hx hb dX10_sets_176 (lv_at hl 0 rfl) ?_
                          exact m_iret hx hb hr hlocks hM hS (Nat.le_of_ble_eq_true rfl) (Nat.le_of_ble_eq_true rfl) ⟨_, _, rfl, hI, hK, (by exfalso; omega)⟩ dX10_sets_178
                      · have hc200 := c200
                        have q200 := q_eq hc200
                        refine lv_aload_n hx hb dX10_sets_144 rfl (lv_at hl 1 rfl) ?_
                        refine m_getr (1000) 14 (1014) hx hb hts hown hE oc10 hM hJ.1 rfl (by decide) rfl (hJ.2 14 (by decide)).2 (by decide) tb_1191 dX10_sets_145 ?_
                        refine lv_iload_n hx hb dX10_sets_148 rfl (lv_at hl 2 rfl) ?_
                        refine lv_iload_n hx hb dX10_sets_149 rfl (lv_at hl 4 rfl) ?_
                        refine m_iast (1014) hx hb hE hM hS (hJ.2 14 (by decide)).1 rfl (vp_in_iff.mpr (by omega)) dX10_sets_150 (fun H locs I204 eI204 hM hS => ?_)
                        subst eI204
                        have hI := hI.putF (n := 1014) (k := ((a0).toNatClampNeg)) (v := a2) rfl
                        have hK := hK.put (n := 1014) (k := ((a0).toNatClampNeg)) (v := a2) (by first | rfl | simp [inR])
                        refine lv_goto (tgt := 176) hx hb dX10_sets_151 (by decide) ?_
                        refine lv_iload hx hb dX10_sets_176 (lv_at hl 0 rfl) ?_
                        have hsr : srow a1 = 14 := by unfold srow; rw [if_neg (by omega), if_pos (by omega)]
                        exact m_iret hx hb hr hlocks hM hS (Nat.le_of_ble_eq_true rfl) (Nat.le_of_ble_eq_true rfl) ⟨_, _, rfl, hI, hK, (Or.inl ⟨⟨by omega, by unfold okE; omega⟩, by rw [hsr]; rfl, by rw [hsr]; exact (live_st (n := 14) EqV.rf)⟩)⟩ dX10_sets_178
                    · have hc199 := c199
                      have q199 := q_eq hc199
                      refine lv_aload_n hx hb dX10_sets_129 rfl (lv_at hl 1 rfl) ?_
                      refine m_getr (1000) 9 (1009) hx hb hts hown hE oc10 hM hJ.1 rfl (by decide) rfl (hJ.2 9 (by decide)).2 (by decide) tb_1186 dX10_sets_130 ?_
                      refine lv_iload_n hx hb dX10_sets_133 rfl (lv_at hl 2 rfl) ?_
                      refine lv_iload_n hx hb dX10_sets_134 rfl (lv_at hl 4 rfl) ?_
                      refine m_iast (1009) hx hb hE hM hS (hJ.2 9 (by decide)).1 rfl (vp_in_iff.mpr (by omega)) dX10_sets_135 (fun H locs I205 eI205 hM hS => ?_)
                      subst eI205
                      have hI := hI.putF (n := 1009) (k := ((a0).toNatClampNeg)) (v := a2) rfl
                      have hK := hK.put (n := 1009) (k := ((a0).toNatClampNeg)) (v := a2) (by first | rfl | simp [inR])
                      refine lv_goto (tgt := 176) hx hb dX10_sets_136 (by decide) ?_
                      refine lv_iload hx hb dX10_sets_176 (lv_at hl 0 rfl) ?_
                      exact m_iret hx hb hr hlocks hM hS (Nat.le_of_ble_eq_true rfl) (Nat.le_of_ble_eq_true rfl) ⟨_, _, rfl, hI, hK, (by exfalso; omega)⟩ dX10_sets_178
                · have hc182 := c182
                  have q182 := q_eq hc182
                  refine lv_aload_n hx hb dX10_sets_80 rfl (lv_at hl 0 rfl) ?_
                  refine m_getr (1000) 9 (1009) hx hb hts hown hE oc10 hM hJ.1 rfl (by decide) rfl (hJ.2 9 (by decide)).2 (by decide) tb_1186 dX10_sets_81 ?_
                  refine lv_iload_n hx hb dX10_sets_84 rfl (lv_at hl 1 rfl) ?_
                  refine m_iald (1009) hx hb hE hM (hJ.2 9 (by decide)).1 rfl (vp_in_iff.mpr (by omega)) dX10_sets_85 ?_
                  refine lv_goto (tgt := 123) hx hb dX10_sets_86 (by decide) ?_
                  refine lv_istore (lv' := [(4, .int (I (1009) (a0).toNatClampNeg)), (0, .ref (ad (1000))), (1, .int (a0)), (2, .int (a1)), (3, .int (a2))]) hx hb dX10_sets_123 hl (by decide) rfl (fun ls hl => ?_)
                  refine lv_iload_n hx hb dX10_sets_125 rfl (lv_at hl 3 rfl) ?_
                  refine lv_if_ne (tgt := 139) hx hb dX10_sets_126 (by decide) (fun c206 => ?_) (fun c206 => ?_)
                  · have hc206 := c206
                    have q206 := q_ne hc206
                    refine lv_iload_n hx hb dX10_sets_139 rfl (lv_at hl 3 rfl) ?_
                    refine lv_iconst (v := (1)) hx hb dX10_sets_140 (by decide) ?_
                    refine lv_icmp_ne (tgt := 154) hx hb dX10_sets_141 (by decide) (fun c207 => ?_) (fun c207 => ?_)
                    · have hc207 := c207
                      have q207 := q_ne hc207
                      refine lv_iload_n hx hb dX10_sets_154 rfl (lv_at hl 3 rfl) ?_
                      refine lv_iconst (v := (2)) hx hb dX10_sets_155 (by decide) ?_
                      refine lv_icmp_ne (tgt := 169) hx hb dX10_sets_156 (by decide) (fun c208 => ?_) (fun c208 => ?_)
                      · have hc208 := c208
                        have q208 := q_ne hc208
                        refine lv_aload_n hx hb dX10_sets_169 rfl (lv_at hl 1 rfl) ?_
                        refine m_getr (1000) 16 (1016) hx hb hts hown hE oc10 hM hJ.1 rfl (by decide) rfl (hJ.2 16 (by decide)).2 (by decide) tb_1193 dX10_sets_170 ?_
                        refine lv_iload_n hx hb dX10_sets_173 rfl (lv_at hl 2 rfl) ?_
                        refine lv_iload_n hx hb dX10_sets_174 rfl (lv_at hl 4 rfl) ?_
                        refine m_iast (1016) hx hb hE hM hS (hJ.2 16 (by decide)).1 rfl (vp_in_iff.mpr (by omega)) dX10_sets_175 (fun H locs I209 eI209 hM hS => ?_)
                        subst eI209
                        have hI := hI.putF (n := 1016) (k := ((a0).toNatClampNeg)) (v := a2) rfl
                        have hK := hK.put (n := 1016) (k := ((a0).toNatClampNeg)) (v := a2) (by first | rfl | simp [inR])
                        refine lv_iload hx hb dX10_sets_176 (lv_at hl 0 rfl) ?_
                        exact m_iret hx hb hr hlocks hM hS (Nat.le_of_ble_eq_true rfl) (Nat.le_of_ble_eq_true rfl) ⟨_, _, rfl, hI, hK, (by exfalso; omega)⟩ dX10_sets_178
                      · have hc208 := c208
                        have q208 := q_eq hc208
                        refine lv_aload_n hx hb dX10_sets_159 rfl (lv_at hl 1 rfl) ?_
                        refine m_getr (1000) 15 (1015) hx hb hts hown hE oc10 hM hJ.1 rfl (by decide) rfl (hJ.2 15 (by decide)).2 (by decide) tb_1192 dX10_sets_160 ?_
                        refine lv_iload_n hx hb dX10_sets_163 rfl (lv_at hl 2 rfl) ?_
                        refine lv_iload_n hx hb dX10_sets_164 rfl (lv_at hl 4 rfl) ?_
                        refine m_iast (1015) hx hb hE hM hS (hJ.2 15 (by decide)).1 rfl (vp_in_iff.mpr (by omega)) dX10_sets_165 (fun H locs I210 eI210 hM hS => ?_)
                        subst eI210
                        have hI := hI.putF (n := 1015) (k := ((a0).toNatClampNeg)) (v := a2) rfl
                        have hK := hK.put (n := 1015) (k := ((a0).toNatClampNeg)) (v := a2) (by first | rfl | simp [inR])
                        refine lv_goto (tgt := 176) hx hb dX10_sets_166 (by decide) ?_
                        refine lv_iload hx hb dX10_sets_176 (lv_at hl 0 rfl) ?_
                        exact m_iret hx hb hr hlocks hM hS (Nat.le_of_ble_eq_true rfl) (Nat.le_of_ble_eq_true rfl) ⟨_, _, rfl, hI, hK, (by exfalso; omega)⟩ dX10_sets_178
                    · have hc207 := c207
                      have q207 := q_eq hc207
                      refine lv_aload_n hx hb dX10_sets_144 rfl (lv_at hl 1 rfl) ?_
                      refine m_getr (1000) 14 (1014) hx hb hts hown hE oc10 hM hJ.1 rfl (by decide) rfl (hJ.2 14 (by decide)).2 (by decide) tb_1191 dX10_sets_145 ?_
                      refine lv_iload_n hx hb dX10_sets_148 rfl (lv_at hl 2 rfl) ?_
                      refine lv_iload_n hx hb dX10_sets_149 rfl (lv_at hl 4 rfl) ?_
                      refine m_iast (1014) hx hb hE hM hS (hJ.2 14 (by decide)).1 rfl (vp_in_iff.mpr (by omega)) dX10_sets_150 (fun H locs I211 eI211 hM hS => ?_)
                      subst eI211
                      have hI := hI.putF (n := 1014) (k := ((a0).toNatClampNeg)) (v := a2) rfl
                      have hK := hK.put (n := 1014) (k := ((a0).toNatClampNeg)) (v := a2) (by first | rfl | simp [inR])
                      refine lv_goto (tgt := 176) hx hb dX10_sets_151 (by decide) ?_
                      refine lv_iload hx hb dX10_sets_176 (lv_at hl 0 rfl) ?_
                      exact m_iret hx hb hr hlocks hM hS (Nat.le_of_ble_eq_true rfl) (Nat.le_of_ble_eq_true rfl) ⟨_, _, rfl, hI, hK, (by exfalso; omega)⟩ dX10_sets_178
                  · have hc206 := c206
                    have q206 := q_eq hc206
                    refine lv_aload_n hx hb dX10_sets_129 rfl (lv_at hl 1 rfl) ?_
                    refine m_getr (1000) 9 (1009) hx hb hts hown hE oc10 hM hJ.1 rfl (by decide) rfl (hJ.2 9 (by decide)).2 (by decide) tb_1186 dX10_sets_130 ?_
                    refine lv_iload_n hx hb dX10_sets_133 rfl (lv_at hl 2 rfl) ?_
                    refine lv_iload_n hx hb dX10_sets_134 rfl (lv_at hl 4 rfl) ?_
                    refine m_iast (1009) hx hb hE hM hS (hJ.2 9 (by decide)).1 rfl (vp_in_iff.mpr (by omega)) dX10_sets_135 (fun H locs I212 eI212 hM hS => ?_)
                    subst eI212
                    have hI := hI.putF (n := 1009) (k := ((a0).toNatClampNeg)) (v := a2) rfl
                    have hK := hK.put (n := 1009) (k := ((a0).toNatClampNeg)) (v := a2) (by first | rfl | simp [inR])
                    refine lv_goto (tgt := 176) hx hb dX10_sets_136 (by decide) ?_
                    refine lv_iload hx hb dX10_sets_176 (lv_at hl 0 rfl) ?_
                    have hsr : srow a1 = 9 := by unfold srow; rw [if_pos (by omega)]
                    exact m_iret hx hb hr hlocks hM hS (Nat.le_of_ble_eq_true rfl) (Nat.le_of_ble_eq_true rfl) ⟨_, _, rfl, hI, hK, (Or.inl ⟨⟨by omega, by unfold okE; omega⟩, by rw [hsr]; rfl, by rw [hsr]; exact (live_st (n := 9) EqV.rf)⟩)⟩ dX10_sets_178
              · have hc181 := c181
                have q181 := xr180.f hc181
                refine lv_bipush (v := (-2)) hx hb dX10_sets_73 (by decide) ?_
                exact m_iret hx hb hr hlocks hM hS (Nat.le_of_ble_eq_true rfl) (Nat.le_of_ble_eq_true rfl) ⟨_, _, rfl, hI, hK, (Or.inr ⟨fun hh => by have h2 := hh.2; unfold okE at h2; omega, rfl, rfl⟩)⟩ dX10_sets_75
          · have hc145 := c145
            have q145 := q_eq hc145
            refine lv_ldc2 (v := (1000)) hx hb hown (hts _ tb_1428) dX10_sets_49 ?_
            refine lv_goto (tgt := 67) hx hb dX10_sets_52 (by decide) ?_
            refine m_calli (m_runS (As := [.long (v7), .long ((-1 : Int64)), .long ((1000 : Int64))]) (rest := []) hx hb hml hown hts hE hM hS hA ce_X10_in tb_1425 (V_X10_in l D A ad ns I L G (v7) ((-1 : Int64)) ((1000 : Int64)) hI) rfl rfl ⟨Nat.le_of_ble_eq_true rfl, Nat.le_of_ble_eq_true rfl⟩  rfl hl.1 rfl (Nat.le_of_ble_eq_true rfl) dX10_sets_67 ⟨Nat.le_of_ble_eq_true rfl, Nat.le_of_ble_eq_true rfl⟩) hS (fun r213 u H locs hw hM hS => ?_)
            obtain ⟨rfl, xr213⟩ := hw
            have hM : Mem D A ad ns I L G H := hM
            have yr213 := bo01 xr213
            refine lv_if_ne (tgt := 76) hx hb dX10_sets_70 (by decide) (fun c214 => ?_) (fun c214 => ?_)
            · have hc214 := c214
              have q214 := xr213.t hc214
              refine lv_iload_n hx hb dX10_sets_76 rfl (lv_at hl 2 rfl) ?_
              refine lv_if_ne (tgt := 89) hx hb dX10_sets_77 (by decide) (fun c215 => ?_) (fun c215 => ?_)
              · have hc215 := c215
                have q215 := q_ne hc215
                refine lv_iload_n hx hb dX10_sets_89 rfl (lv_at hl 2 rfl) ?_
                refine lv_iconst (v := (1)) hx hb dX10_sets_90 (by decide) ?_
                refine lv_icmp_ne (tgt := 103) hx hb dX10_sets_91 (by decide) (fun c216 => ?_) (fun c216 => ?_)
                · have hc216 := c216
                  have q216 := q_ne hc216
                  refine lv_iload_n hx hb dX10_sets_103 rfl (lv_at hl 2 rfl) ?_
                  refine lv_iconst (v := (2)) hx hb dX10_sets_104 (by decide) ?_
                  refine lv_icmp_ne (tgt := 117) hx hb dX10_sets_105 (by decide) (fun c217 => ?_) (fun c217 => ?_)
                  · have hc217 := c217
                    have q217 := q_ne hc217
                    refine lv_aload_n hx hb dX10_sets_117 rfl (lv_at hl 0 rfl) ?_
                    refine m_getr (1000) 16 (1016) hx hb hts hown hE oc10 hM hJ.1 rfl (by decide) rfl (hJ.2 16 (by decide)).2 (by decide) tb_1193 dX10_sets_118 ?_
                    refine lv_iload_n hx hb dX10_sets_121 rfl (lv_at hl 1 rfl) ?_
                    refine m_iald (1016) hx hb hE hM (hJ.2 16 (by decide)).1 rfl (vp_in_iff.mpr (by omega)) dX10_sets_122 ?_
                    refine lv_istore (lv' := [(4, .int (I (1016) (a0).toNatClampNeg)), (0, .ref (ad (1000))), (1, .int (a0)), (2, .int (a1)), (3, .int (a2))]) hx hb dX10_sets_123 hl (by decide) rfl (fun ls hl => ?_)
                    refine lv_iload_n hx hb dX10_sets_125 rfl (lv_at hl 3 rfl) ?_
                    refine lv_if_ne (tgt := 139) hx hb dX10_sets_126 (by decide) (fun c218 => ?_) (fun c218 => ?_)
                    · have hc218 := c218
                      have q218 := q_ne hc218
                      refine lv_iload_n hx hb dX10_sets_139 rfl (lv_at hl 3 rfl) ?_
                      refine lv_iconst (v := (1)) hx hb dX10_sets_140 (by decide) ?_
                      refine lv_icmp_ne (tgt := 154) hx hb dX10_sets_141 (by decide) (fun c219 => ?_) (fun c219 => ?_)
                      · have hc219 := c219
                        have q219 := q_ne hc219
                        refine lv_iload_n hx hb dX10_sets_154 rfl (lv_at hl 3 rfl) ?_
                        refine lv_iconst (v := (2)) hx hb dX10_sets_155 (by decide) ?_
                        refine lv_icmp_ne (tgt := 169) hx hb dX10_sets_156 (by decide) (fun c220 => ?_) (fun c220 => ?_)
                        · have hc220 := c220
                          have q220 := q_ne hc220
                          refine lv_aload_n hx hb dX10_sets_169 rfl (lv_at hl 1 rfl) ?_
                          refine m_getr (1000) 16 (1016) hx hb hts hown hE oc10 hM hJ.1 rfl (by decide) rfl (hJ.2 16 (by decide)).2 (by decide) tb_1193 dX10_sets_170 ?_
                          refine lv_iload_n hx hb dX10_sets_173 rfl (lv_at hl 2 rfl) ?_
                          refine lv_iload_n hx hb dX10_sets_174 rfl (lv_at hl 4 rfl) ?_
                          refine m_iast (1016) hx hb hE hM hS (hJ.2 16 (by decide)).1 rfl (vp_in_iff.mpr (by omega)) dX10_sets_175 (fun H locs I221 eI221 hM hS => ?_)
                          subst eI221
                          have hI := hI.putF (n := 1016) (k := ((a0).toNatClampNeg)) (v := a2) rfl
                          have hK := hK.put (n := 1016) (k := ((a0).toNatClampNeg)) (v := a2) (by first | rfl | simp [inR])
                          refine lv_iload hx hb dX10_sets_176 (lv_at hl 0 rfl) ?_
                          have hsr : srow a1 = 16 := by unfold srow; rw [if_neg (by omega), if_neg (by omega), if_neg (by omega)]
                          exact m_iret hx hb hr hlocks hM hS (Nat.le_of_ble_eq_true rfl) (Nat.le_of_ble_eq_true rfl) ⟨_, _, rfl, hI, hK, (Or.inl ⟨⟨by omega, by unfold okE; omega⟩, by rw [hsr]; rfl, by rw [hsr]; exact (live_st (n := 16) EqV.rf)⟩)⟩ dX10_sets_178
                        · have hc220 := c220
                          have q220 := q_eq hc220
                          refine lv_aload_n hx hb dX10_sets_159 rfl (lv_at hl 1 rfl) ?_
                          refine m_getr (1000) 15 (1015) hx hb hts hown hE oc10 hM hJ.1 rfl (by decide) rfl (hJ.2 15 (by decide)).2 (by decide) tb_1192 dX10_sets_160 ?_
                          refine lv_iload_n hx hb dX10_sets_163 rfl (lv_at hl 2 rfl) ?_
                          refine lv_iload_n hx hb dX10_sets_164 rfl (lv_at hl 4 rfl) ?_
                          refine m_iast (1015) hx hb hE hM hS (hJ.2 15 (by decide)).1 rfl (vp_in_iff.mpr (by omega)) dX10_sets_165 (fun H locs I222 eI222 hM hS => ?_)
                          subst eI222
                          have hI := hI.putF (n := 1015) (k := ((a0).toNatClampNeg)) (v := a2) rfl
                          have hK := hK.put (n := 1015) (k := ((a0).toNatClampNeg)) (v := a2) (by first | rfl | simp [inR])
                          refine lv_goto (tgt := 176) hx hb dX10_sets_166 (by decide) ?_
                          refine lv_iload hx hb dX10_sets_176 (lv_at hl 0 rfl) ?_
                          exact m_iret hx hb hr hlocks hM hS (Nat.le_of_ble_eq_true rfl) (Nat.le_of_ble_eq_true rfl) ⟨_, _, rfl, hI, hK, (by exfalso; omega)⟩ dX10_sets_178
                      · have hc219 := c219
                        have q219 := q_eq hc219
                        refine lv_aload_n hx hb dX10_sets_144 rfl (lv_at hl 1 rfl) ?_
                        refine m_getr (1000) 14 (1014) hx hb hts hown hE oc10 hM hJ.1 rfl (by decide) rfl (hJ.2 14 (by decide)).2 (by decide) tb_1191 dX10_sets_145 ?_
                        refine lv_iload_n hx hb dX10_sets_148 rfl (lv_at hl 2 rfl) ?_
                        refine lv_iload_n hx hb dX10_sets_149 rfl (lv_at hl 4 rfl) ?_
                        refine m_iast (1014) hx hb hE hM hS (hJ.2 14 (by decide)).1 rfl (vp_in_iff.mpr (by omega)) dX10_sets_150 (fun H locs I223 eI223 hM hS => ?_)
                        subst eI223
                        have hI := hI.putF (n := 1014) (k := ((a0).toNatClampNeg)) (v := a2) rfl
                        have hK := hK.put (n := 1014) (k := ((a0).toNatClampNeg)) (v := a2) (by first | rfl | simp [inR])
                        refine lv_goto (tgt := 176) hx hb dX10_sets_151 (by decide) ?_
                        refine lv_iload hx hb dX10_sets_176 (lv_at hl 0 rfl) ?_
                        exact m_iret hx hb hr hlocks hM hS (Nat.le_of_ble_eq_true rfl) (Nat.le_of_ble_eq_true rfl) ⟨_, _, rfl, hI, hK, (by exfalso; omega)⟩ dX10_sets_178
                    · have hc218 := c218
                      have q218 := q_eq hc218
                      refine lv_aload_n hx hb dX10_sets_129 rfl (lv_at hl 1 rfl) ?_
                      refine m_getr (1000) 9 (1009) hx hb hts hown hE oc10 hM hJ.1 rfl (by decide) rfl (hJ.2 9 (by decide)).2 (by decide) tb_1186 dX10_sets_130 ?_
                      refine lv_iload_n hx hb dX10_sets_133 rfl (lv_at hl 2 rfl) ?_
                      refine lv_iload_n hx hb dX10_sets_134 rfl (lv_at hl 4 rfl) ?_
                      refine m_iast (1009) hx hb hE hM hS (hJ.2 9 (by decide)).1 rfl (vp_in_iff.mpr (by omega)) dX10_sets_135 (fun H locs I224 eI224 hM hS => ?_)
                      subst eI224
                      have hI := hI.putF (n := 1009) (k := ((a0).toNatClampNeg)) (v := a2) rfl
                      have hK := hK.put (n := 1009) (k := ((a0).toNatClampNeg)) (v := a2) (by first | rfl | simp [inR])
                      refine lv_goto (tgt := 176) hx hb dX10_sets_136 (by decide) ?_
                      refine lv_iload hx hb dX10_sets_176 (lv_at hl 0 rfl) ?_
                      exact m_iret hx hb hr hlocks hM hS (Nat.le_of_ble_eq_true rfl) (Nat.le_of_ble_eq_true rfl) ⟨_, _, rfl, hI, hK, (by exfalso; omega)⟩ dX10_sets_178
                  · have hc217 := c217
                    have q217 := q_eq hc217
                    refine lv_aload_n hx hb dX10_sets_108 rfl (lv_at hl 0 rfl) ?_
                    refine m_getr (1000) 15 (1015) hx hb hts hown hE oc10 hM hJ.1 rfl (by decide) rfl (hJ.2 15 (by decide)).2 (by decide) tb_1192 dX10_sets_109 ?_
                    refine lv_iload_n hx hb dX10_sets_112 rfl (lv_at hl 1 rfl) ?_
                    refine m_iald (1015) hx hb hE hM (hJ.2 15 (by decide)).1 rfl (vp_in_iff.mpr (by omega)) dX10_sets_113 ?_
                    refine lv_goto (tgt := 123) hx hb dX10_sets_114 (by decide) ?_
                    refine lv_istore (lv' := [(4, .int (I (1015) (a0).toNatClampNeg)), (0, .ref (ad (1000))), (1, .int (a0)), (2, .int (a1)), (3, .int (a2))]) hx hb dX10_sets_123 hl (by decide) rfl (fun ls hl => ?_)
                    refine lv_iload_n hx hb dX10_sets_125 rfl (lv_at hl 3 rfl) ?_
                    refine lv_if_ne (tgt := 139) hx hb dX10_sets_126 (by decide) (fun c225 => ?_) (fun c225 => ?_)
                    · have hc225 := c225
                      have q225 := q_ne hc225
                      refine lv_iload_n hx hb dX10_sets_139 rfl (lv_at hl 3 rfl) ?_
                      refine lv_iconst (v := (1)) hx hb dX10_sets_140 (by decide) ?_
                      refine lv_icmp_ne (tgt := 154) hx hb dX10_sets_141 (by decide) (fun c226 => ?_) (fun c226 => ?_)
                      · have hc226 := c226
                        have q226 := q_ne hc226
                        refine lv_iload_n hx hb dX10_sets_154 rfl (lv_at hl 3 rfl) ?_
                        refine lv_iconst (v := (2)) hx hb dX10_sets_155 (by decide) ?_
                        refine lv_icmp_ne (tgt := 169) hx hb dX10_sets_156 (by decide) (fun c227 => ?_) (fun c227 => ?_)
                        · have hc227 := c227
                          have q227 := q_ne hc227
                          refine lv_aload_n hx hb dX10_sets_169 rfl (lv_at hl 1 rfl) ?_
                          refine m_getr (1000) 16 (1016) hx hb hts hown hE oc10 hM hJ.1 rfl (by decide) rfl (hJ.2 16 (by decide)).2 (by decide) tb_1193 dX10_sets_170 ?_
                          refine lv_iload_n hx hb dX10_sets_173 rfl (lv_at hl 2 rfl) ?_
                          refine lv_iload_n hx hb dX10_sets_174 rfl (lv_at hl 4 rfl) ?_
                          refine m_iast (1016) hx hb hE hM hS (hJ.2 16 (by decide)).1 rfl (vp_in_iff.mpr (by omega)) dX10_sets_175 (fun H locs I228 eI228 hM hS => ?_)
                          subst eI228
                          have hI := hI.putF (n := 1016) (k := ((a0).toNatClampNeg)) (v := a2) rfl
                          have hK := hK.put (n := 1016) (k := ((a0).toNatClampNeg)) (v := a2) (by first | rfl | simp [inR])
                          refine lv_iload hx hb dX10_sets_176 (lv_at hl 0 rfl) ?_
                          exact m_iret hx hb hr hlocks hM hS (Nat.le_of_ble_eq_true rfl) (Nat.le_of_ble_eq_true rfl) ⟨_, _, rfl, hI, hK, (by exfalso; omega)⟩ dX10_sets_178
                        · have hc227 := c227
                          have q227 := q_eq hc227
                          refine lv_aload_n hx hb dX10_sets_159 rfl (lv_at hl 1 rfl) ?_
                          refine m_getr (1000) 15 (1015) hx hb hts hown hE oc10 hM hJ.1 rfl (by decide) rfl (hJ.2 15 (by decide)).2 (by decide) tb_1192 dX10_sets_160 ?_
                          refine lv_iload_n hx hb dX10_sets_163 rfl (lv_at hl 2 rfl) ?_
                          refine lv_iload_n hx hb dX10_sets_164 rfl (lv_at hl 4 rfl) ?_
                          refine m_iast (1015) hx hb hE hM hS (hJ.2 15 (by decide)).1 rfl (vp_in_iff.mpr (by omega)) dX10_sets_165 (fun H locs I229 eI229 hM hS => ?_)
                          subst eI229
                          have hI := hI.putF (n := 1015) (k := ((a0).toNatClampNeg)) (v := a2) rfl
                          have hK := hK.put (n := 1015) (k := ((a0).toNatClampNeg)) (v := a2) (by first | rfl | simp [inR])
                          refine lv_goto (tgt := 176) hx hb dX10_sets_166 (by decide) ?_
                          refine lv_iload hx hb dX10_sets_176 (lv_at hl 0 rfl) ?_
                          have hsr : srow a1 = 15 := by unfold srow; rw [if_neg (by omega), if_neg (by omega), if_pos (by omega)]
                          exact m_iret hx hb hr hlocks hM hS (Nat.le_of_ble_eq_true rfl) (Nat.le_of_ble_eq_true rfl) ⟨_, _, rfl, hI, hK, (Or.inl ⟨⟨by omega, by unfold okE; omega⟩, by rw [hsr]; rfl, by rw [hsr]; exact (live_st (n := 15) EqV.rf)⟩)⟩ dX10_sets_178
                      · have hc226 := c226
                        have q226 := q_eq hc226
                        refine lv_aload_n hx hb dX10_sets_144 rfl (lv_at hl 1 rfl) ?_
                        refine m_getr (1000) 14 (1014) hx hb hts hown hE oc10 hM hJ.1 rfl (by decide) rfl (hJ.2 14 (by decide)).2 (by decide) tb_1191 dX10_sets_145 ?_
                        refine lv_iload_n hx hb dX10_sets_148 rfl (lv_at hl 2 rfl) ?_
                        refine lv_iload_n hx hb dX10_sets_149 rfl (lv_at hl 4 rfl) ?_
                        refine m_iast (1014) hx hb hE hM hS (hJ.2 14 (by decide)).1 rfl (vp_in_iff.mpr (by omega)) dX10_sets_150 (fun H locs I230 eI230 hM hS => ?_)
                        subst eI230
                        have hI := hI.putF (n := 1014) (k := ((a0).toNatClampNeg)) (v := a2) rfl
                        have hK := hK.put (n := 1014) (k := ((a0).toNatClampNeg)) (v := a2) (by first | rfl | simp [inR])
                        refine lv_goto (tgt := 176) hx hb dX10_sets_151 (by decide) ?_
                        refine lv_iload hx hb dX10_sets_176 (lv_at hl 0 rfl) ?_
                        exact m_iret hx hb hr hlocks hM hS (Nat.le_of_ble_eq_true rfl) (Nat.le_of_ble_eq_true rfl) ⟨_, _, rfl, hI, hK, (by exfalso; omega)⟩ dX10_sets_178
                    · have hc225 := c225
                      have q225 := q_eq hc225
                      refine lv_aload_n hx hb dX10_sets_129 rfl (lv_at hl 1 rfl) ?_
                      refine m_getr (1000) 9 (1009) hx hb hts hown hE oc10 hM hJ.1 rfl (by decide) rfl (hJ.2 9 (by decide)).2 (by decide) tb_1186 dX10_sets_130 ?_
                      refine lv_iload_n hx hb dX10_sets_133 rfl (lv_at hl 2 rfl) ?_
                      refine lv_iload_n hx hb dX10_sets_134 rfl (lv_at hl 4 rfl) ?_
                      refine m_iast (1009) hx hb hE hM hS (hJ.2 9 (by decide)).1 rfl (vp_in_iff.mpr (by omega)) dX10_sets_135 (fun H locs I231 eI231 hM hS => ?_)
                      subst eI231
                      have hI := hI.putF (n := 1009) (k := ((a0).toNatClampNeg)) (v := a2) rfl
                      have hK := hK.put (n := 1009) (k := ((a0).toNatClampNeg)) (v := a2) (by first | rfl | simp [inR])
                      refine lv_goto (tgt := 176) hx hb dX10_sets_136 (by decide) ?_
                      refine lv_iload hx hb dX10_sets_176 (lv_at hl 0 rfl) ?_
                      exact m_iret hx hb hr hlocks hM hS (Nat.le_of_ble_eq_true rfl) (Nat.le_of_ble_eq_true rfl) ⟨_, _, rfl, hI, hK, (by exfalso; omega)⟩ dX10_sets_178
                · have hc216 := c216
                  have q216 := q_eq hc216
                  refine lv_aload_n hx hb dX10_sets_94 rfl (lv_at hl 0 rfl) ?_
                  refine m_getr (1000) 14 (1014) hx hb hts hown hE oc10 hM hJ.1 rfl (by decide) rfl (hJ.2 14 (by decide)).2 (by decide) tb_1191 dX10_sets_95 ?_
                  refine lv_iload_n hx hb dX10_sets_98 rfl (lv_at hl 1 rfl) ?_
                  refine m_iald (1014) hx hb hE hM (hJ.2 14 (by decide)).1 rfl (vp_in_iff.mpr (by omega)) dX10_sets_99 ?_
                  refine lv_goto (tgt := 123) hx hb dX10_sets_100 (by decide) ?_
                  refine lv_istore (lv' := [(4, .int (I (1014) (a0).toNatClampNeg)), (0, .ref (ad (1000))), (1, .int (a0)), (2, .int (a1)), (3, .int (a2))]) hx hb dX10_sets_123 hl (by decide) rfl (fun ls hl => ?_)
                  refine lv_iload_n hx hb dX10_sets_125 rfl (lv_at hl 3 rfl) ?_
                  refine lv_if_ne (tgt := 139) hx hb dX10_sets_126 (by decide) (fun c232 => ?_) (fun c232 => ?_)
                  · have hc232 := c232
                    have q232 := q_ne hc232
                    refine lv_iload_n hx hb dX10_sets_139 rfl (lv_at hl 3 rfl) ?_
                    refine lv_iconst (v := (1)) hx hb dX10_sets_140 (by decide) ?_
                    refine lv_icmp_ne (tgt := 154) hx hb dX10_sets_141 (by decide) (fun c233 => ?_) (fun c233 => ?_)
                    · have hc233 := c233
                      have q233 := q_ne hc233
                      refine lv_iload_n hx hb dX10_sets_154 rfl (lv_at hl 3 rfl) ?_
                      refine lv_iconst (v := (2)) hx hb dX10_sets_155 (by decide) ?_
                      refine lv_icmp_ne (tgt := 169) hx hb dX10_sets_156 (by decide) (fun c234 => ?_) (fun c234 => ?_)
                      · have hc234 := c234
                        have q234 := q_ne hc234
                        refine lv_aload_n hx hb dX10_sets_169 rfl (lv_at hl 1 rfl) ?_
                        refine m_getr (1000) 16 (1016) hx hb hts hown hE oc10 hM hJ.1 rfl (by decide) rfl (hJ.2 16 (by decide)).2 (by decide) tb_1193 dX10_sets_170 ?_
                        refine lv_iload_n hx hb dX10_sets_173 rfl (lv_at hl 2 rfl) ?_
                        refine lv_iload_n hx hb dX10_sets_174 rfl (lv_at hl 4 rfl) ?_
                        refine m_iast (1016) hx hb hE hM hS (hJ.2 16 (by decide)).1 rfl (vp_in_iff.mpr (by omega)) dX10_sets_175 (fun H locs I235 eI235 hM hS => ?_)
                        subst eI235
                        have hI := hI.putF (n := 1016) (k := ((a0).toNatClampNeg)) (v := a2) rfl
                        have hK := hK.put (n := 1016) (k := ((a0).toNatClampNeg)) (v := a2) (by first | rfl | simp [inR])
                        refine lv_iload hx hb dX10_sets_176 (lv_at hl 0 rfl) ?_
                        exact m_iret hx hb hr hlocks hM hS (Nat.le_of_ble_eq_true rfl) (Nat.le_of_ble_eq_true rfl) ⟨_, _, rfl, hI, hK, (by exfalso; omega)⟩ dX10_sets_178
                      · have hc234 := c234
                        have q234 := q_eq hc234
                        refine lv_aload_n hx hb dX10_sets_159 rfl (lv_at hl 1 rfl) ?_
                        refine m_getr (1000) 15 (1015) hx hb hts hown hE oc10 hM hJ.1 rfl (by decide) rfl (hJ.2 15 (by decide)).2 (by decide) tb_1192 dX10_sets_160 ?_
                        refine lv_iload_n hx hb dX10_sets_163 rfl (lv_at hl 2 rfl) ?_
                        refine lv_iload_n hx hb dX10_sets_164 rfl (lv_at hl 4 rfl) ?_
                        refine m_iast (1015) hx hb hE hM hS (hJ.2 15 (by decide)).1 rfl (vp_in_iff.mpr (by omega)) dX10_sets_165 (fun H locs I236 eI236 hM hS => ?_)
                        subst eI236
                        have hI := hI.putF (n := 1015) (k := ((a0).toNatClampNeg)) (v := a2) rfl
                        have hK := hK.put (n := 1015) (k := ((a0).toNatClampNeg)) (v := a2) (by first | rfl | simp [inR])
                        refine lv_goto (tgt := 176) hx hb dX10_sets_166 (by decide) ?_
                        refine lv_iload hx hb dX10_sets_176 (lv_at hl 0 rfl) ?_
                        exact m_iret hx hb hr hlocks hM hS (Nat.le_of_ble_eq_true rfl) (Nat.le_of_ble_eq_true rfl) ⟨_, _, rfl, hI, hK, (by exfalso; omega)⟩ dX10_sets_178
                    · have hc233 := c233
                      have q233 := q_eq hc233
                      refine lv_aload_n hx hb dX10_sets_144 rfl (lv_at hl 1 rfl) ?_
                      refine m_getr (1000) 14 (1014) hx hb hts hown hE oc10 hM hJ.1 rfl (by decide) rfl (hJ.2 14 (by decide)).2 (by decide) tb_1191 dX10_sets_145 ?_
                      refine lv_iload_n hx hb dX10_sets_148 rfl (lv_at hl 2 rfl) ?_
                      refine lv_iload_n hx hb dX10_sets_149 rfl (lv_at hl 4 rfl) ?_
                      refine m_iast (1014) hx hb hE hM hS (hJ.2 14 (by decide)).1 rfl (vp_in_iff.mpr (by omega)) dX10_sets_150 (fun H locs I237 eI237 hM hS => ?_)
                      subst eI237
                      have hI := hI.putF (n := 1014) (k := ((a0).toNatClampNeg)) (v := a2) rfl
                      have hK := hK.put (n := 1014) (k := ((a0).toNatClampNeg)) (v := a2) (by first | rfl | simp [inR])
                      refine lv_goto (tgt := 176) hx hb dX10_sets_151 (by decide) ?_
                      refine lv_iload hx hb dX10_sets_176 (lv_at hl 0 rfl) ?_
                      have hsr : srow a1 = 14 := by unfold srow; rw [if_neg (by omega), if_pos (by omega)]
                      exact m_iret hx hb hr hlocks hM hS (Nat.le_of_ble_eq_true rfl) (Nat.le_of_ble_eq_true rfl) ⟨_, _, rfl, hI, hK, (Or.inl ⟨⟨by omega, by unfold okE; omega⟩, by rw [hsr]; rfl, by rw [hsr]; exact (live_st (n := 14) EqV.rf)⟩)⟩ dX10_sets_178
                  · have hc232 := c232
                    have q232 := q_eq hc232
                    refine lv_aload_n hx hb dX10_sets_129 rfl (lv_at hl 1 rfl) ?_
                    refine m_getr (1000) 9 (1009) hx hb hts hown hE oc10 hM hJ.1 rfl (by decide) rfl (hJ.2 9 (by decide)).2 (by decide) tb_1186 dX10_sets_130 ?_
                    refine lv_iload_n hx hb dX10_sets_133 rfl (lv_at hl 2 rfl) ?_
                    refine lv_iload_n hx hb dX10_sets_134 rfl (lv_at hl 4 rfl) ?_
                    refine m_iast (1009) hx hb hE hM hS (hJ.2 9 (by decide)).1 rfl (vp_in_iff.mpr (by omega)) dX10_sets_135 (fun H locs I238 eI238 hM hS => ?_)
                    subst eI238
                    have hI := hI.putF (n := 1009) (k := ((a0).toNatClampNeg)) (v := a2) rfl
                    have hK := hK.put (n := 1009) (k := ((a0).toNatClampNeg)) (v := a2) (by first | rfl | simp [inR])
                    refine lv_goto (tgt := 176) hx hb dX10_sets_136 (by decide) ?_
                    refine lv_iload hx hb dX10_sets_176 (lv_at hl 0 rfl) ?_
                    exact m_iret hx hb hr hlocks hM hS (Nat.le_of_ble_eq_true rfl) (Nat.le_of_ble_eq_true rfl) ⟨_, _, rfl, hI, hK, (by exfalso; omega)⟩ dX10_sets_178
              · have hc215 := c215
                have q215 := q_eq hc215
                refine lv_aload_n hx hb dX10_sets_80 rfl (lv_at hl 0 rfl) ?_
                refine m_getr (1000) 9 (1009) hx hb hts hown hE oc10 hM hJ.1 rfl (by decide) rfl (hJ.2 9 (by decide)).2 (by decide) tb_1186 dX10_sets_81 ?_
                refine lv_iload_n hx hb dX10_sets_84 rfl (lv_at hl 1 rfl) ?_
                refine m_iald (1009) hx hb hE hM (hJ.2 9 (by decide)).1 rfl (vp_in_iff.mpr (by omega)) dX10_sets_85 ?_
                refine lv_goto (tgt := 123) hx hb dX10_sets_86 (by decide) ?_
                refine lv_istore (lv' := [(4, .int (I (1009) (a0).toNatClampNeg)), (0, .ref (ad (1000))), (1, .int (a0)), (2, .int (a1)), (3, .int (a2))]) hx hb dX10_sets_123 hl (by decide) rfl (fun ls hl => ?_)
                refine lv_iload_n hx hb dX10_sets_125 rfl (lv_at hl 3 rfl) ?_
                refine lv_if_ne (tgt := 139) hx hb dX10_sets_126 (by decide) (fun c239 => ?_) (fun c239 => ?_)
                · have hc239 := c239
                  have q239 := q_ne hc239
                  refine lv_iload_n hx hb dX10_sets_139 rfl (lv_at hl 3 rfl) ?_
                  refine lv_iconst (v := (1)) hx hb dX10_sets_140 (by decide) ?_
                  refine lv_icmp_ne (tgt := 154) hx hb dX10_sets_141 (by decide) (fun c240 => ?_) (fun c240 => ?_)
                  · have hc240 := c240
                    have q240 := q_ne hc240
                    refine lv_iload_n hx hb dX10_sets_154 rfl (lv_at hl 3 rfl) ?_
                    refine lv_iconst (v := (2)) hx hb dX10_sets_155 (by decide) ?_
                    refine lv_icmp_ne (tgt := 169) hx hb dX10_sets_156 (by decide) (fun c241 => ?_) (fun c241 => ?_)
                    · have hc241 := c241
                      have q241 := q_ne hc241
                      refine lv_aload_n hx hb dX10_sets_169 rfl (lv_at hl 1 rfl) ?_
                      refine m_getr (1000) 16 (1016) hx hb hts hown hE oc10 hM hJ.1 rfl (by decide) rfl (hJ.2 16 (by decide)).2 (by decide) tb_1193 dX10_sets_170 ?_
                      refine lv_iload_n hx hb dX10_sets_173 rfl (lv_at hl 2 rfl) ?_
                      refine lv_iload_n hx hb dX10_sets_174 rfl (lv_at hl 4 rfl) ?_
                      refine m_iast (1016) hx hb hE hM hS (hJ.2 16 (by decide)).1 rfl (vp_in_iff.mpr (by omega)) dX10_sets_175 (fun H locs I242 eI242 hM hS => ?_)
                      subst eI242
                      have hI := hI.putF (n := 1016) (k := ((a0).toNatClampNeg)) (v := a2) rfl
                      have hK := hK.put (n := 1016) (k := ((a0).toNatClampNeg)) (v := a2) (by first | rfl | simp [inR])
                      refine lv_iload hx hb dX10_sets_176 (lv_at hl 0 rfl) ?_
                      exact m_iret hx hb hr hlocks hM hS (Nat.le_of_ble_eq_true rfl) (Nat.le_of_ble_eq_true rfl) ⟨_, _, rfl, hI, hK, (by exfalso; omega)⟩ dX10_sets_178
                    · have hc241 := c241
                      have q241 := q_eq hc241
                      refine lv_aload_n hx hb dX10_sets_159 rfl (lv_at hl 1 rfl) ?_
                      refine m_getr (1000) 15 (1015) hx hb hts hown hE oc10 hM hJ.1 rfl (by decide) rfl (hJ.2 15 (by decide)).2 (by decide) tb_1192 dX10_sets_160 ?_
                      refine lv_iload_n hx hb dX10_sets_163 rfl (lv_at hl 2 rfl) ?_
                      refine lv_iload_n hx hb dX10_sets_164 rfl (lv_at hl 4 rfl) ?_
                      refine m_iast (1015) hx hb hE hM hS (hJ.2 15 (by decide)).1 rfl (vp_in_iff.mpr (by omega)) dX10_sets_165 (fun H locs I243 eI243 hM hS => ?_)
                      subst eI243
                      have hI := hI.putF (n := 1015) (k := ((a0).toNatClampNeg)) (v := a2) rfl
                      have hK := hK.put (n := 1015) (k := ((a0).toNatClampNeg)) (v := a2) (by first | rfl | simp [inR])
                      refine lv_goto (tgt := 176) hx hb dX10_sets_166 (by decide) ?_
                      refine lv_iload hx hb dX10_sets_176 (lv_at hl 0 rfl) ?_
                      exact m_iret hx hb hr hlocks hM hS (Nat.le_of_ble_eq_true rfl) (Nat.le_of_ble_eq_true rfl) ⟨_, _, rfl, hI, hK, (by exfalso; omega)⟩ dX10_sets_178
                  · have hc240 := c240
                    have q240 := q_eq hc240
                    refine lv_aload_n hx hb dX10_sets_144 rfl (lv_at hl 1 rfl) ?_
                    refine m_getr (1000) 14 (1014) hx hb hts hown hE oc10 hM hJ.1 rfl (by decide) rfl (hJ.2 14 (by decide)).2 (by decide) tb_1191 dX10_sets_145 ?_
                    refine lv_iload_n hx hb dX10_sets_148 rfl (lv_at hl 2 rfl) ?_
                    refine lv_iload_n hx hb dX10_sets_149 rfl (lv_at hl 4 rfl) ?_
                    refine m_iast (1014) hx hb hE hM hS (hJ.2 14 (by decide)).1 rfl (vp_in_iff.mpr (by omega)) dX10_sets_150 (fun H locs I244 eI244 hM hS => ?_)
                    subst eI244
                    have hI := hI.putF (n := 1014) (k := ((a0).toNatClampNeg)) (v := a2) rfl
                    have hK := hK.put (n := 1014) (k := ((a0).toNatClampNeg)) (v := a2) (by first | rfl | simp [inR])
                    refine lv_goto (tgt := 176) hx hb dX10_sets_151 (by decide) ?_
                    refine lv_iload hx hb dX10_sets_176 (lv_at hl 0 rfl) ?_
                    exact m_iret hx hb hr hlocks hM hS (Nat.le_of_ble_eq_true rfl) (Nat.le_of_ble_eq_true rfl) ⟨_, _, rfl, hI, hK, (by exfalso; omega)⟩ dX10_sets_178
                · have hc239 := c239
                  have q239 := q_eq hc239
                  refine lv_aload_n hx hb dX10_sets_129 rfl (lv_at hl 1 rfl) ?_
                  refine m_getr (1000) 9 (1009) hx hb hts hown hE oc10 hM hJ.1 rfl (by decide) rfl (hJ.2 9 (by decide)).2 (by decide) tb_1186 dX10_sets_130 ?_
                  refine lv_iload_n hx hb dX10_sets_133 rfl (lv_at hl 2 rfl) ?_
                  refine lv_iload_n hx hb dX10_sets_134 rfl (lv_at hl 4 rfl) ?_
                  refine m_iast (1009) hx hb hE hM hS (hJ.2 9 (by decide)).1 rfl (vp_in_iff.mpr (by omega)) dX10_sets_135 (fun H locs I245 eI245 hM hS => ?_)
                  subst eI245
                  have hI := hI.putF (n := 1009) (k := ((a0).toNatClampNeg)) (v := a2) rfl
                  have hK := hK.put (n := 1009) (k := ((a0).toNatClampNeg)) (v := a2) (by first | rfl | simp [inR])
                  refine lv_goto (tgt := 176) hx hb dX10_sets_136 (by decide) ?_
                  refine lv_iload hx hb dX10_sets_176 (lv_at hl 0 rfl) ?_
                  have hsr : srow a1 = 9 := by unfold srow; rw [if_pos (by omega)]
                  exact m_iret hx hb hr hlocks hM hS (Nat.le_of_ble_eq_true rfl) (Nat.le_of_ble_eq_true rfl) ⟨_, _, rfl, hI, hK, (Or.inl ⟨⟨by omega, by unfold okE; omega⟩, by rw [hsr]; rfl, by rw [hsr]; exact (live_st (n := 9) EqV.rf)⟩)⟩ dX10_sets_178
            · have hc214 := c214
              have q214 := xr213.f hc214
              refine lv_bipush (v := (-2)) hx hb dX10_sets_73 (by decide) ?_
              exact m_iret hx hb hr hlocks hM hS (Nat.le_of_ble_eq_true rfl) (Nat.le_of_ble_eq_true rfl) ⟨_, _, rfl, hI, hK, (Or.inr ⟨fun hh => by have h2 := hh.2; unfold okE at h2; omega, rfl, rfl⟩)⟩ dX10_sets_75
        · have hc144 := c144
          have q144 := q_eq hc144
          refine lv_ldc2 (v := (7)) hx hb hown (hts _ tb_1451) dX10_sets_38 ?_
          refine lv_goto (tgt := 67) hx hb dX10_sets_41 (by decide) ?_
          refine m_calli (m_runS (As := [.long (v7), .long ((-1 : Int64)), .long ((7 : Int64))]) (rest := []) hx hb hml hown hts hE hM hS hA ce_X10_in tb_1425 (V_X10_in l D A ad ns I L G (v7) ((-1 : Int64)) ((7 : Int64)) hI) rfl rfl ⟨Nat.le_of_ble_eq_true rfl, Nat.le_of_ble_eq_true rfl⟩  rfl hl.1 rfl (Nat.le_of_ble_eq_true rfl) dX10_sets_67 ⟨Nat.le_of_ble_eq_true rfl, Nat.le_of_ble_eq_true rfl⟩) hS (fun r246 u H locs hw hM hS => ?_)
          obtain ⟨rfl, xr246⟩ := hw
          have hM : Mem D A ad ns I L G H := hM
          have yr246 := bo01 xr246
          refine lv_if_ne (tgt := 76) hx hb dX10_sets_70 (by decide) (fun c247 => ?_) (fun c247 => ?_)
          · have hc247 := c247
            have q247 := xr246.t hc247
            refine lv_iload_n hx hb dX10_sets_76 rfl (lv_at hl 2 rfl) ?_
            refine lv_if_ne (tgt := 89) hx hb dX10_sets_77 (by decide) (fun c248 => ?_) (fun c248 => ?_)
            · have hc248 := c248
              have q248 := q_ne hc248
              refine lv_iload_n hx hb dX10_sets_89 rfl (lv_at hl 2 rfl) ?_
              refine lv_iconst (v := (1)) hx hb dX10_sets_90 (by decide) ?_
              refine lv_icmp_ne (tgt := 103) hx hb dX10_sets_91 (by decide) (fun c249 => ?_) (fun c249 => ?_)
              · have hc249 := c249
                have q249 := q_ne hc249
                refine lv_iload_n hx hb dX10_sets_103 rfl (lv_at hl 2 rfl) ?_
                refine lv_iconst (v := (2)) hx hb dX10_sets_104 (by decide) ?_
                refine lv_icmp_ne (tgt := 117) hx hb dX10_sets_105 (by decide) (fun c250 => ?_) (fun c250 => ?_)
                · have hc250 := c250
                  have q250 := q_ne hc250
                  refine lv_aload_n hx hb dX10_sets_117 rfl (lv_at hl 0 rfl) ?_
                  refine m_getr (1000) 16 (1016) hx hb hts hown hE oc10 hM hJ.1 rfl (by decide) rfl (hJ.2 16 (by decide)).2 (by decide) tb_1193 dX10_sets_118 ?_
                  refine lv_iload_n hx hb dX10_sets_121 rfl (lv_at hl 1 rfl) ?_
                  refine m_iald (1016) hx hb hE hM (hJ.2 16 (by decide)).1 rfl (vp_in_iff.mpr (by omega)) dX10_sets_122 ?_
                  refine lv_istore (lv' := [(4, .int (I (1016) (a0).toNatClampNeg)), (0, .ref (ad (1000))), (1, .int (a0)), (2, .int (a1)), (3, .int (a2))]) hx hb dX10_sets_123 hl (by decide) rfl (fun ls hl => ?_)
                  refine lv_iload_n hx hb dX10_sets_125 rfl (lv_at hl 3 rfl) ?_
                  refine lv_if_ne (tgt := 139) hx hb dX10_sets_126 (by decide) (fun c251 => ?_) (fun c251 => ?_)
                  · have hc251 := c251
                    have q251 := q_ne hc251
                    refine lv_iload_n hx hb dX10_sets_139 rfl (lv_at hl 3 rfl) ?_
                    refine lv_iconst (v := (1)) hx hb dX10_sets_140 (by decide) ?_
                    refine lv_icmp_ne (tgt := 154) hx hb dX10_sets_141 (by decide) (fun c252 => ?_) (fun c252 => ?_)
                    · have hc252 := c252
                      have q252 := q_ne hc252
                      refine lv_iload_n hx hb dX10_sets_154 rfl (lv_at hl 3 rfl) ?_
                      refine lv_iconst (v := (2)) hx hb dX10_sets_155 (by decide) ?_
                      refine lv_icmp_ne (tgt := 169) hx hb dX10_sets_156 (by decide) (fun c253 => ?_) (fun c253 => ?_)
                      · have hc253 := c253
                        have q253 := q_ne hc253
                        refine lv_aload_n hx hb dX10_sets_169 rfl (lv_at hl 1 rfl) ?_
                        refine m_getr (1000) 16 (1016) hx hb hts hown hE oc10 hM hJ.1 rfl (by decide) rfl (hJ.2 16 (by decide)).2 (by decide) tb_1193 dX10_sets_170 ?_
                        refine lv_iload_n hx hb dX10_sets_173 rfl (lv_at hl 2 rfl) ?_
                        refine lv_iload_n hx hb dX10_sets_174 rfl (lv_at hl 4 rfl) ?_
                        refine m_iast (1016) hx hb hE hM hS (hJ.2 16 (by decide)).1 rfl (vp_in_iff.mpr (by omega)) dX10_sets_175 (fun H locs I254 eI254 hM hS => ?_)
                        subst eI254
                        have hI := hI.putF (n := 1016) (k := ((a0).toNatClampNeg)) (v := a2) rfl
                        have hK := hK.put (n := 1016) (k := ((a0).toNatClampNeg)) (v := a2) (by first | rfl | simp [inR])
                        refine lv_iload hx hb dX10_sets_176 (lv_at hl 0 rfl) ?_
                        have hsr : srow a1 = 16 := by unfold srow; rw [if_neg (by omega), if_neg (by omega), if_neg (by omega)]
                        exact m_iret hx hb hr hlocks hM hS (Nat.le_of_ble_eq_true rfl) (Nat.le_of_ble_eq_true rfl) ⟨_, _, rfl, hI, hK, (Or.inl ⟨⟨by omega, by unfold okE; omega⟩, by rw [hsr]; rfl, by rw [hsr]; exact (live_st (n := 16) EqV.rf)⟩)⟩ dX10_sets_178
                      · have hc253 := c253
                        have q253 := q_eq hc253
                        refine lv_aload_n hx hb dX10_sets_159 rfl (lv_at hl 1 rfl) ?_
                        refine m_getr (1000) 15 (1015) hx hb hts hown hE oc10 hM hJ.1 rfl (by decide) rfl (hJ.2 15 (by decide)).2 (by decide) tb_1192 dX10_sets_160 ?_
                        refine lv_iload_n hx hb dX10_sets_163 rfl (lv_at hl 2 rfl) ?_
                        refine lv_iload_n hx hb dX10_sets_164 rfl (lv_at hl 4 rfl) ?_
                        refine m_iast (1015) hx hb hE hM hS (hJ.2 15 (by decide)).1 rfl (vp_in_iff.mpr (by omega)) dX10_sets_165 (fun H locs I255 eI255 hM hS => ?_)
                        subst eI255
                        have hI := hI.putF (n := 1015) (k := ((a0).toNatClampNeg)) (v := a2) rfl
                        have hK := hK.put (n := 1015) (k := ((a0).toNatClampNeg)) (v := a2) (by first | rfl | simp [inR])
                        refine lv_goto (tgt := 176) hx hb dX10_sets_166 (by decide) ?_
                        refine lv_iload hx hb dX10_sets_176 (lv_at hl 0 rfl) ?_
                        exact m_iret hx hb hr hlocks hM hS (Nat.le_of_ble_eq_true rfl) (Nat.le_of_ble_eq_true rfl) ⟨_, _, rfl, hI, hK, (by exfalso; omega)⟩ dX10_sets_178
                    · have hc252 := c252
                      have q252 := q_eq hc252
                      refine lv_aload_n hx hb dX10_sets_144 rfl (lv_at hl 1 rfl) ?_
                      refine m_getr (1000) 14 (1014) hx hb hts hown hE oc10 hM hJ.1 rfl (by decide) rfl (hJ.2 14 (by decide)).2 (by decide) tb_1191 dX10_sets_145 ?_
                      refine lv_iload_n hx hb dX10_sets_148 rfl (lv_at hl 2 rfl) ?_
                      refine lv_iload_n hx hb dX10_sets_149 rfl (lv_at hl 4 rfl) ?_
                      refine m_iast (1014) hx hb hE hM hS (hJ.2 14 (by decide)).1 rfl (vp_in_iff.mpr (by omega)) dX10_sets_150 (fun H locs I256 eI256 hM hS => ?_)
                      subst eI256
                      have hI := hI.putF (n := 1014) (k := ((a0).toNatClampNeg)) (v := a2) rfl
                      have hK := hK.put (n := 1014) (k := ((a0).toNatClampNeg)) (v := a2) (by first | rfl | simp [inR])
                      refine lv_goto (tgt := 176) hx hb dX10_sets_151 (by decide) ?_
                      refine lv_iload hx hb dX10_sets_176 (lv_at hl 0 rfl) ?_
                      exact m_iret hx hb hr hlocks hM hS (Nat.le_of_ble_eq_true rfl) (Nat.le_of_ble_eq_true rfl) ⟨_, _, rfl, hI, hK, (by exfalso; omega)⟩ dX10_sets_178
                  · have hc251 := c251
                    have q251 := q_eq hc251
                    refine lv_aload_n hx hb dX10_sets_129 rfl (lv_at hl 1 rfl) ?_
                    refine m_getr (1000) 9 (1009) hx hb hts hown hE oc10 hM hJ.1 rfl (by decide) rfl (hJ.2 9 (by decide)).2 (by decide) tb_1186 dX10_sets_130 ?_
                    refine lv_iload_n hx hb dX10_sets_133 rfl (lv_at hl 2 rfl) ?_
                    refine lv_iload_n hx hb dX10_sets_134 rfl (lv_at hl 4 rfl) ?_
                    refine m_iast (1009) hx hb hE hM hS (hJ.2 9 (by decide)).1 rfl (vp_in_iff.mpr (by omega)) dX10_sets_135 (fun H locs I257 eI257 hM hS => ?_)
                    subst eI257
                    have hI := hI.putF (n := 1009) (k := ((a0).toNatClampNeg)) (v := a2) rfl
                    have hK := hK.put (n := 1009) (k := ((a0).toNatClampNeg)) (v := a2) (by first | rfl | simp [inR])
                    refine lv_goto (tgt := 176) hx hb dX10_sets_136 (by decide) ?_
                    refine lv_iload hx hb dX10_sets_176 (lv_at hl 0 rfl) ?_
                    exact m_iret hx hb hr hlocks hM hS (Nat.le_of_ble_eq_true rfl) (Nat.le_of_ble_eq_true rfl) ⟨_, _, rfl, hI, hK, (by exfalso; omega)⟩ dX10_sets_178
                · have hc250 := c250
                  have q250 := q_eq hc250
                  refine lv_aload_n hx hb dX10_sets_108 rfl (lv_at hl 0 rfl) ?_
                  refine m_getr (1000) 15 (1015) hx hb hts hown hE oc10 hM hJ.1 rfl (by decide) rfl (hJ.2 15 (by decide)).2 (by decide) tb_1192 dX10_sets_109 ?_
                  refine lv_iload_n hx hb dX10_sets_112 rfl (lv_at hl 1 rfl) ?_
                  refine m_iald (1015) hx hb hE hM (hJ.2 15 (by decide)).1 rfl (vp_in_iff.mpr (by omega)) dX10_sets_113 ?_
                  refine lv_goto (tgt := 123) hx hb dX10_sets_114 (by decide) ?_
                  refine lv_istore (lv' := [(4, .int (I (1015) (a0).toNatClampNeg)), (0, .ref (ad (1000))), (1, .int (a0)), (2, .int (a1)), (3, .int (a2))]) hx hb dX10_sets_123 hl (by decide) rfl (fun ls hl => ?_)
                  refine lv_iload_n hx hb dX10_sets_125 rfl (lv_at hl 3 rfl) ?_
                  refine lv_if_ne (tgt := 139) hx hb dX10_sets_126 (by decide) (fun c258 => ?_) (fun c258 => ?_)
                  · have hc258 := c258
                    have q258 := q_ne hc258
                    refine lv_iload_n hx hb dX10_sets_139 rfl (lv_at hl 3 rfl) ?_
                    refine lv_iconst (v := (1)) hx hb dX10_sets_140 (by decide) ?_
                    refine lv_icmp_ne (tgt := 154) hx hb dX10_sets_141 (by decide) (fun c259 => ?_) (fun c259 => ?_)
                    · have hc259 := c259
                      have q259 := q_ne hc259
                      refine lv_iload_n hx hb dX10_sets_154 rfl (lv_at hl 3 rfl) ?_
                      refine lv_iconst (v := (2)) hx hb dX10_sets_155 (by decide) ?_
                      refine lv_icmp_ne (tgt := 169) hx hb dX10_sets_156 (by decide) (fun c260 => ?_) (fun c260 => ?_)
                      · have hc260 := c260
                        have q260 := q_ne hc260
                        refine lv_aload_n hx hb dX10_sets_169 rfl (lv_at hl 1 rfl) ?_
                        refine m_getr (1000) 16 (1016) hx hb hts hown hE oc10 hM hJ.1 rfl (by decide) rfl (hJ.2 16 (by decide)).2 (by decide) tb_1193 dX10_sets_170 ?_
                        refine lv_iload_n hx hb dX10_sets_173 rfl (lv_at hl 2 rfl) ?_
                        refine lv_iload_n hx hb dX10_sets_174 rfl (lv_at hl 4 rfl) ?_
                        refine m_iast (1016) hx hb hE hM hS (hJ.2 16 (by decide)).1 rfl (vp_in_iff.mpr (by omega)) dX10_sets_175 (fun H locs I261 eI261 hM hS => ?_)
                        subst eI261
                        have hI := hI.putF (n := 1016) (k := ((a0).toNatClampNeg)) (v := a2) rfl
                        have hK := hK.put (n := 1016) (k := ((a0).toNatClampNeg)) (v := a2) (by first | rfl | simp [inR])
                        refine lv_iload hx hb dX10_sets_176 (lv_at hl 0 rfl) ?_
                        exact m_iret hx hb hr hlocks hM hS (Nat.le_of_ble_eq_true rfl) (Nat.le_of_ble_eq_true rfl) ⟨_, _, rfl, hI, hK, (by exfalso; omega)⟩ dX10_sets_178
                      · have hc260 := c260
                        have q260 := q_eq hc260
                        refine lv_aload_n hx hb dX10_sets_159 rfl (lv_at hl 1 rfl) ?_
                        refine m_getr (1000) 15 (1015) hx hb hts hown hE oc10 hM hJ.1 rfl (by decide) rfl (hJ.2 15 (by decide)).2 (by decide) tb_1192 dX10_sets_160 ?_
                        refine lv_iload_n hx hb dX10_sets_163 rfl (lv_at hl 2 rfl) ?_
                        refine lv_iload_n hx hb dX10_sets_164 rfl (lv_at hl 4 rfl) ?_
                        refine m_iast (1015) hx hb hE hM hS (hJ.2 15 (by decide)).1 rfl (vp_in_iff.mpr (by omega)) dX10_sets_165 (fun H locs I262 eI262 hM hS => ?_)
                        subst eI262
                        have hI := hI.putF (n := 1015) (k := ((a0).toNatClampNeg)) (v := a2) rfl
                        have hK := hK.put (n := 1015) (k := ((a0).toNatClampNeg)) (v := a2) (by first | rfl | simp [inR])
                        refine lv_goto (tgt := 176) hx hb dX10_sets_166 (by decide) ?_
                        refine lv_iload hx hb dX10_sets_176 (lv_at hl 0 rfl) ?_
                        have hsr : srow a1 = 15 := by unfold srow; rw [if_neg (by omega), if_neg (by omega), if_pos (by omega)]
                        exact m_iret hx hb hr hlocks hM hS (Nat.le_of_ble_eq_true rfl) (Nat.le_of_ble_eq_true rfl) ⟨_, _, rfl, hI, hK, (Or.inl ⟨⟨by omega, by unfold okE; omega⟩, by rw [hsr]; rfl, by rw [hsr]; exact (live_st (n := 15) EqV.rf)⟩)⟩ dX10_sets_178
                    · have hc259 := c259
                      have q259 := q_eq hc259
                      refine lv_aload_n hx hb dX10_sets_144 rfl (lv_at hl 1 rfl) ?_
                      refine m_getr (1000) 14 (1014) hx hb hts hown hE oc10 hM hJ.1 rfl (by decide) rfl (hJ.2 14 (by decide)).2 (by decide) tb_1191 dX10_sets_145 ?_
                      refine lv_iload_n hx hb dX10_sets_148 rfl (lv_at hl 2 rfl) ?_
                      refine lv_iload_n hx hb dX10_sets_149 rfl (lv_at hl 4 rfl) ?_
                      refine m_iast (1014) hx hb hE hM hS (hJ.2 14 (by decide)).1 rfl (vp_in_iff.mpr (by omega)) dX10_sets_150 (fun H locs I263 eI263 hM hS => ?_)
                      subst eI263
                      have hI := hI.putF (n := 1014) (k := ((a0).toNatClampNeg)) (v := a2) rfl
                      have hK := hK.put (n := 1014) (k := ((a0).toNatClampNeg)) (v := a2) (by first | rfl | simp [inR])
                      refine lv_goto (tgt := 176) hx hb dX10_sets_151 (by decide) ?_
                      refine lv_iload hx hb dX10_sets_176 (lv_at hl 0 rfl) ?_
                      exact m_iret hx hb hr hlocks hM hS (Nat.le_of_ble_eq_true rfl) (Nat.le_of_ble_eq_true rfl) ⟨_, _, rfl, hI, hK, (by exfalso; omega)⟩ dX10_sets_178
                  · have hc258 := c258
                    have q258 := q_eq hc258
                    refine lv_aload_n hx hb dX10_sets_129 rfl (lv_at hl 1 rfl) ?_
                    refine m_getr (1000) 9 (1009) hx hb hts hown hE oc10 hM hJ.1 rfl (by decide) rfl (hJ.2 9 (by decide)).2 (by decide) tb_1186 dX10_sets_130 ?_
                    refine lv_iload_n hx hb dX10_sets_133 rfl (lv_at hl 2 rfl) ?_
                    refine lv_iload_n hx hb dX10_sets_134 rfl (lv_at hl 4 rfl) ?_
                    refine m_iast (1009) hx hb hE hM hS (hJ.2 9 (by decide)).1 rfl (vp_in_iff.mpr (by omega)) dX10_sets_135 (fun H locs I264 eI264 hM hS => ?_)
                    subst eI264
                    have hI := hI.putF (n := 1009) (k := ((a0).toNatClampNeg)) (v := a2) rfl
                    have hK := hK.put (n := 1009) (k := ((a0).toNatClampNeg)) (v := a2) (by first | rfl | simp [inR])
                    refine lv_goto (tgt := 176) hx hb dX10_sets_136 (by decide) ?_
                    refine lv_iload hx hb dX10_sets_176 (lv_at hl 0 rfl) ?_
                    exact m_iret hx hb hr hlocks hM hS (Nat.le_of_ble_eq_true rfl) (Nat.le_of_ble_eq_true rfl) ⟨_, _, rfl, hI, hK, (by exfalso; omega)⟩ dX10_sets_178
              · have hc249 := c249
                have q249 := q_eq hc249
                refine lv_aload_n hx hb dX10_sets_94 rfl (lv_at hl 0 rfl) ?_
                refine m_getr (1000) 14 (1014) hx hb hts hown hE oc10 hM hJ.1 rfl (by decide) rfl (hJ.2 14 (by decide)).2 (by decide) tb_1191 dX10_sets_95 ?_
                refine lv_iload_n hx hb dX10_sets_98 rfl (lv_at hl 1 rfl) ?_
                refine m_iald (1014) hx hb hE hM (hJ.2 14 (by decide)).1 rfl (vp_in_iff.mpr (by omega)) dX10_sets_99 ?_
                refine lv_goto (tgt := 123) hx hb dX10_sets_100 (by decide) ?_
                refine lv_istore (lv' := [(4, .int (I (1014) (a0).toNatClampNeg)), (0, .ref (ad (1000))), (1, .int (a0)), (2, .int (a1)), (3, .int (a2))]) hx hb dX10_sets_123 hl (by decide) rfl (fun ls hl => ?_)
                refine lv_iload_n hx hb dX10_sets_125 rfl (lv_at hl 3 rfl) ?_
                refine lv_if_ne (tgt := 139) hx hb dX10_sets_126 (by decide) (fun c265 => ?_) (fun c265 => ?_)
                · have hc265 := c265
                  have q265 := q_ne hc265
                  refine lv_iload_n hx hb dX10_sets_139 rfl (lv_at hl 3 rfl) ?_
                  refine lv_iconst (v := (1)) hx hb dX10_sets_140 (by decide) ?_
                  refine lv_icmp_ne (tgt := 154) hx hb dX10_sets_141 (by decide) (fun c266 => ?_) (fun c266 => ?_)
                  · have hc266 := c266
                    have q266 := q_ne hc266
                    refine lv_iload_n hx hb dX10_sets_154 rfl (lv_at hl 3 rfl) ?_
                    refine lv_iconst (v := (2)) hx hb dX10_sets_155 (by decide) ?_
                    refine lv_icmp_ne (tgt := 169) hx hb dX10_sets_156 (by decide) (fun c267 => ?_) (fun c267 => ?_)
                    · have hc267 := c267
                      have q267 := q_ne hc267
                      refine lv_aload_n hx hb dX10_sets_169 rfl (lv_at hl 1 rfl) ?_
                      refine m_getr (1000) 16 (1016) hx hb hts hown hE oc10 hM hJ.1 rfl (by decide) rfl (hJ.2 16 (by decide)).2 (by decide) tb_1193 dX10_sets_170 ?_
                      refine lv_iload_n hx hb dX10_sets_173 rfl (lv_at hl 2 rfl) ?_
                      refine lv_iload_n hx hb dX10_sets_174 rfl (lv_at hl 4 rfl) ?_
                      refine m_iast (1016) hx hb hE hM hS (hJ.2 16 (by decide)).1 rfl (vp_in_iff.mpr (by omega)) dX10_sets_175 (fun H locs I268 eI268 hM hS => ?_)
                      subst eI268
                      have hI := hI.putF (n := 1016) (k := ((a0).toNatClampNeg)) (v := a2) rfl
                      have hK := hK.put (n := 1016) (k := ((a0).toNatClampNeg)) (v := a2) (by first | rfl | simp [inR])
                      refine lv_iload hx hb dX10_sets_176 (lv_at hl 0 rfl) ?_
                      exact m_iret hx hb hr hlocks hM hS (Nat.le_of_ble_eq_true rfl) (Nat.le_of_ble_eq_true rfl) ⟨_, _, rfl, hI, hK, (by exfalso; omega)⟩ dX10_sets_178
                    · have hc267 := c267
                      have q267 := q_eq hc267
                      refine lv_aload_n hx hb dX10_sets_159 rfl (lv_at hl 1 rfl) ?_
                      refine m_getr (1000) 15 (1015) hx hb hts hown hE oc10 hM hJ.1 rfl (by decide) rfl (hJ.2 15 (by decide)).2 (by decide) tb_1192 dX10_sets_160 ?_
                      refine lv_iload_n hx hb dX10_sets_163 rfl (lv_at hl 2 rfl) ?_
                      refine lv_iload_n hx hb dX10_sets_164 rfl (lv_at hl 4 rfl) ?_
                      refine m_iast (1015) hx hb hE hM hS (hJ.2 15 (by decide)).1 rfl (vp_in_iff.mpr (by omega)) dX10_sets_165 (fun H locs I269 eI269 hM hS => ?_)
                      subst eI269
                      have hI := hI.putF (n := 1015) (k := ((a0).toNatClampNeg)) (v := a2) rfl
                      have hK := hK.put (n := 1015) (k := ((a0).toNatClampNeg)) (v := a2) (by first | rfl | simp [inR])
                      refine lv_goto (tgt := 176) hx hb dX10_sets_166 (by decide) ?_
                      refine lv_iload hx hb dX10_sets_176 (lv_at hl 0 rfl) ?_
                      exact m_iret hx hb hr hlocks hM hS (Nat.le_of_ble_eq_true rfl) (Nat.le_of_ble_eq_true rfl) ⟨_, _, rfl, hI, hK, (by exfalso; omega)⟩ dX10_sets_178
                  · have hc266 := c266
                    have q266 := q_eq hc266
                    refine lv_aload_n hx hb dX10_sets_144 rfl (lv_at hl 1 rfl) ?_
                    refine m_getr (1000) 14 (1014) hx hb hts hown hE oc10 hM hJ.1 rfl (by decide) rfl (hJ.2 14 (by decide)).2 (by decide) tb_1191 dX10_sets_145 ?_
                    refine lv_iload_n hx hb dX10_sets_148 rfl (lv_at hl 2 rfl) ?_
                    refine lv_iload_n hx hb dX10_sets_149 rfl (lv_at hl 4 rfl) ?_
                    refine m_iast (1014) hx hb hE hM hS (hJ.2 14 (by decide)).1 rfl (vp_in_iff.mpr (by omega)) dX10_sets_150 (fun H locs I270 eI270 hM hS => ?_)
                    subst eI270
                    have hI := hI.putF (n := 1014) (k := ((a0).toNatClampNeg)) (v := a2) rfl
                    have hK := hK.put (n := 1014) (k := ((a0).toNatClampNeg)) (v := a2) (by first | rfl | simp [inR])
                    refine lv_goto (tgt := 176) hx hb dX10_sets_151 (by decide) ?_
                    refine lv_iload hx hb dX10_sets_176 (lv_at hl 0 rfl) ?_
                    have hsr : srow a1 = 14 := by unfold srow; rw [if_neg (by omega), if_pos (by omega)]
                    exact m_iret hx hb hr hlocks hM hS (Nat.le_of_ble_eq_true rfl) (Nat.le_of_ble_eq_true rfl) ⟨_, _, rfl, hI, hK, (Or.inl ⟨⟨by omega, by unfold okE; omega⟩, by rw [hsr]; rfl, by rw [hsr]; exact (live_st (n := 14) EqV.rf)⟩)⟩ dX10_sets_178
                · have hc265 := c265
                  have q265 := q_eq hc265
                  refine lv_aload_n hx hb dX10_sets_129 rfl (lv_at hl 1 rfl) ?_
                  refine m_getr (1000) 9 (1009) hx hb hts hown hE oc10 hM hJ.1 rfl (by decide) rfl (hJ.2 9 (by decide)).2 (by decide) tb_1186 dX10_sets_130 ?_
                  refine lv_iload_n hx hb dX10_sets_133 rfl (lv_at hl 2 rfl) ?_
                  refine lv_iload_n hx hb dX10_sets_134 rfl (lv_at hl 4 rfl) ?_
                  refine m_iast (1009) hx hb hE hM hS (hJ.2 9 (by decide)).1 rfl (vp_in_iff.mpr (by omega)) dX10_sets_135 (fun H locs I271 eI271 hM hS => ?_)
                  subst eI271
                  have hI := hI.putF (n := 1009) (k := ((a0).toNatClampNeg)) (v := a2) rfl
                  have hK := hK.put (n := 1009) (k := ((a0).toNatClampNeg)) (v := a2) (by first | rfl | simp [inR])
                  refine lv_goto (tgt := 176) hx hb dX10_sets_136 (by decide) ?_
                  refine lv_iload hx hb dX10_sets_176 (lv_at hl 0 rfl) ?_
                  exact m_iret hx hb hr hlocks hM hS (Nat.le_of_ble_eq_true rfl) (Nat.le_of_ble_eq_true rfl) ⟨_, _, rfl, hI, hK, (by exfalso; omega)⟩ dX10_sets_178
            · have hc248 := c248
              have q248 := q_eq hc248
              refine lv_aload_n hx hb dX10_sets_80 rfl (lv_at hl 0 rfl) ?_
              refine m_getr (1000) 9 (1009) hx hb hts hown hE oc10 hM hJ.1 rfl (by decide) rfl (hJ.2 9 (by decide)).2 (by decide) tb_1186 dX10_sets_81 ?_
              refine lv_iload_n hx hb dX10_sets_84 rfl (lv_at hl 1 rfl) ?_
              refine m_iald (1009) hx hb hE hM (hJ.2 9 (by decide)).1 rfl (vp_in_iff.mpr (by omega)) dX10_sets_85 ?_
              refine lv_goto (tgt := 123) hx hb dX10_sets_86 (by decide) ?_
              refine lv_istore (lv' := [(4, .int (I (1009) (a0).toNatClampNeg)), (0, .ref (ad (1000))), (1, .int (a0)), (2, .int (a1)), (3, .int (a2))]) hx hb dX10_sets_123 hl (by decide) rfl (fun ls hl => ?_)
              refine lv_iload_n hx hb dX10_sets_125 rfl (lv_at hl 3 rfl) ?_
              refine lv_if_ne (tgt := 139) hx hb dX10_sets_126 (by decide) (fun c272 => ?_) (fun c272 => ?_)
              · have hc272 := c272
                have q272 := q_ne hc272
                refine lv_iload_n hx hb dX10_sets_139 rfl (lv_at hl 3 rfl) ?_
                refine lv_iconst (v := (1)) hx hb dX10_sets_140 (by decide) ?_
                refine lv_icmp_ne (tgt := 154) hx hb dX10_sets_141 (by decide) (fun c273 => ?_) (fun c273 => ?_)
                · have hc273 := c273
                  have q273 := q_ne hc273
                  refine lv_iload_n hx hb dX10_sets_154 rfl (lv_at hl 3 rfl) ?_
                  refine lv_iconst (v := (2)) hx hb dX10_sets_155 (by decide) ?_
                  refine lv_icmp_ne (tgt := 169) hx hb dX10_sets_156 (by decide) (fun c274 => ?_) (fun c274 => ?_)
                  · have hc274 := c274
                    have q274 := q_ne hc274
                    refine lv_aload_n hx hb dX10_sets_169 rfl (lv_at hl 1 rfl) ?_
                    refine m_getr (1000) 16 (1016) hx hb hts hown hE oc10 hM hJ.1 rfl (by decide) rfl (hJ.2 16 (by decide)).2 (by decide) tb_1193 dX10_sets_170 ?_
                    refine lv_iload_n hx hb dX10_sets_173 rfl (lv_at hl 2 rfl) ?_
                    refine lv_iload_n hx hb dX10_sets_174 rfl (lv_at hl 4 rfl) ?_
                    refine m_iast (1016) hx hb hE hM hS (hJ.2 16 (by decide)).1 rfl (vp_in_iff.mpr (by omega)) dX10_sets_175 (fun H locs I275 eI275 hM hS => ?_)
                    subst eI275
                    have hI := hI.putF (n := 1016) (k := ((a0).toNatClampNeg)) (v := a2) rfl
                    have hK := hK.put (n := 1016) (k := ((a0).toNatClampNeg)) (v := a2) (by first | rfl | simp [inR])
                    refine lv_iload hx hb dX10_sets_176 (lv_at hl 0 rfl) ?_
                    exact m_iret hx hb hr hlocks hM hS (Nat.le_of_ble_eq_true rfl) (Nat.le_of_ble_eq_true rfl) ⟨_, _, rfl, hI, hK, (by exfalso; omega)⟩ dX10_sets_178
                  · have hc274 := c274
                    have q274 := q_eq hc274
                    refine lv_aload_n hx hb dX10_sets_159 rfl (lv_at hl 1 rfl) ?_
                    refine m_getr (1000) 15 (1015) hx hb hts hown hE oc10 hM hJ.1 rfl (by decide) rfl (hJ.2 15 (by decide)).2 (by decide) tb_1192 dX10_sets_160 ?_
                    refine lv_iload_n hx hb dX10_sets_163 rfl (lv_at hl 2 rfl) ?_
                    refine lv_iload_n hx hb dX10_sets_164 rfl (lv_at hl 4 rfl) ?_
                    refine m_iast (1015) hx hb hE hM hS (hJ.2 15 (by decide)).1 rfl (vp_in_iff.mpr (by omega)) dX10_sets_165 (fun H locs I276 eI276 hM hS => ?_)
                    subst eI276
                    have hI := hI.putF (n := 1015) (k := ((a0).toNatClampNeg)) (v := a2) rfl
                    have hK := hK.put (n := 1015) (k := ((a0).toNatClampNeg)) (v := a2) (by first | rfl | simp [inR])
                    refine lv_goto (tgt := 176) hx hb dX10_sets_166 (by decide) ?_
                    refine lv_iload hx hb dX10_sets_176 (lv_at hl 0 rfl) ?_
                    exact m_iret hx hb hr hlocks hM hS (Nat.le_of_ble_eq_true rfl) (Nat.le_of_ble_eq_true rfl) ⟨_, _, rfl, hI, hK, (by exfalso; omega)⟩ dX10_sets_178
                · have hc273 := c273
                  have q273 := q_eq hc273
                  refine lv_aload_n hx hb dX10_sets_144 rfl (lv_at hl 1 rfl) ?_
                  refine m_getr (1000) 14 (1014) hx hb hts hown hE oc10 hM hJ.1 rfl (by decide) rfl (hJ.2 14 (by decide)).2 (by decide) tb_1191 dX10_sets_145 ?_
                  refine lv_iload_n hx hb dX10_sets_148 rfl (lv_at hl 2 rfl) ?_
                  refine lv_iload_n hx hb dX10_sets_149 rfl (lv_at hl 4 rfl) ?_
                  refine m_iast (1014) hx hb hE hM hS (hJ.2 14 (by decide)).1 rfl (vp_in_iff.mpr (by omega)) dX10_sets_150 (fun H locs I277 eI277 hM hS => ?_)
                  subst eI277
                  have hI := hI.putF (n := 1014) (k := ((a0).toNatClampNeg)) (v := a2) rfl
                  have hK := hK.put (n := 1014) (k := ((a0).toNatClampNeg)) (v := a2) (by first | rfl | simp [inR])
                  refine lv_goto (tgt := 176) hx hb dX10_sets_151 (by decide) ?_
                  refine lv_iload hx hb dX10_sets_176 (lv_at hl 0 rfl) ?_
                  exact m_iret hx hb hr hlocks hM hS (Nat.le_of_ble_eq_true rfl) (Nat.le_of_ble_eq_true rfl) ⟨_, _, rfl, hI, hK, (by exfalso; omega)⟩ dX10_sets_178
              · have hc272 := c272
                have q272 := q_eq hc272
                refine lv_aload_n hx hb dX10_sets_129 rfl (lv_at hl 1 rfl) ?_
                refine m_getr (1000) 9 (1009) hx hb hts hown hE oc10 hM hJ.1 rfl (by decide) rfl (hJ.2 9 (by decide)).2 (by decide) tb_1186 dX10_sets_130 ?_
                refine lv_iload_n hx hb dX10_sets_133 rfl (lv_at hl 2 rfl) ?_
                refine lv_iload_n hx hb dX10_sets_134 rfl (lv_at hl 4 rfl) ?_
                refine m_iast (1009) hx hb hE hM hS (hJ.2 9 (by decide)).1 rfl (vp_in_iff.mpr (by omega)) dX10_sets_135 (fun H locs I278 eI278 hM hS => ?_)
                subst eI278
                have hI := hI.putF (n := 1009) (k := ((a0).toNatClampNeg)) (v := a2) rfl
                have hK := hK.put (n := 1009) (k := ((a0).toNatClampNeg)) (v := a2) (by first | rfl | simp [inR])
                refine lv_goto (tgt := 176) hx hb dX10_sets_136 (by decide) ?_
                refine lv_iload hx hb dX10_sets_176 (lv_at hl 0 rfl) ?_
                have hsr : srow a1 = 9 := by unfold srow; rw [if_pos (by omega)]
                exact m_iret hx hb hr hlocks hM hS (Nat.le_of_ble_eq_true rfl) (Nat.le_of_ble_eq_true rfl) ⟨_, _, rfl, hI, hK, (Or.inl ⟨⟨by omega, by unfold okE; omega⟩, by rw [hsr]; rfl, by rw [hsr]; exact (live_st (n := 9) EqV.rf)⟩)⟩ dX10_sets_178
          · have hc247 := c247
            have q247 := xr246.f hc247
            refine lv_bipush (v := (-2)) hx hb dX10_sets_73 (by decide) ?_
            exact m_iret hx hb hr hlocks hM hS (Nat.le_of_ble_eq_true rfl) (Nat.le_of_ble_eq_true rfl) ⟨_, _, rfl, hI, hK, (Or.inr ⟨fun hh => by have h2 := hh.2; unfold okE at h2; omega, rfl, rfl⟩)⟩ dX10_sets_75
