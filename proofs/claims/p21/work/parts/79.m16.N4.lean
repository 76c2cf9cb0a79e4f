set_option maxHeartbeats 4000000 in
set_option maxRecDepth 20000 in
theorem V_X10_town_t (l : Launch) (D : va_G) (A : Nat → Prop) (ad : Nat → Nat) (ns : List Nat) (I : MI) (L : ML) (G : MG) (a0 : Int32) (a1 : Int32) (a2 : Int32) (a3 : Int32) (a4 : Int32) (hJ : SGM ns G) (hI : INV I) : Met l yX10_town (wd yX10_town cX10_town 7 (some .boolean)) ({ frames := 1, cells := 0, slots := 0, locals := 25 }) (va_Pc [.ref (ad (1000)), .int a0, .int a1, .int a2, .int a3, .int a4] (PM D A ad ns I L G)) (va_Qi (fun r u => ∃ I2 L2, u = (ad, ns, I2, L2, G) ∧ INV I2 ∧ Kp [(1001, 1007)] [] I I2 ∧ (SNT (okT a0 a1 a2 a3 a4) r I I2 (twnV (live I) a0 a1 a2 a3 a4) (live I2))) (BM D A) A) 0 0 A := by
  refine m_ofW (by decide) (Nat.le_of_ble_eq_true rfl) ?_
  intro p e s m below meth c ls args hC hE hM hA hS hl
  obtain ⟨hx, hb, hml, hown, hts, hr, hlocks, hin⟩ := hC
  have km1 : (-1 : Int32).toInt = -1 := by decide
  have k0 : (0 : Int32).toInt = 0 := by decide
  have k1 : (1 : Int32).toInt = 1 := by decide
  have k2 : (2 : Int32).toInt = 2 := by decide
  have k3 : (3 : Int32).toInt = 3 := by decide
  have k4 : (4 : Int32).toInt = 4 := by decide
  have k10 : (10 : Int32).toInt = 10 := by decide
  have k24 : (24 : Int32).toInt = 24 := by decide
  have k288 : (288 : Int32).toInt = 288 := by decide
  have k576 : (576 : Int32).toInt = 576 := by decide
  have kl0 : (0 : Int64).toInt = 0 := by decide
  have kl4 : (4 : Int64).toInt = 4 := by decide
  have kl24 : (24 : Int64).toInt = 24 := by decide
  have kl1000 : (1000 : Int64).toInt = 1000 := by decide
  have hK : Kp [(1001, 1007)] [] I I := Kp.rf
  have hl : lv_has ls 7 [(0, .ref (ad (1000))), (1, .int (a0)), (2, .int (a1)), (3, .int (a2)), (4, .int (a3)), (5, .int (a4))] := hl
  refine lv_iload_n hx hb dX10_town_0 rfl (lv_at hl 1 rfl) ?_
  refine lv_i2l hx hb dX10_town_1 rfl ?_
  refine lv_topl (fun v1 ev1 => ?_)
  have tv1 := q_i2l ev1
  refine lv_ldc2 (v := (4)) hx hb hown (hts _ tb_1423) dX10_town_2 ?_
  refine lv_ldc2 (v := (24)) hx hb hown (hts _ tb_1424) dX10_town_5 ?_
  refine m_calli (m_runS (As := [.long (v1), .long ((4 : Int64)), .long ((24 : Int64))]) (rest := []) hx hb hml hown hts hE hM hS hA ce_X10_in tb_1425 (V_X10_in l D A ad ns I L G (v1) ((4 : Int64)) ((24 : Int64)) hI) rfl rfl ⟨Nat.le_of_ble_eq_true rfl, Nat.le_of_ble_eq_true rfl⟩  rfl hl.1 rfl (Nat.le_of_ble_eq_true rfl) dX10_town_8 ⟨Nat.le_of_ble_eq_true rfl, Nat.le_of_ble_eq_true rfl⟩) hS (fun r2 u H locs hw hM hS => ?_)
  obtain ⟨rfl, xr2⟩ := hw
  have hM : Mem D A ad ns I L G H := hM
  have yr2 := bo01 xr2
  refine lv_if_eq (tgt := 68) hx hb dX10_town_11 (by decide) (fun c3 => ?_) (fun c3 => ?_)
  · have hc3 := c3
    have q3 := xr2.f hc3
    refine lv_iconst (v := (0)) hx hb dX10_town_68 (by decide) ?_
    exact m_zret hx hb hr rfl hlocks hM hS (Nat.le_of_ble_eq_true rfl) (Nat.le_of_ble_eq_true rfl) ⟨_, _, rfl, hI, hK, (Or.inr ⟨by unfold okT; omega, rfl, rfl⟩)⟩ dX10_town_69
  · have hc3 := c3
    have q3 := xr2.t hc3
    refine lv_iload_n hx hb dX10_town_14 rfl (lv_at hl 2 rfl) ?_
    refine lv_i2l hx hb dX10_town_15 rfl ?_
    refine lv_topl (fun v4 ev4 => ?_)
    have tv4 := q_i2l ev4
    refine lv_ldc2 (v := (4)) hx hb hown (hts _ tb_1423) dX10_town_16 ?_
    refine lv_ldc2 (v := (24)) hx hb hown (hts _ tb_1424) dX10_town_19 ?_
    refine m_calli (m_runS (As := [.long (v4), .long ((4 : Int64)), .long ((24 : Int64))]) (rest := []) hx hb hml hown hts hE hM hS hA ce_X10_in tb_1425 (V_X10_in l D A ad ns I L G (v4) ((4 : Int64)) ((24 : Int64)) hI) rfl rfl ⟨Nat.le_of_ble_eq_true rfl, Nat.le_of_ble_eq_true rfl⟩  rfl hl.1 rfl (Nat.le_of_ble_eq_true rfl) dX10_town_22 ⟨Nat.le_of_ble_eq_true rfl, Nat.le_of_ble_eq_true rfl⟩) hS (fun r5 u H locs hw hM hS => ?_)
    obtain ⟨rfl, xr5⟩ := hw
    have hM : Mem D A ad ns I L G H := hM
    have yr5 := bo01 xr5
    refine lv_if_eq (tgt := 68) hx hb dX10_town_25 (by decide) (fun c6 => ?_) (fun c6 => ?_)
    · have hc6 := c6
      have q6 := xr5.f hc6
      refine lv_iconst (v := (0)) hx hb dX10_town_68 (by decide) ?_
      exact m_zret hx hb hr rfl hlocks hM hS (Nat.le_of_ble_eq_true rfl) (Nat.le_of_ble_eq_true rfl) ⟨_, _, rfl, hI, hK, (Or.inr ⟨by unfold okT; omega, rfl, rfl⟩)⟩ dX10_town_69
    · have hc6 := c6
      have q6 := xr5.t hc6
      refine lv_iload_n hx hb dX10_town_28 rfl (lv_at hl 3 rfl) ?_
      refine lv_i2l hx hb dX10_town_29 rfl ?_
      refine lv_topl (fun v7 ev7 => ?_)
      have tv7 := q_i2l ev7
      refine lv_lconst (v := 0) hx hb dX10_town_30 (by decide) ?_
      refine lv_iload_n hx hb dX10_town_31 rfl (lv_at hl 1 rfl) ?_
      refine lv_iconst (v := (1)) hx hb dX10_town_32 (by decide) ?_
      refine lv_isub hx hb dX10_town_33 ?_
      refine lv_topi (fun v8 ev8 => ?_)
      have tv8 := a_sub ev8 (by omega) (by omega)
      refine lv_i2l hx hb dX10_town_34 rfl ?_
      refine lv_topl (fun v9 ev9 => ?_)
      have tv9 := q_i2l ev9
      refine m_calli (m_runS (As := [.long (v7), .long (0), .long (v9)]) (rest := []) hx hb hml hown hts hE hM hS hA ce_X10_in tb_1425 (V_X10_in l D A ad ns I L G (v7) (0) (v9) hI) rfl rfl ⟨Nat.le_of_ble_eq_true rfl, Nat.le_of_ble_eq_true rfl⟩  rfl hl.1 rfl (Nat.le_of_ble_eq_true rfl) dX10_town_35 ⟨Nat.le_of_ble_eq_true rfl, Nat.le_of_ble_eq_true rfl⟩) hS (fun r10 u H locs hw hM hS => ?_)
      obtain ⟨rfl, xr10⟩ := hw
      have hM : Mem D A ad ns I L G H := hM
      have yr10 := bo01 xr10
      refine lv_if_eq (tgt := 68) hx hb dX10_town_38 (by decide) (fun c11 => ?_) (fun c11 => ?_)
      · have hc11 := c11
        have q11 := xr10.f hc11
        refine lv_iconst (v := (0)) hx hb dX10_town_68 (by decide) ?_
        exact m_zret hx hb hr rfl hlocks hM hS (Nat.le_of_ble_eq_true rfl) (Nat.le_of_ble_eq_true rfl) ⟨_, _, rfl, hI, hK, (Or.inr ⟨by unfold okT; omega, rfl, rfl⟩)⟩ dX10_town_69
      · have hc11 := c11
        have q11 := xr10.t hc11
        refine lv_iload hx hb dX10_town_41 (lv_at hl 4 rfl) ?_
        refine lv_i2l hx hb dX10_town_43 rfl ?_
        refine lv_topl (fun v12 ev12 => ?_)
        have tv12 := q_i2l ev12
        refine lv_lconst (v := 0) hx hb dX10_town_44 (by decide) ?_
        refine lv_iload_n hx hb dX10_town_45 rfl (lv_at hl 2 rfl) ?_
        refine lv_iconst (v := (1)) hx hb dX10_town_46 (by decide) ?_
        refine lv_isub hx hb dX10_town_47 ?_
        refine lv_topi (fun v13 ev13 => ?_)
        have tv13 := a_sub ev13 (by omega) (by omega)
        refine lv_i2l hx hb dX10_town_48 rfl ?_
        refine lv_topl (fun v14 ev14 => ?_)
        have tv14 := q_i2l ev14
        refine m_calli (m_runS (As := [.long (v12), .long (0), .long (v14)]) (rest := []) hx hb hml hown hts hE hM hS hA ce_X10_in tb_1425 (V_X10_in l D A ad ns I L G (v12) (0) (v14) hI) rfl rfl ⟨Nat.le_of_ble_eq_true rfl, Nat.le_of_ble_eq_true rfl⟩  rfl hl.1 rfl (Nat.le_of_ble_eq_true rfl) dX10_town_49 ⟨Nat.le_of_ble_eq_true rfl, Nat.le_of_ble_eq_true rfl⟩) hS (fun r15 u H locs hw hM hS => ?_)
        obtain ⟨rfl, xr15⟩ := hw
        have hM : Mem D A ad ns I L G H := hM
        have yr15 := bo01 xr15
        refine lv_if_eq (tgt := 68) hx hb dX10_town_52 (by decide) (fun c16 => ?_) (fun c16 => ?_)
        · have hc16 := c16
          have q16 := xr15.f hc16
          refine lv_iconst (v := (0)) hx hb dX10_town_68 (by decide) ?_
          exact m_zret hx hb hr rfl hlocks hM hS (Nat.le_of_ble_eq_true rfl) (Nat.le_of_ble_eq_true rfl) ⟨_, _, rfl, hI, hK, (Or.inr ⟨by unfold okT; omega, rfl, rfl⟩)⟩ dX10_town_69
        · have hc16 := c16
          have q16 := xr15.t hc16
          refine lv_iload hx hb dX10_town_55 (lv_at hl 5 rfl) ?_
          refine lv_i2l hx hb dX10_town_57 rfl ?_
          refine lv_topl (fun v17 ev17 => ?_)
          have tv17 := q_i2l ev17
          refine lv_lconst (v := 0) hx hb dX10_town_58 (by decide) ?_
          refine lv_ldc2 (v := (1000)) hx hb hown (hts _ tb_1428) dX10_town_59 ?_
          refine m_calli (m_runS (As := [.long (v17), .long (0), .long ((1000 : Int64))]) (rest := []) hx hb hml hown hts hE hM hS hA ce_X10_in tb_1425 (V_X10_in l D A ad ns I L G (v17) (0) ((1000 : Int64)) hI) rfl rfl ⟨Nat.le_of_ble_eq_true rfl, Nat.le_of_ble_eq_true rfl⟩  rfl hl.1 rfl (Nat.le_of_ble_eq_true rfl) dX10_town_62 ⟨Nat.le_of_ble_eq_true rfl, Nat.le_of_ble_eq_true rfl⟩) hS (fun r18 u H locs hw hM hS => ?_)
          obtain ⟨rfl, xr18⟩ := hw
          have hM : Mem D A ad ns I L G H := hM
          have yr18 := bo01 xr18
          refine lv_if_ne (tgt := 70) hx hb dX10_town_65 (by decide) (fun c19 => ?_) (fun c19 => ?_)
          · have hc19 := c19
            have q19 := xr18.t hc19
            refine lv_iconst (v := (0)) hx hb dX10_town_70 (by decide) ?_
            refine lv_istore (lv' := [(6, .int (0)), (0, .ref (ad (1000))), (1, .int (a0)), (2, .int (a1)), (3, .int (a2)), (4, .int (a3)), (5, .int (a4))]) hx hb dX10_town_71 hl (by decide) rfl (fun ls hl => ?_)
            have loop73 : ∀ (n : Nat) (x6_73 : Int32) (Ia73 : MI) (La73 : ML) (H : Heap) (locs : List Loc) (ls : Array Slot), INV Ia73 → Kp [(1001, 1007)] [] I Ia73 → (0 ≤ x6_73.toInt ∧ x6_73.toInt ≤ 10) → (∀ j : Nat, j < (x6_73).toNatClampNeg → Ia73 1001 j = 0) → (10 - x6_73.toInt).toNat < n → Mem D A ad ns Ia73 La73 G H → va_S A s.heap H locs → lv_has ls 7 [(6, .int (x6_73)), (0, .ref (ad (1000))), (1, .int (a0)), (2, .int (a1)), (3, .int (a2)), (4, .int (a3)), (5, .int (a4))] → W p l e ({ frames := 1, cells := 0, slots := 0, locals := 25 } : Room) s m args below meth c H locs 0 0 (MQ below (va_Qi (fun r u => ∃ I2 L2, u = (ad, ns, I2, L2, G) ∧ INV I2 ∧ Kp [(1001, 1007)] [] I I2 ∧ (SNT (okT a0 a1 a2 a3 a4) r I I2 (twnV (live I) a0 a1 a2 a3 a4) (live I2))) (BM D A) A) args s 0 0 A) (F0 m 73 ls []) := by
              intro n
              induction n with
              | zero =>
                intro x6_73 Ia73 La73 H locs ls hI hK hr6_73 hz73 hmu
                exact absurd hmu (Nat.not_lt_zero _)
              | succ n ih73 =>
                intro x6_73 Ia73 La73 H locs ls hI hK hr6_73 hz73 hmu73 hM hS hl
                refine lv_iload hx hb dX10_town_73 (lv_at hl 0 rfl) ?_
                refine lv_bipush (v := (10)) hx hb dX10_town_75 (by decide) ?_
                refine lv_icmp_ge (tgt := 94) hx hb dX10_town_77 (by decide) (fun c20 => ?_) (fun c20 => ?_)
                · have hc20 := c20
                  have q20 := q_le hc20
                  refine lv_aload_n hx hb dX10_town_94 rfl (lv_at hl 1 rfl) ?_
                  refine m_getr (1000) 1 (1001) hx hb hts hown hE oc10 hM hJ.1 rfl (by decide) rfl (hJ.2 1 (by decide)).2 (by decide) tb_1178 dX10_town_95 ?_
                  refine lv_iconst (v := (0)) hx hb dX10_town_98 (by decide) ?_
                  refine lv_iconst (v := (1)) hx hb dX10_town_99 (by decide) ?_
                  refine m_iast (1001) hx hb hE hM hS (hJ.2 1 (by decide)).1 rfl (vp_in_iff.mpr (by decide)) dX10_town_100 (fun H locs I21 eI21 hM hS => ?_)
                  rw [show (0 : Int32).toNatClampNeg = 0 from rfl] at eI21
                  subst eI21
                  have hI := hI.put (n := 1001) (k := 0) (v := 1) (lo := 0) (hi := 1) rfl (by first | omega | decide)
                  have hK := hK.put (n := 1001) (k := 0) (v := 1) (by first | rfl | simp [inR])
                  refine lv_aload_n hx hb dX10_town_101 rfl (lv_at hl 1 rfl) ?_
                  refine m_getr (1000) 1 (1001) hx hb hts hown hE oc10 hM hJ.1 rfl (by decide) rfl (hJ.2 1 (by decide)).2 (by decide) tb_1178 dX10_town_102 ?_
                  refine lv_iconst (v := (1)) hx hb dX10_town_105 (by decide) ?_
                  refine lv_iload_n hx hb dX10_town_106 rfl (lv_at hl 2 rfl) ?_
                  refine m_iast (1001) hx hb hE hM hS (hJ.2 1 (by decide)).1 rfl (vp_in_iff.mpr (by decide)) dX10_town_107 (fun H locs I22 eI22 hM hS => ?_)
                  rw [show (1 : Int32).toNatClampNeg = 1 from rfl] at eI22
                  subst eI22
                  have hI := hI.put (n := 1001) (k := 1) (v := a0) (lo := 0) (hi := 24) rfl (by first | omega | decide)
                  have hK := hK.put (n := 1001) (k := 1) (v := a0) (by first | rfl | simp [inR])
                  refine lv_aload_n hx hb dX10_town_108 rfl (lv_at hl 1 rfl) ?_
                  refine m_getr (1000) 1 (1001) hx hb hts hown hE oc10 hM hJ.1 rfl (by decide) rfl (hJ.2 1 (by decide)).2 (by decide) tb_1178 dX10_town_109 ?_
                  refine lv_iconst (v := (2)) hx hb dX10_town_112 (by decide) ?_
                  refine lv_iload_n hx hb dX10_town_113 rfl (lv_at hl 3 rfl) ?_
                  refine m_iast (1001) hx hb hE hM hS (hJ.2 1 (by decide)).1 rfl (vp_in_iff.mpr (by decide)) dX10_town_114 (fun H locs I23 eI23 hM hS => ?_)
                  rw [show (2 : Int32).toNatClampNeg = 2 from rfl] at eI23
                  subst eI23
                  have hI := hI.put (n := 1001) (k := 2) (v := a1) (lo := 0) (hi := 24) rfl (by first | omega | decide)
                  have hK := hK.put (n := 1001) (k := 2) (v := a1) (by first | rfl | simp [inR])
                  refine lv_aload_n hx hb dX10_town_115 rfl (lv_at hl 1 rfl) ?_
                  refine m_getr (1000) 1 (1001) hx hb hts hown hE oc10 hM hJ.1 rfl (by decide) rfl (hJ.2 1 (by decide)).2 (by decide) tb_1178 dX10_town_116 ?_
                  refine lv_iconst (v := (3)) hx hb dX10_town_119 (by decide) ?_
                  refine lv_bipush (v := (24)) hx hb dX10_town_120 (by decide) ?_
                  refine lv_iload hx hb dX10_town_122 (lv_at hl 5 rfl) ?_
                  refine lv_imul hx hb dX10_town_124 ?_
                  refine lv_topi (fun v24 ev24 => ?_)
                  have tv24 := a_mulL (c := 24) ev24 (by decide) (by omega) (by omega)
                  refine lv_iload_n hx hb dX10_town_125 rfl (lv_at hl 4 rfl) ?_
                  refine lv_iadd hx hb dX10_town_126 ?_
                  refine lv_topi (fun v25 ev25 => ?_)
                  have tv25 := a_add ev25 (by omega) (by omega)
                  refine m_iast (1001) hx hb hE hM hS (hJ.2 1 (by decide)).1 rfl (vp_in_iff.mpr (by decide)) dX10_town_127 (fun H locs I26 eI26 hM hS => ?_)
                  rw [show (3 : Int32).toNatClampNeg = 3 from rfl] at eI26
                  subst eI26
                  have hI := hI.putF (n := 1001) (k := 3) (v := v25) rfl
                  have hK := hK.put (n := 1001) (k := 3) (v := v25) (by first | rfl | simp [inR])
                  refine lv_aload_n hx hb dX10_town_128 rfl (lv_at hl 1 rfl) ?_
                  refine m_getr (1000) 1 (1001) hx hb hts hown hE oc10 hM hJ.1 rfl (by decide) rfl (hJ.2 1 (by decide)).2 (by decide) tb_1178 dX10_town_129 ?_
                  refine lv_iconst (v := (4)) hx hb dX10_town_132 (by decide) ?_
                  refine lv_iload hx hb dX10_town_133 (lv_at hl 6 rfl) ?_
                  refine m_iast (1001) hx hb hE hM hS (hJ.2 1 (by decide)).1 rfl (vp_in_iff.mpr (by decide)) dX10_town_135 (fun H locs I27 eI27 hM hS => ?_)
                  rw [show (4 : Int32).toNatClampNeg = 4 from rfl] at eI27
                  subst eI27
                  have hI := hI.putF (n := 1001) (k := 4) (v := a4) rfl
                  have hK := hK.put (n := 1001) (k := 4) (v := a4) (by first | rfl | simp [inR])
                  refine lv_iconst (v := (0)) hx hb dX10_town_136 (by decide) ?_
                  refine lv_istore (lv' := [(6, .int (0)), (0, .ref (ad (1000))), (1, .int (a0)), (2, .int (a1)), (3, .int (a2)), (4, .int (a3)), (5, .int (a4))]) hx hb dX10_town_137 hl (by decide) rfl (fun ls hl => ?_)
                  have loop139 : ∀ (n : Nat) (x6_139 : Int32) (Ia139 : MI) (La139 : ML) (H : Heap) (locs : List Loc) (ls : Array Slot), INV Ia139 → Kp [(1001, 1007)] [] I Ia139 → (0 ≤ x6_139.toInt ∧ x6_139.toInt ≤ 576) → (∀ j : Nat, j < 10 → Ia139 1001 j = twnV (live I) a0 a1 a2 a3 a4 1 j) → (∀ j : Nat, j < (x6_139).toNatClampNeg → Ia139 1002 j = 0 ∧ Ia139 1003 j = -1 ∧ Ia139 1006 j = -1) → (576 - x6_139.toInt).toNat < n → Mem D A ad ns Ia139 La139 G H → va_S A s.heap H locs → lv_has ls 7 [(6, .int (x6_139)), (0, .ref (ad (1000))), (1, .int (a0)), (2, .int (a1)), (3, .int (a2)), (4, .int (a3)), (5, .int (a4))] → W p l e ({ frames := 1, cells := 0, slots := 0, locals := 25 } : Room) s m args below meth c H locs 0 0 (MQ below (va_Qi (fun r u => ∃ I2 L2, u = (ad, ns, I2, L2, G) ∧ INV I2 ∧ Kp [(1001, 1007)] [] I I2 ∧ (SNT (okT a0 a1 a2 a3 a4) r I I2 (twnV (live I) a0 a1 a2 a3 a4) (live I2))) (BM D A) A) args s 0 0 A) (F0 m 139 ls []) := by
                    intro n
                    induction n with
                    | zero =>
                      intro x6_139 Ia139 La139 H locs ls hI hK hr6_139 hT139 hA139 hmu
                      exact absurd hmu (Nat.not_lt_zero _)
                    | succ n ih139 =>
                      intro x6_139 Ia139 La139 H locs ls hI hK hr6_139 hT139 hA139 hmu139 hM hS hl
                      refine lv_iload hx hb dX10_town_139 (lv_at hl 0 rfl) ?_
                      refine lv_sipush (v := (576)) hx hb dX10_town_141 (by decide) ?_
                      refine lv_icmp_ge (tgt := 177) hx hb dX10_town_144 (by decide) (fun c28 => ?_) (fun c28 => ?_)
                      · have hc28 := c28
                        have q28 := q_le hc28
                        refine lv_iconst (v := (0)) hx hb dX10_town_177 (by decide) ?_
                        refine lv_istore (lv' := [(6, .int (0)), (0, .ref (ad (1000))), (1, .int (a0)), (2, .int (a1)), (3, .int (a2)), (4, .int (a3)), (5, .int (a4))]) hx hb dX10_town_178 hl (by decide) rfl (fun ls hl => ?_)
                        have loop180 : ∀ (n : Nat) (x6_180 : Int32) (Ia180 : MI) (La180 : ML) (H : Heap) (locs : List Loc) (ls : Array Slot), INV Ia180 → Kp [(1001, 1007)] [] I Ia180 → (0 ≤ x6_180.toInt ∧ x6_180.toInt ≤ 288) → (∀ j : Nat, j < 10 → Ia180 1001 j = twnV (live I) a0 a1 a2 a3 a4 1 j) → (∀ j : Nat, j < 576 → Ia180 1002 j = 0 ∧ Ia180 1003 j = -1 ∧ Ia180 1006 j = -1) → (∀ j : Nat, j < (x6_180).toNatClampNeg → Ia180 1004 j = -1 ∧ Ia180 1005 j = 0) → (288 - x6_180.toInt).toNat < n → Mem D A ad ns Ia180 La180 G H → va_S A s.heap H locs → lv_has ls 7 [(6, .int (x6_180)), (0, .ref (ad (1000))), (1, .int (a0)), (2, .int (a1)), (3, .int (a2)), (4, .int (a3)), (5, .int (a4))] → W p l e ({ frames := 1, cells := 0, slots := 0, locals := 25 } : Room) s m args below meth c H locs 0 0 (MQ below (va_Qi (fun r u => ∃ I2 L2, u = (ad, ns, I2, L2, G) ∧ INV I2 ∧ Kp [(1001, 1007)] [] I I2 ∧ (SNT (okT a0 a1 a2 a3 a4) r I I2 (twnV (live I) a0 a1 a2 a3 a4) (live I2))) (BM D A) A) args s 0 0 A) (F0 m 180 ls []) := by
                          intro n
                          induction n with
                          | zero =>
                            intro x6_180 Ia180 La180 H locs ls hI hK hr6_180 hT180 hA180 hB180 hmu
                            exact absurd hmu (Nat.not_lt_zero _)
                          | succ n ih180 =>
                            intro x6_180 Ia180 La180 H locs ls hI hK hr6_180 hT180 hA180 hB180 hmu180 hM hS hl
                            refine lv_iload hx hb dX10_town_180 (lv_at hl 0 rfl) ?_
                            refine lv_sipush (v := (288)) hx hb dX10_town_182 (by decide) ?_
                            refine lv_icmp_ge (tgt := 210) hx hb dX10_town_185 (by decide) (fun c29 => ?_) (fun c29 => ?_)
                            · have hc29 := c29
                              have q29 := q_le hc29
                              refine lv_iconst (v := (1)) hx hb dX10_town_210 (by decide) ?_
                              have hfin : EqV (twnV (live I) a0 a1 a2 a3 a4) (live Ia180) := fun m j h1 h2 hj => by
                                by_cases g1 : m = 1
                                · subst g1; exact hT180 j hj
                                by_cases g2 : m = 2
                                · subst g2; exact (hA180 j hj).1
                                by_cases g3 : m = 3
                                · subst g3; exact (hA180 j hj).2.1
                                by_cases g6 : m = 6
                                · subst g6; exact (hA180 j hj).2.2
                                by_cases g4 : m = 4
                                · subst g4; exact (hB180 j (by have hj : j < 288 := hj; have zz := tn (i := x6_180) (by omega); omega)).1
                                by_cases g5 : m = 5
                                · subst g5; exact (hB180 j (by have hj : j < 288 := hj; have zz := tn (i := x6_180) (by omega); omega)).2
                                show Ia180 (1000 + m) j = (if m = 1 then _ else if m = 2 ∨ m = 5 then 0 else if m = 3 ∨ m = 4 ∨ m = 6 then -1 else I (1000 + m) j)
                                rw [if_neg g1, if_neg (by omega), if_neg (by omega)]
                                exact congrFun (hK.apart 1001 1007 rfl (1000 + m) (by omega)) j
                              exact m_zret hx hb hr rfl hlocks hM hS (Nat.le_of_ble_eq_true rfl) (Nat.le_of_ble_eq_true rfl) ⟨_, _, rfl, hI, hK, (Or.inl ⟨by unfold okT; omega, rfl, hfin⟩)⟩ dX10_town_211
                            · have hc29 := c29
                              have q29 := q_nle hc29
                              refine lv_aload_n hx hb dX10_town_188 rfl (lv_at hl 1 rfl) ?_
                              refine m_getr (1000) 4 (1004) hx hb hts hown hE oc10 hM hJ.1 rfl (by decide) rfl (hJ.2 4 (by decide)).2 (by decide) tb_1181 dX10_town_189 ?_
                              refine lv_iload hx hb dX10_town_192 (lv_at hl 0 rfl) ?_
                              refine lv_iconst (v := (-1)) hx hb dX10_town_194 (by decide) ?_
                              refine m_iast (1004) hx hb hE hM hS (hJ.2 4 (by decide)).1 rfl (vp_in_iff.mpr (by omega)) dX10_town_195 (fun H locs I30 eI30 hM hS => ?_)
                              subst eI30
                              have hI := hI.putF (n := 1004) (k := ((x6_180).toNatClampNeg)) (v := (-1 : Int32)) rfl
                              have hK := hK.put (n := 1004) (k := ((x6_180).toNatClampNeg)) (v := (-1 : Int32)) (by first | rfl | simp [inR])
                              refine lv_aload_n hx hb dX10_town_196 rfl (lv_at hl 1 rfl) ?_
                              refine m_getr (1000) 5 (1005) hx hb hts hown hE oc10 hM hJ.1 rfl (by decide) rfl (hJ.2 5 (by decide)).2 (by decide) tb_1182 dX10_town_197 ?_
                              refine lv_iload hx hb dX10_town_200 (lv_at hl 0 rfl) ?_
                              refine lv_iconst (v := (0)) hx hb dX10_town_202 (by decide) ?_
                              refine m_iast (1005) hx hb hE hM hS (hJ.2 5 (by decide)).1 rfl (vp_in_iff.mpr (by omega)) dX10_town_203 (fun H locs I31 eI31 hM hS => ?_)
                              subst eI31
                              have hI := hI.putF (n := 1005) (k := ((x6_180).toNatClampNeg)) (v := 0) rfl
                              have hK := hK.put (n := 1005) (k := ((x6_180).toNatClampNeg)) (v := 0) (by first | rfl | simp [inR])
                              obtain ⟨v32, ev32⟩ : ∃ z : Int32, z = x6_180 + Int32.ofInt (1) := ⟨_, rfl⟩
                              have tv32 := a_inc ev32 (by decide) (by omega) (by omega)
                              refine lv_iinc (v := v32) (lv' := [(6, .int (v32)), (0, .ref (ad (1000))), (1, .int (a0)), (2, .int (a1)), (3, .int (a2)), (4, .int (a3)), (5, .int (a4))]) hx hb dX10_town_204 hl (k := 0) rfl ev32.symm (by decide) rfl (fun ls hl => ?_)
                              refine lv_goto (tgt := 180) hx hb dX10_town_207 (by decide) ?_
                              exact ih180 (v32) (u2 (u2 Ia180 (1004) ((x6_180).toNatClampNeg) ((-1 : Int32))) (1005) ((x6_180).toNatClampNeg) (0)) La180 _ _ ls hI hK (by first | omega | decide) (fun j hj => (congrFun ((show (u2 (u2 Ia180 (1004) ((x6_180).toNatClampNeg) ((-1 : Int32))) (1005) ((x6_180).toNatClampNeg) (0)) 1001 = Ia180 1001 from by funext zz; simp [u2_v])) j).trans (hT180 j hj)) (fun j hj => by have hh := hA180 j hj; simp only [u2_v]; simpa using hh) (fun j hj => by have z1 := tn (i := x6_180) (by omega); have z2 := tn (i := v32) (by omega); by_cases hq : j = (x6_180).toNatClampNeg; subst hq; simp [u2_v]; have hh := hB180 j (by omega); simp [u2_v, hq]; exact hh) (by omega) hM hS (lv_sub hl [0, 1, 2, 3, 4, 5, 6] rfl)
                        exact loop180 (_ + 1) (0) Ia139 La139 _ _ ls hI hK (by first | omega | decide) hT139 (fun j hj => hA139 j (by have zz := tn (i := x6_139) (by omega); omega)) (fun j hj => absurd hj (Nat.not_lt_zero j)) (Nat.lt_succ_self _) hM hS (lv_sub hl [0, 1, 2, 3, 4, 5, 6] rfl)
                      · have hc28 := c28
                        have q28 := q_nle hc28
                        refine lv_aload_n hx hb dX10_town_147 rfl (lv_at hl 1 rfl) ?_
                        refine m_getr (1000) 2 (1002) hx hb hts hown hE oc10 hM hJ.1 rfl (by decide) rfl (hJ.2 2 (by decide)).2 (by decide) tb_1179 dX10_town_148 ?_
                        refine lv_iload hx hb dX10_town_151 (lv_at hl 0 rfl) ?_
                        refine lv_iconst (v := (0)) hx hb dX10_town_153 (by decide) ?_
                        refine m_iast (1002) hx hb hE hM hS (hJ.2 2 (by decide)).1 rfl (vp_in_iff.mpr (by omega)) dX10_town_154 (fun H locs I33 eI33 hM hS => ?_)
                        subst eI33
                        have hI := hI.putF (n := 1002) (k := ((x6_139).toNatClampNeg)) (v := 0) rfl
                        have hK := hK.put (n := 1002) (k := ((x6_139).toNatClampNeg)) (v := 0) (by first | rfl | simp [inR])
                        refine lv_aload_n hx hb dX10_town_155 rfl (lv_at hl 1 rfl) ?_
                        refine m_getr (1000) 3 (1003) hx hb hts hown hE oc10 hM hJ.1 rfl (by decide) rfl (hJ.2 3 (by decide)).2 (by decide) tb_1180 dX10_town_156 ?_
                        refine lv_iload hx hb dX10_town_159 (lv_at hl 0 rfl) ?_
                        refine lv_iconst (v := (-1)) hx hb dX10_town_161 (by decide) ?_
                        refine m_iast (1003) hx hb hE hM hS (hJ.2 3 (by decide)).1 rfl (vp_in_iff.mpr (by omega)) dX10_town_162 (fun H locs I34 eI34 hM hS => ?_)
                        subst eI34
                        have hI := hI.putF (n := 1003) (k := ((x6_139).toNatClampNeg)) (v := (-1 : Int32)) rfl
                        have hK := hK.put (n := 1003) (k := ((x6_139).toNatClampNeg)) (v := (-1 : Int32)) (by first | rfl | simp [inR])
                        refine lv_aload_n hx hb dX10_town_163 rfl (lv_at hl 1 rfl) ?_
                        refine m_getr (1000) 6 (1006) hx hb hts hown hE oc10 hM hJ.1 rfl (by decide) rfl (hJ.2 6 (by decide)).2 (by decide) tb_1183 dX10_town_164 ?_
                        refine lv_iload hx hb dX10_town_167 (lv_at hl 0 rfl) ?_
                        refine lv_iconst (v := (-1)) hx hb dX10_town_169 (by decide) ?_
                        refine m_iast (1006) hx hb hE hM hS (hJ.2 6 (by decide)).1 rfl (vp_in_iff.mpr (by omega)) dX10_town_170 (fun H locs I35 eI35 hM hS => ?_)
                        subst eI35
                        have hI := hI.put (n := 1006) (k := ((x6_139).toNatClampNeg)) (v := (-1 : Int32)) (lo := -1) (hi := 23) rfl (by first | omega | decide)
                        have hK := hK.put (n := 1006) (k := ((x6_139).toNatClampNeg)) (v := (-1 : Int32)) (by first | rfl | simp [inR])
                        obtain ⟨v36, ev36⟩ : ∃ z : Int32, z = x6_139 + Int32.ofInt (1) := ⟨_, rfl⟩
                        have tv36 := a_inc ev36 (by decide) (by omega) (by omega)
                        refine lv_iinc (v := v36) (lv' := [(6, .int (v36)), (0, .ref (ad (1000))), (1, .int (a0)), (2, .int (a1)), (3, .int (a2)), (4, .int (a3)), (5, .int (a4))]) hx hb dX10_town_171 hl (k := 0) rfl ev36.symm (by decide) rfl (fun ls hl => ?_)
                        refine lv_goto (tgt := 139) hx hb dX10_town_174 (by decide) ?_
                        exact ih139 (v36) (u2 (u2 (u2 Ia139 (1002) ((x6_139).toNatClampNeg) (0)) (1003) ((x6_139).toNatClampNeg) ((-1 : Int32))) (1006) ((x6_139).toNatClampNeg) ((-1 : Int32))) La139 _ _ ls hI hK (by first | omega | decide) (fun j hj => (congrFun ((show (u2 (u2 (u2 Ia139 (1002) ((x6_139).toNatClampNeg) (0)) (1003) ((x6_139).toNatClampNeg) ((-1 : Int32))) (1006) ((x6_139).toNatClampNeg) ((-1 : Int32))) 1001 = Ia139 1001 from by funext zz; simp [u2_v])) j).trans (hT139 j hj)) (fun j hj => by have z1 := tn (i := x6_139) (by omega); have z2 := tn (i := v36) (by omega); by_cases hq : j = (x6_139).toNatClampNeg; subst hq; simp [u2_v]; have hh := hA139 j (by omega); simp [u2_v, hq]; exact hh) (by omega) hM hS (lv_sub hl [0, 1, 2, 3, 4, 5, 6] rfl)
                  exact loop139 (_ + 1) (0) (u2 (u2 (u2 (u2 (u2 Ia73 (1001) 0 (1)) (1001) 1 (a0)) (1001) 2 (a1)) (1001) 3 (v25)) (1001) 4 (a4)) La73 _ _ ls hI hK (by first | omega | decide) (fun j hj => by rcases (show j = 0 ∨ j = 1 ∨ j = 2 ∨ j = 3 ∨ j = 4 ∨ j = 5 ∨ j = 6 ∨ j = 7 ∨ j = 8 ∨ j = 9 by omega) with rfl | rfl | rfl | rfl | rfl | rfl | rfl | rfl | rfl | rfl; exact (show (u2 (u2 (u2 (u2 (u2 Ia73 (1001) 0 (1)) (1001) 1 (a0)) (1001) 2 (a1)) (1001) 3 (v25)) (1001) 4 (a4)) (1001) 0 = 1 from by simp [u2_v]); exact (show (u2 (u2 (u2 (u2 (u2 Ia73 (1001) 0 (1)) (1001) 1 (a0)) (1001) 2 (a1)) (1001) 3 (v25)) (1001) 4 (a4)) (1001) 1 = a0 from by simp [u2_v]); exact (show (u2 (u2 (u2 (u2 (u2 Ia73 (1001) 0 (1)) (1001) 1 (a0)) (1001) 2 (a1)) (1001) 3 (v25)) (1001) 4 (a4)) (1001) 2 = a1 from by simp [u2_v]); exact ((show (u2 (u2 (u2 (u2 (u2 Ia73 (1001) 0 (1)) (1001) 1 (a0)) (1001) 2 (a1)) (1001) 3 (v25)) (1001) 4 (a4)) (1001) 3 = v25 from by simp [u2_v])).trans (by rw [ev25, ev24]; rfl); exact (show (u2 (u2 (u2 (u2 (u2 Ia73 (1001) 0 (1)) (1001) 1 (a0)) (1001) 2 (a1)) (1001) 3 (v25)) (1001) 4 (a4)) (1001) 4 = a4 from by simp [u2_v]); exact ((show (u2 (u2 (u2 (u2 (u2 Ia73 (1001) 0 (1)) (1001) 1 (a0)) (1001) 2 (a1)) (1001) 3 (v25)) (1001) 4 (a4)) (1001) 5 = Ia73 (1001) 5 from by simp [u2_v])).trans (hz73 5 (by have zz := tn (i := x6_73) (by omega); omega)); exact ((show (u2 (u2 (u2 (u2 (u2 Ia73 (1001) 0 (1)) (1001) 1 (a0)) (1001) 2 (a1)) (1001) 3 (v25)) (1001) 4 (a4)) (1001) 6 = Ia73 (1001) 6 from by simp [u2_v])).trans (hz73 6 (by have zz := tn (i := x6_73) (by omega); omega)); exact ((show (u2 (u2 (u2 (u2 (u2 Ia73 (1001) 0 (1)) (1001) 1 (a0)) (1001) 2 (a1)) (1001) 3 (v25)) (1001) 4 (a4)) (1001) 7 = Ia73 (1001) 7 from by simp [u2_v])).trans (hz73 7 (by have zz := tn (i := x6_73) (by omega); omega)); exact ((show (u2 (u2 (u2 (u2 (u2 Ia73 (1001) 0 (1)) (1001) 1 (a0)) (1001) 2 (a1)) (1001) 3 (v25)) (1001) 4 (a4)) (1001) 8 = Ia73 (1001) 8 from by simp [u2_v])).trans (hz73 8 (by have zz := tn (i := x6_73) (by omega); omega)); exact ((show (u2 (u2 (u2 (u2 (u2 Ia73 (1001) 0 (1)) (1001) 1 (a0)) (1001) 2 (a1)) (1001) 3 (v25)) (1001) 4 (a4)) (1001) 9 = Ia73 (1001) 9 from by simp [u2_v])).trans (hz73 9 (by have zz := tn (i := x6_73) (by omega); omega))) (fun j hj => absurd hj (Nat.not_lt_zero j)) (Nat.lt_succ_self _) hM hS (lv_sub hl [0, 1, 2, 3, 4, 5, 6] rfl)
                · have hc20 := c20
                  have q20 := q_nle hc20
                  refine lv_aload_n hx hb dX10_town_80 rfl (lv_at hl 1 rfl) ?_
                  refine m_getr (1000) 1 (1001) hx hb hts hown hE oc10 hM hJ.1 rfl (by decide) rfl (hJ.2 1 (by decide)).2 (by decide) tb_1178 dX10_town_81 ?_
                  refine lv_iload hx hb dX10_town_84 (lv_at hl 0 rfl) ?_
                  refine lv_iconst (v := (0)) hx hb dX10_town_86 (by decide) ?_
                  refine m_iast (1001) hx hb hE hM hS (hJ.2 1 (by decide)).1 rfl (vp_in_iff.mpr (by omega)) dX10_town_87 (fun H locs I37 eI37 hM hS => ?_)
                  subst eI37
                  have hI := hI.putx (n := 1001) (k := ((x6_73).toNatClampNeg)) (v := 0) (rg_1001 _)
                  have hK := hK.put (n := 1001) (k := ((x6_73).toNatClampNeg)) (v := 0) (by first | rfl | simp [inR])
                  obtain ⟨v38, ev38⟩ : ∃ z : Int32, z = x6_73 + Int32.ofInt (1) := ⟨_, rfl⟩
                  have tv38 := a_inc ev38 (by decide) (by omega) (by omega)
                  refine lv_iinc (v := v38) (lv' := [(6, .int (v38)), (0, .ref (ad (1000))), (1, .int (a0)), (2, .int (a1)), (3, .int (a2)), (4, .int (a3)), (5, .int (a4))]) hx hb dX10_town_88 hl (k := 0) rfl ev38.symm (by decide) rfl (fun ls hl => ?_)
                  refine lv_goto (tgt := 73) hx hb dX10_town_91 (by decide) ?_
                  exact ih73 (v38) (u2 Ia73 (1001) ((x6_73).toNatClampNeg) (0)) La73 _ _ ls hI hK (by first | omega | decide) (fun j hj => by have z1 := tn (i := x6_73) (by omega); have z2 := tn (i := v38) (by omega); by_cases hq : j = (x6_73).toNatClampNeg; subst hq; simp [u2_v]; have hh := hz73 j (by omega); simp [u2_v, hq]; exact hh) (by omega) hM hS (lv_sub hl [0, 1, 2, 3, 4, 5, 6] rfl)
            exact loop73 (_ + 1) (0) I L _ _ ls hI hK (by first | omega | decide) (fun j hj => absurd hj (Nat.not_lt_zero j)) (Nat.lt_succ_self _) hM hS (lv_sub hl [0, 1, 2, 3, 4, 5, 6] rfl)
          · have hc19 := c19
            have q19 := xr18.f hc19
            refine lv_iconst (v := (0)) hx hb dX10_town_68 (by decide) ?_
            exact m_zret hx hb hr rfl hlocks hM hS (Nat.le_of_ble_eq_true rfl) (Nat.le_of_ble_eq_true rfl) ⟨_, _, rfl, hI, hK, (Or.inr ⟨by unfold okT; omega, rfl, rfl⟩)⟩ dX10_town_69
