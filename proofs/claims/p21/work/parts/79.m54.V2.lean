theorem cfM {b : Nat} {I : MI} {w k : Nat} (hw : w < 10) : cF b I (7 + w) k = I (b + 7) (24 * w + k) := by
  unfold cF
  rw [if_neg (by omega), (nc_m hw).1, (nc_m hw).2]
theorem cfY {b : Nat} {I : MI} {w k : Nat} (hw : w < 7) : cF b I (yrow w) k = I (b + 8) (8 * w + k) := by
  rcases (show w = 0 ∨ w = 1 ∨ w = 2 ∨ w = 3 ∨ w = 4 ∨ w = 5 ∨ w = 6 by omega) with rfl | rfl | rfl | rfl | rfl | rfl | rfl <;> rfl
set_option maxHeartbeats 4000000 in
set_option maxRecDepth 20000 in
theorem V_X9_gets_y (l : Launch) (D : va_G) (A : Nat → Prop) (ad : Nat → Nat) (ns : List Nat) (I : MI) (L : ML) (G : MG) (a0 : Int32) (a1 : Int32) (hG : SGC ns G) (hI : INV I) (hOK : OKW (cF 100 I)) (hYL : 0 < (I 100 0).toInt → YLY 100 I) (h8 : (I 10 8).toInt = 0) : Met l yX9_gets (wd yX9_gets cX9_gets 3 (some .int)) ({ frames := 4, cells := 0, slots := 0, locals := 107 }) (va_Pc [.ref (ad (0)), .int a0, .int a1] (PM D A ad ns I L G)) (va_Qi (fun r u => ∃ I2 L2, u = (ad, ns, I2, L2, G) ∧ INV I2 ∧ Kp [(11, 15)] [(10, 2), (10, 3), (10, 4), (10, 5), (10, 6), (10, 7), (10, 11), (10, 12)] I I2 ∧ (ANW (okL (cF 100 I) a0 ∧ 0 ≤ a1.toInt ∧ a1.toInt < ((cF 100 I) 1 9).toInt) r ((shV (cF 100 I) a0).2.got (a1).toNatClampNeg) (-1))) (BM D A) A) 0 0 A := by
  refine m_ofW (by decide) (Nat.le_of_ble_eq_true rfl) ?_
  intro p e s m below meth c ls args hC hE hM hA hS hl
  obtain ⟨hx, hb, hml, hown, hts, hr, hlocks, hin⟩ := hC
  have km1 : (-1 : Int32).toInt = -1 := by decide
  have k0 : (0 : Int32).toInt = 0 := by decide
  have hI0 := hI
  have g9 := hI.get 100 9 (lo := 0) (hi := 8) rfl
  have hK : Kp [(11, 15)] [(10, 2), (10, 3), (10, 4), (10, 5), (10, 6), (10, 7), (10, 11), (10, 12)] I I := Kp.rf
  have hl : lv_has ls 3 [(0, .ref (ad (0))), (1, .int (a0)), (2, .int (a1))] := hl
  refine lv_aload_n hx hb dX9_gets_0 rfl (lv_at hl 0 rfl) ?_
  refine m_getr (0) 0 (100) hx hb hts hown hE oc9 hM (hG.1 0 (by decide)) rfl (by decide) rfl (hG.2 (0, 0, 100) (by decide)) (by decide) tb_398 dX9_gets_1 ?_
  refine lv_iload_n hx hb dX9_gets_4 rfl (lv_at hl 1 rfl) ?_
  refine m_calli (m_runV (100) (As := [.int (a0)]) (rest := []) hx hb hml hown hts hE hM hS hA ce_X8_isLit tb_906 (V_X8_isLit_100 l D A ad ns I L G (a0) hG hI) rfl rfl ⟨Nat.le_of_ble_eq_true rfl, Nat.le_of_ble_eq_true rfl⟩ (hG.1 100 (by decide)) rfl rfl (by decide) rfl hl.1 rfl (Nat.le_of_ble_eq_true rfl) dX9_gets_5 ⟨Nat.le_of_ble_eq_true rfl, Nat.le_of_ble_eq_true rfl⟩) hS (fun r1 u H locs hw hM hS => ?_)
  obtain ⟨rfl, xr1⟩ := hw
  have hM : Mem D A ad ns I L G H := hM
  have yr1 := bo01 xr1
  refine lv_if_eq (tgt := 22) hx hb dX9_gets_8 (by decide) (fun c2 => ?_) (fun c2 => ?_)
  · have hc2 := c2
    have q2 := xr1.f hc2
    have hnoL : ¬ okL (cF 100 I) a0 := fun zz => q2 ⟨sc0_pos zz.1, zz.2.1, by have z2 := zz.2.2; rw [wy_C] at z2; exact z2⟩
    refine lv_iconst (v := (-1)) hx hb dX9_gets_22 (by decide) ?_
    exact m_iret hx hb hr hlocks hM hS (Nat.le_of_ble_eq_true rfl) (Nat.le_of_ble_eq_true rfl) ⟨_, _, rfl, hI, hK, (Or.inr ⟨fun zz => hnoL zz.1, rfl⟩)⟩ dX9_gets_23
  · have hc2 := c2
    have q2 := xr1.t hc2
    have lh2 := q2.2.1
    have hlitS : Lit 100 I a0 := q2.2
    have hbgS : 0 < (I 100 0).toInt := q2.1
    have hokL : okL (cF 100 I) a0 := ⟨by show (if 0 < (I 100 0).toInt then (1 : Int32) else 0).toInt = 1; rw [if_pos hbgS]; decide, hlitS.1, by rw [wy_C]; exact hlitS.2⟩
    refine lv_aload_n hx hb dX9_gets_11 rfl (lv_at hl 0 rfl) ?_
    refine m_getr (0) 0 (100) hx hb hts hown hE oc9 hM (hG.1 0 (by decide)) rfl (by decide) rfl (hG.2 (0, 0, 100) (by decide)) (by decide) tb_398 dX9_gets_12 ?_
    refine lv_iload_n hx hb dX9_gets_15 rfl (lv_at hl 2 rfl) ?_
    refine m_calli (m_runV (100) (As := [.int (a1)]) (rest := []) hx hb hml hown hts hE hM hS hA ce_X8_hasYard tb_893 (V_X8_hasYard_100 l D A ad ns I L G (a1) hG hI) rfl rfl ⟨Nat.le_of_ble_eq_true rfl, Nat.le_of_ble_eq_true rfl⟩ (hG.1 100 (by decide)) rfl rfl (by decide) rfl hl.1 rfl (Nat.le_of_ble_eq_true rfl) dX9_gets_16 ⟨Nat.le_of_ble_eq_true rfl, Nat.le_of_ble_eq_true rfl⟩) hS (fun r3 u H locs hw hM hS => ?_)
    obtain ⟨rfl, xr3⟩ := hw
    have hM : Mem D A ad ns I L G H := hM
    have yr3 := bo01 xr3
    have g4 := hI.get 100 9 (lo := 0) (hi := 8) rfl
    refine lv_if_ne (tgt := 24) hx hb dX9_gets_19 (by decide) (fun c5 => ?_) (fun c5 => ?_)
    · have hc5 := c5
      have q5 := xr3.t hc5
      refine lv_aload_n hx hb dX9_gets_24 rfl (lv_at hl 0 rfl) ?_
      refine m_getr (0) 3 (10) hx hb hts hown hE oc9 hM (hG.1 0 (by decide)) rfl (by decide) rfl (hG.2 (0, 3, 10) (by decide)) (by decide) tb_401 dX9_gets_25 ?_
      refine lv_aload_n hx hb dX9_gets_28 rfl (lv_at hl 0 rfl) ?_
      refine m_getr (0) 0 (100) hx hb hts hown hE oc9 hM (hG.1 0 (by decide)) rfl (by decide) rfl (hG.2 (0, 0, 100) (by decide)) (by decide) tb_398 dX9_gets_29 ?_
      refine lv_iload_n hx hb dX9_gets_32 rfl (lv_at hl 1 rfl) ?_
      refine m_callv (m_runV (10) (As := [.ref (ad (100)), .int (a0)]) (rest := []) hx hb hml hown hts hE hM hS hA ce_X1_shine tb_907 (V_X1_shine_100_l l D A ad ns I L G (a0) hG hI (hlitS) (by first | omega | decide)) rfl rfl ⟨Nat.le_of_ble_eq_true rfl, Nat.le_of_ble_eq_true rfl⟩ (hG.1 10 (by decide)) rfl rfl (by decide) rfl hl.1 rfl (Nat.le_of_ble_eq_true rfl) dX9_gets_33 ⟨Nat.le_of_ble_eq_true rfl, Nat.le_of_ble_eq_true rfl⟩) hS (fun u H locs hw hM hS => ?_)
      obtain ⟨I6, L7, rfl, hI, hkI6, xI6⟩ := hw
      have hM : Mem D A ad ns I6 L7 G H := hM
      have hK := hK.trans hkI6 rfl
      have htT : TNok (twC 100 I) := twC_ok hI0 rfl rfl (fun _ => rfl) (fun _ => rfl)
      obtain ⟨S2, hS1, hS2⟩ := SHE.sh xI6 (fun zz => absurd zz (by rw [h8]; decide)) (hYL hbgS) htT (hI0.get 100 2 (lo := 0) (hi := 23) rfl) (hI0.get 100 3 (lo := 0) (hi := 23) rfl)
      refine lv_aload_n hx hb dX9_gets_36 rfl (lv_at hl 0 rfl) ?_
      refine m_getr (0) 3 (10) hx hb hts hown hE oc9 hM (hG.1 0 (by decide)) rfl (by decide) rfl (hG.2 (0, 3, 10) (by decide)) (by decide) tb_401 dX9_gets_37 ?_
      refine m_getr (10) 0 (11) hx hb hts hown hE oc1 hM (hG.1 10 (by decide)) rfl (by decide) rfl (hG.2 (10, 0, 11) (by decide)) (by decide) tb_133 dX9_gets_40 ?_
      refine lv_iload_n hx hb dX9_gets_43 rfl (lv_at hl 2 rfl) ?_
      refine m_iald (11) hx hb hE hM (hG.1 11 (by decide)) rfl (vp_in_iff.mpr (by omega)) dX9_gets_44 ?_
      exact m_iret hx hb hr hlocks hM hS (Nat.le_of_ble_eq_true rfl) (Nat.le_of_ble_eq_true rfl) ⟨_, _, rfl, hI, hK, (Or.inl ⟨⟨hokL, by show _ ∧ _ < (I 100 9).toInt; omega⟩, by rw [hS2]; exact hS1.1 _ (by have z := tn (i := a1) (by omega); omega)⟩)⟩ dX9_gets_45
    · have hc5 := c5
      have q5 := xr3.f hc5
      refine lv_iconst (v := (-1)) hx hb dX9_gets_22 (by decide) ?_
      exact m_iret hx hb hr hlocks hM hS (Nat.le_of_ble_eq_true rfl) (Nat.le_of_ble_eq_true rfl) ⟨_, _, rfl, hI, hK, (Or.inr ⟨fun zz => (by have z2 := zz.2; have z3 : (I 100 9).toInt = ((cF 100 I) 1 9).toInt := rfl; omega), rfl⟩)⟩ dX9_gets_23
theorem cf3x {I J : MI} (h : J 102 = I 102) (c : Nat) : cF 100 I 3 c = J 102 c := by
  rw [cf3, h]
theorem fsB.of {e p e2 p2 : Nat → Int32} {r : Int32} (h : fsB e p r) (he : ∀ c, c < 576 → e2 c = e c) (hp : ∀ c, c < 576 → p2 c = p c) : fsB e2 p2 r := by
  have hb : ∀ c, c < 576 → (bln e2 p2 c ↔ bln e p c) := fun c hc => by unfold bln; rw [he c hc, hp c hc]
  rcases h with ⟨h1, h2⟩ | ⟨h1, h2, h3, h4⟩
  · exact Or.inl ⟨h1, fun c hc z => h2 c hc ((hb c hc).mp z)⟩
  · have t := tn h1
    exact Or.inr ⟨h1, h2, (hb _ (by omega)).mpr h3, fun c hc z => h4 c hc ((hb c (by omega)).mp z)⟩
set_option maxHeartbeats 4000000 in
set_option maxRecDepth 20000 in
theorem V_X9_light_y (l : Launch) (D : va_G) (A : Nat → Prop) (ad : Nat → Nat) (ns : List Nat) (I : MI) (L : ML) (G : MG) (a0 : Int32) (a1 : Int32) (hG : SGC ns G) (hI : INV I) (hOK : OKW (cF 100 I)) (hYL : 0 < (I 100 0).toInt → YLY 100 I) (h8 : (I 10 8).toInt = 0) : Met l yX9_light (wd yX9_light cX9_light 3 (some .int)) ({ frames := 5, cells := 0, slots := 0, locals := 129 }) (va_Pc [.ref (ad (0)), .int a0, .int a1] (PM D A ad ns I L G)) (va_Qi (fun r u => ∃ I2 L2, u = (ad, ns, I2, L2, G) ∧ INV I2 ∧ Kp [(11, 15)] [(10, 2), (10, 3), (10, 4), (10, 5), (10, 6), (10, 7), (10, 8), (10, 11), (10, 12)] I I2 ∧ (LTA (okL (cF 100 I) a0 ∧ 0 ≤ a1.toInt ∧ a1.toInt ≤ 6) (cF 100 I) a0 a1.toInt r ∧ (I2 10 8).toInt = 0)) (BM D A) A) 0 0 A := by
  refine m_ofW (by decide) (Nat.le_of_ble_eq_true rfl) ?_
  intro p e s m below meth c ls args hC hE hM hA hS hl
  obtain ⟨hx, hb, hml, hown, hts, hr, hlocks, hin⟩ := hC
  have km1 : (-1 : Int32).toInt = -1 := by decide
  have k0 : (0 : Int32).toInt = 0 := by decide
  have hI0 := hI
  have hK : Kp [(11, 15)] [(10, 2), (10, 3), (10, 4), (10, 5), (10, 6), (10, 7), (10, 8), (10, 11), (10, 12)] I I := Kp.rf
  have hl : lv_has ls 3 [(0, .ref (ad (0))), (1, .int (a0)), (2, .int (a1))] := hl
  refine lv_aload_n hx hb dX9_light_0 rfl (lv_at hl 0 rfl) ?_
  refine m_getr (0) 0 (100) hx hb hts hown hE oc9 hM (hG.1 0 (by decide)) rfl (by decide) rfl (hG.2 (0, 0, 100) (by decide)) (by decide) tb_398 dX9_light_1 ?_
  refine lv_iload_n hx hb dX9_light_4 rfl (lv_at hl 1 rfl) ?_
  refine m_calli (m_runV (100) (As := [.int (a0)]) (rest := []) hx hb hml hown hts hE hM hS hA ce_X8_isLit tb_906 (V_X8_isLit_100 l D A ad ns I L G (a0) hG hI) rfl rfl ⟨Nat.le_of_ble_eq_true rfl, Nat.le_of_ble_eq_true rfl⟩ (hG.1 100 (by decide)) rfl rfl (by decide) rfl hl.1 rfl (Nat.le_of_ble_eq_true rfl) dX9_light_5 ⟨Nat.le_of_ble_eq_true rfl, Nat.le_of_ble_eq_true rfl⟩) hS (fun r1 u H locs hw hM hS => ?_)
  obtain ⟨rfl, xr1⟩ := hw
  have hM : Mem D A ad ns I L G H := hM
  have yr1 := bo01 xr1
  refine lv_if_ne (tgt := 13) hx hb dX9_light_8 (by decide) (fun c2 => ?_) (fun c2 => ?_)
  · have hc2 := c2
    have q2 := xr1.t hc2
    have lh2 := q2.2.1
    have hlitS : Lit 100 I a0 := q2.2
    have hbgS : 0 < (I 100 0).toInt := q2.1
    have hokL : okL (cF 100 I) a0 := ⟨by show (if 0 < (I 100 0).toInt then (1 : Int32) else 0).toInt = 1; rw [if_pos hbgS]; decide, hlitS.1, by rw [wy_C]; exact hlitS.2⟩
    refine lv_aload_n hx hb dX9_light_13 rfl (lv_at hl 0 rfl) ?_
    refine m_getr (0) 3 (10) hx hb hts hown hE oc9 hM (hG.1 0 (by decide)) rfl (by decide) rfl (hG.2 (0, 3, 10) (by decide)) (by decide) tb_401 dX9_light_14 ?_
    refine lv_aload_n hx hb dX9_light_17 rfl (lv_at hl 0 rfl) ?_
    refine m_getr (0) 0 (100) hx hb hts hown hE oc9 hM (hG.1 0 (by decide)) rfl (by decide) rfl (hG.2 (0, 0, 100) (by decide)) (by decide) tb_398 dX9_light_18 ?_
    refine lv_iload_n hx hb dX9_light_21 rfl (lv_at hl 1 rfl) ?_
    refine m_callv (m_runV (10) (As := [.ref (ad (100)), .int (a0)]) (rest := []) hx hb hml hown hts hE hM hS hA ce_X1_shineWatched tb_912 (V_X1_shineWatched_100_l l D A ad ns I L G (a0) hG hI (hlitS) (by first | omega | decide)) rfl rfl ⟨Nat.le_of_ble_eq_true rfl, Nat.le_of_ble_eq_true rfl⟩ (hG.1 10 (by decide)) rfl rfl (by decide) rfl hl.1 rfl (Nat.le_of_ble_eq_true rfl) dX9_light_22 ⟨Nat.le_of_ble_eq_true rfl, Nat.le_of_ble_eq_true rfl⟩) hS (fun u H locs hw hM hS => ?_)
    obtain ⟨I3, L4, rfl, hI, hkI3, xI3⟩ := hw
    have hM : Mem D A ad ns I3 L4 G H := hM
    have hK := hK.trans hkI3 rfl
    have htT : TNok (twC 100 I) := twC_ok hI0 rfl rfl (fun _ => rfl) (fun _ => rfl)
    have h8S := xI3.2
    obtain ⟨S2, hS1, hSp, hS2⟩ := SHV.sh xI3.1 (hYL hbgS) htT (hI0.get 100 2 (lo := 0) (hi := 23) rfl) (hI0.get 100 3 (lo := 0) (hi := 23) rfl)
    refine lv_iload_n hx hb dX9_light_25 rfl (lv_at hl 2 rfl) ?_
    by_cases c5 : (a1).toInt < 0 ∨ 6 < (a1).toInt
    · refine lv_tableOut (tgt := 132) hx hb dX9_light_26 c5 (by decide) ?_
      refine lv_iconst (v := (-1)) hx hb dX9_light_132 (by decide) ?_
      exact m_iret hx hb hr hlocks hM hS (Nat.le_of_ble_eq_true rfl) (Nat.le_of_ble_eq_true rfl) ⟨_, _, rfl, hI, hK, ⟨Or.inr ⟨by omega, rfl⟩, h8S⟩⟩ dX9_light_133
    · have qc5 : (a1).toInt = 0 ∨ (a1).toInt = 1 ∨ (a1).toInt = 2 ∨ (a1).toInt = 3 ∨ (a1).toInt = 4 ∨ (a1).toInt = 5 ∨ (a1).toInt = 6 := by omega
      rcases qc5 with qc5 | qc5 | qc5 | qc5 | qc5 | qc5 | qc5
      · refine lv_tableIn (off := 42) (tgt := 68) hx hb dX9_light_26 (by omega) (by omega) (by rw [qc5]; rfl) (by decide) ?_
        refine lv_aload_n hx hb dX9_light_68 rfl (lv_at hl 0 rfl) ?_
        refine m_getr (0) 3 (10) hx hb hts hown hE oc9 hM (hG.1 0 (by decide)) rfl (by decide) rfl (hG.2 (0, 3, 10) (by decide)) (by decide) tb_401 dX9_light_69 ?_
        refine m_calli (m_runV (10) (As := []) (rest := []) hx hb hml hown hts hE hM hS hA ce_X1_total tb_913 (V_X1_total_l l D A ad ns I3 L4 G hG hI) rfl rfl ⟨Nat.le_of_ble_eq_true rfl, Nat.le_of_ble_eq_true rfl⟩ (hG.1 10 (by decide)) rfl rfl (by decide) rfl hl.1 rfl (Nat.le_of_ble_eq_true rfl) dX9_light_72 ⟨Nat.le_of_ble_eq_true rfl, Nat.le_of_ble_eq_true rfl⟩) hS (fun r6 u H locs hw hM hS => ?_)
        obtain ⟨rfl, xr6⟩ := hw
        have hM : Mem D A ad ns I3 L4 G H := hM
        have hkS : I3 102 = I 102 := (hkI3.getA 102 rfl)
        have hLG : LGT (cF 100 I) a0 a1.toInt (r6) := LGT.c0 hS2 (by omega) (xr6.trans (sumN_eq (fun k hk => hS1.1 k hk)))
        exact m_iret hx hb hr hlocks hM hS (Nat.le_of_ble_eq_true rfl) (Nat.le_of_ble_eq_true rfl) ⟨_, _, rfl, hI, hK, ⟨Or.inl ⟨⟨hokL, by omega, by omega⟩, hLG⟩, h8S⟩⟩ dX9_light_75
      · refine lv_tableIn (off := 50) (tgt := 76) hx hb dX9_light_26 (by omega) (by omega) (by rw [qc5]; rfl) (by decide) ?_
        refine lv_aload_n hx hb dX9_light_76 rfl (lv_at hl 0 rfl) ?_
        refine m_getr (0) 3 (10) hx hb hts hown hE oc9 hM (hG.1 0 (by decide)) rfl (by decide) rfl (hG.2 (0, 3, 10) (by decide)) (by decide) tb_401 dX9_light_77 ?_
        refine m_geti (10) 2 hx hb hts hown hE oc1 hM (hG.1 10 (by decide)) rfl (by decide) rfl tb_137 dX9_light_80 ?_
        have hkS : I3 102 = I 102 := (hkI3.getA 102 rfl)
        have hLG : LGT (cF 100 I) a0 a1.toInt (I3 (10) 2) := LGT.c1 hS2 (by omega) (hS1.2.2.1.1)
        exact m_iret hx hb hr hlocks hM hS (Nat.le_of_ble_eq_true rfl) (Nat.le_of_ble_eq_true rfl) ⟨_, _, rfl, hI, hK, ⟨Or.inl ⟨⟨hokL, by omega, by omega⟩, hLG⟩, h8S⟩⟩ dX9_light_83
      · refine lv_tableIn (off := 58) (tgt := 84) hx hb dX9_light_26 (by omega) (by omega) (by rw [qc5]; rfl) (by decide) ?_
        refine lv_aload_n hx hb dX9_light_84 rfl (lv_at hl 0 rfl) ?_
        refine m_getr (0) 3 (10) hx hb hts hown hE oc9 hM (hG.1 0 (by decide)) rfl (by decide) rfl (hG.2 (0, 3, 10) (by decide)) (by decide) tb_401 dX9_light_85 ?_
        refine m_geti (10) 3 hx hb hts hown hE oc1 hM (hG.1 10 (by decide)) rfl (by decide) rfl tb_139 dX9_light_88 ?_
        have hkS : I3 102 = I 102 := (hkI3.getA 102 rfl)
        have hLG : LGT (cF 100 I) a0 a1.toInt (I3 (10) 3) := LGT.c2 hS2 (by omega) (hS1.2.2.1.2.1)
        exact m_iret hx hb hr hlocks hM hS (Nat.le_of_ble_eq_true rfl) (Nat.le_of_ble_eq_true rfl) ⟨_, _, rfl, hI, hK, ⟨Or.inl ⟨⟨hokL, by omega, by omega⟩, hLG⟩, h8S⟩⟩ dX9_light_91
      · refine lv_tableIn (off := 66) (tgt := 92) hx hb dX9_light_26 (by omega) (by omega) (by rw [qc5]; rfl) (by decide) ?_
        refine lv_aload_n hx hb dX9_light_92 rfl (lv_at hl 0 rfl) ?_
        refine m_getr (0) 3 (10) hx hb hts hown hE oc9 hM (hG.1 0 (by decide)) rfl (by decide) rfl (hG.2 (0, 3, 10) (by decide)) (by decide) tb_401 dX9_light_93 ?_
        refine m_geti (10) 4 hx hb hts hown hE oc1 hM (hG.1 10 (by decide)) rfl (by decide) rfl tb_141 dX9_light_96 ?_
        have g7 := hI.get (10) 4 (lo := 0) (hi := 2000) rfl
        have hkS : I3 102 = I 102 := (hkI3.getA 102 rfl)
        have hLG : LGT (cF 100 I) a0 a1.toInt (I3 (10) 4) := LGT.c3 hS2 (by omega) (by show _ = 2000 - ((2000 - (I3 10 4).toInt).toNat : Int); have z := hI.get 10 4 (lo := 0) (hi := 2000) rfl; omega)
        exact m_iret hx hb hr hlocks hM hS (Nat.le_of_ble_eq_true rfl) (Nat.le_of_ble_eq_true rfl) ⟨_, _, rfl, hI, hK, ⟨Or.inl ⟨⟨hokL, by omega, by omega⟩, hLG⟩, h8S⟩⟩ dX9_light_99
      · refine lv_tableIn (off := 74) (tgt := 100) hx hb dX9_light_26 (by omega) (by omega) (by rw [qc5]; rfl) (by decide) ?_
        refine lv_aload_n hx hb dX9_light_100 rfl (lv_at hl 0 rfl) ?_
        refine m_getr (0) 3 (10) hx hb hts hown hE oc9 hM (hG.1 0 (by decide)) rfl (by decide) rfl (hG.2 (0, 3, 10) (by decide)) (by decide) tb_401 dX9_light_101 ?_
        refine m_geti (10) 5 hx hb hts hown hE oc1 hM (hG.1 10 (by decide)) rfl (by decide) rfl tb_143 dX9_light_104 ?_
        have hkS : I3 102 = I 102 := (hkI3.getA 102 rfl)
        have hLG : LGT (cF 100 I) a0 a1.toInt (I3 (10) 5) := LGT.c4 hS2 (by omega) (hS1.2.2.1.2.2.1)
        exact m_iret hx hb hr hlocks hM hS (Nat.le_of_ble_eq_true rfl) (Nat.le_of_ble_eq_true rfl) ⟨_, _, rfl, hI, hK, ⟨Or.inl ⟨⟨hokL, by omega, by omega⟩, hLG⟩, h8S⟩⟩ dX9_light_107
      · refine lv_tableIn (off := 82) (tgt := 108) hx hb dX9_light_26 (by omega) (by omega) (by rw [qc5]; rfl) (by decide) ?_
        refine lv_aload_n hx hb dX9_light_108 rfl (lv_at hl 0 rfl) ?_
        refine m_getr (0) 3 (10) hx hb hts hown hE oc9 hM (hG.1 0 (by decide)) rfl (by decide) rfl (hG.2 (0, 3, 10) (by decide)) (by decide) tb_401 dX9_light_109 ?_
        refine lv_aload_n hx hb dX9_light_112 rfl (lv_at hl 0 rfl) ?_
        refine m_getr (0) 0 (100) hx hb hts hown hE oc9 hM (hG.1 0 (by decide)) rfl (by decide) rfl (hG.2 (0, 0, 100) (by decide)) (by decide) tb_398 dX9_light_113 ?_
        refine m_calli (m_runV (10) (As := [.ref (ad (100))]) (rest := []) hx hb hml hown hts hE hM hS hA ce_X1_blindCount tb_917 (V_X1_blindCount_100_l l D A ad ns I3 L4 G hG hI) rfl rfl ⟨Nat.le_of_ble_eq_true rfl, Nat.le_of_ble_eq_true rfl⟩ (hG.1 10 (by decide)) rfl rfl (by decide) rfl hl.1 rfl (Nat.le_of_ble_eq_true rfl) dX9_light_116 ⟨Nat.le_of_ble_eq_true rfl, Nat.le_of_ble_eq_true rfl⟩) hS (fun r8 u H locs hw hM hS => ?_)
        obtain ⟨rfl, xr8⟩ := hw
        have hM : Mem D A ad ns I3 L4 G H := hM
        have hkS : I3 102 = I 102 := (hkI3.getA 102 rfl)
        have hLG : LGT (cF 100 I) a0 a1.toInt (r8) := LGT.c5 hS2 (by omega) (xr8.trans (blN.same (Nat.le_refl _) (fun c hc => (cf3x hkS c).symm) (fun c hc => hSp c hc)))
        exact m_iret hx hb hr hlocks hM hS (Nat.le_of_ble_eq_true rfl) (Nat.le_of_ble_eq_true rfl) ⟨_, _, rfl, hI, hK, ⟨Or.inl ⟨⟨hokL, by omega, by omega⟩, hLG⟩, h8S⟩⟩ dX9_light_119
      · refine lv_tableIn (off := 94) (tgt := 120) hx hb dX9_light_26 (by omega) (by omega) (by rw [qc5]; rfl) (by decide) ?_
        refine lv_aload_n hx hb dX9_light_120 rfl (lv_at hl 0 rfl) ?_
        refine m_getr (0) 3 (10) hx hb hts hown hE oc9 hM (hG.1 0 (by decide)) rfl (by decide) rfl (hG.2 (0, 3, 10) (by decide)) (by decide) tb_401 dX9_light_121 ?_
        refine lv_aload_n hx hb dX9_light_124 rfl (lv_at hl 0 rfl) ?_
        refine m_getr (0) 0 (100) hx hb hts hown hE oc9 hM (hG.1 0 (by decide)) rfl (by decide) rfl (hG.2 (0, 0, 100) (by decide)) (by decide) tb_398 dX9_light_125 ?_
        refine m_calli (m_runV (10) (As := [.ref (ad (100))]) (rest := []) hx hb hml hown hts hE hM hS hA ce_X1_firstBlind tb_921 (V_X1_firstBlind_100_l l D A ad ns I3 L4 G hG hI) rfl rfl ⟨Nat.le_of_ble_eq_true rfl, Nat.le_of_ble_eq_true rfl⟩ (hG.1 10 (by decide)) rfl rfl (by decide) rfl hl.1 rfl (Nat.le_of_ble_eq_true rfl) dX9_light_128 ⟨Nat.le_of_ble_eq_true rfl, Nat.le_of_ble_eq_true rfl⟩) hS (fun r9 u H locs hw hM hS => ?_)
        obtain ⟨rfl, xr9⟩ := hw
        have hM : Mem D A ad ns I3 L4 G H := hM
        have hkS : I3 102 = I 102 := (hkI3.getA 102 rfl)
        have hLG : LGT (cF 100 I) a0 a1.toInt (r9) := LGT.c6 hS2 (by omega) (xr9.of (fun c hc => cf3x hkS c) (fun c hc => (hSp c hc).symm))
        exact m_iret hx hb hr hlocks hM hS (Nat.le_of_ble_eq_true rfl) (Nat.le_of_ble_eq_true rfl) ⟨_, _, rfl, hI, hK, ⟨Or.inl ⟨⟨hokL, by omega, by omega⟩, hLG⟩, h8S⟩⟩ dX9_light_131
  · have hc2 := c2
    have q2 := xr1.f hc2
    have hnoL : ¬ okL (cF 100 I) a0 := fun zz => q2 ⟨sc0_pos zz.1, zz.2.1, by have z2 := zz.2.2; rw [wy_C] at z2; exact z2⟩
    refine lv_iconst (v := (-1)) hx hb dX9_light_11 (by decide) ?_
    exact m_iret hx hb hr hlocks hM hS (Nat.le_of_ble_eq_true rfl) (Nat.le_of_ble_eq_true rfl) ⟨_, _, rfl, hI, hK, ⟨Or.inr ⟨fun zz => hnoL zz.1, rfl⟩, h8⟩⟩ dX9_light_12
set_option maxHeartbeats 4000000 in
set_option maxRecDepth 20000 in
theorem V_X9_passes_y (l : Launch) (D : va_G) (A : Nat → Prop) (ad : Nat → Nat) (ns : List Nat) (I : MI) (L : ML) (G : MG) (a0 : Int32) (a1 : Int32) (a2 : Int32) (hG : SGC ns G) (hI : INV I) (hOK : OKW (cF 100 I)) (hYL : 0 < (I 100 0).toInt → YLY 100 I) (h8 : (I 10 8).toInt = 0) : Met l yX9_passes (wd yX9_passes cX9_passes 4 (some .int)) ({ frames := 5, cells := 0, slots := 0, locals := 129 }) (va_Pc [.ref (ad (0)), .int a0, .int a1, .int a2] (PM D A ad ns I L G)) (va_Qi (fun r u => ∃ I2 L2, u = (ad, ns, I2, L2, G) ∧ INV I2 ∧ Kp [(11, 15)] [(10, 2), (10, 3), (10, 4), (10, 5), (10, 6), (10, 7), (10, 8), (10, 11), (10, 12)] I I2 ∧ (ANW (okL (cF 100 I) a0 ∧ okC (cF 100 I) a1 a2) r ((shV (cF 100 I) a0).2.pas (clN a1 a2)) (-1) ∧ (I2 10 8).toInt = 0)) (BM D A) A) 0 0 A := by
  refine m_ofW (by decide) (Nat.le_of_ble_eq_true rfl) ?_
  intro p e s m below meth c ls args hC hE hM hA hS hl
  obtain ⟨hx, hb, hml, hown, hts, hr, hlocks, hin⟩ := hC
  have km1 : (-1 : Int32).toInt = -1 := by decide
  have k0 : (0 : Int32).toInt = 0 := by decide
  have hI0 := hI
  have hK : Kp [(11, 15)] [(10, 2), (10, 3), (10, 4), (10, 5), (10, 6), (10, 7), (10, 8), (10, 11), (10, 12)] I I := Kp.rf
  have hl : lv_has ls 4 [(0, .ref (ad (0))), (1, .int (a0)), (2, .int (a1)), (3, .int (a2))] := hl
  refine lv_aload_n hx hb dX9_passes_0 rfl (lv_at hl 0 rfl) ?_
  refine m_getr (0) 0 (100) hx hb hts hown hE oc9 hM (hG.1 0 (by decide)) rfl (by decide) rfl (hG.2 (0, 0, 100) (by decide)) (by decide) tb_398 dX9_passes_1 ?_
  refine lv_iload_n hx hb dX9_passes_4 rfl (lv_at hl 1 rfl) ?_
  refine m_calli (m_runV (100) (As := [.int (a0)]) (rest := []) hx hb hml hown hts hE hM hS hA ce_X8_isLit tb_906 (V_X8_isLit_100 l D A ad ns I L G (a0) hG hI) rfl rfl ⟨Nat.le_of_ble_eq_true rfl, Nat.le_of_ble_eq_true rfl⟩ (hG.1 100 (by decide)) rfl rfl (by decide) rfl hl.1 rfl (Nat.le_of_ble_eq_true rfl) dX9_passes_5 ⟨Nat.le_of_ble_eq_true rfl, Nat.le_of_ble_eq_true rfl⟩) hS (fun r1 u H locs hw hM hS => ?_)
  obtain ⟨rfl, xr1⟩ := hw
  have hM : Mem D A ad ns I L G H := hM
  have yr1 := bo01 xr1
  refine lv_if_eq (tgt := 23) hx hb dX9_passes_8 (by decide) (fun c2 => ?_) (fun c2 => ?_)
  · have hc2 := c2
    have q2 := xr1.f hc2
    have hnoL : ¬ okL (cF 100 I) a0 := fun zz => q2 ⟨sc0_pos zz.1, zz.2.1, by have z2 := zz.2.2; rw [wy_C] at z2; exact z2⟩
    refine lv_iconst (v := (-1)) hx hb dX9_passes_23 (by decide) ?_
    exact m_iret hx hb hr hlocks hM hS (Nat.le_of_ble_eq_true rfl) (Nat.le_of_ble_eq_true rfl) ⟨_, _, rfl, hI, hK, ⟨Or.inr ⟨fun zz => hnoL zz.1, rfl⟩, h8⟩⟩ dX9_passes_24
  · have hc2 := c2
    have q2 := xr1.t hc2
    have lh2 := q2.2.1
    have hlitS : Lit 100 I a0 := q2.2
    have hbgS : 0 < (I 100 0).toInt := q2.1
    have hokL : okL (cF 100 I) a0 := ⟨by show (if 0 < (I 100 0).toInt then (1 : Int32) else 0).toInt = 1; rw [if_pos hbgS]; decide, hlitS.1, by rw [wy_C]; exact hlitS.2⟩
    refine lv_aload_n hx hb dX9_passes_11 rfl (lv_at hl 0 rfl) ?_
    refine m_getr (0) 0 (100) hx hb hts hown hE oc9 hM (hG.1 0 (by decide)) rfl (by decide) rfl (hG.2 (0, 0, 100) (by decide)) (by decide) tb_398 dX9_passes_12 ?_
    refine lv_iload_n hx hb dX9_passes_15 rfl (lv_at hl 2 rfl) ?_
    refine lv_iload_n hx hb dX9_passes_16 rfl (lv_at hl 3 rfl) ?_
    refine m_calli (m_runV (100) (As := [.int (a1), .int (a2)]) (rest := []) hx hb hml hown hts hE hM hS hA ce_X8_hasCell tb_493 (V_X8_hasCell_100 l D A ad ns I L G (a1) (a2) hG hI) rfl rfl ⟨Nat.le_of_ble_eq_true rfl, Nat.le_of_ble_eq_true rfl⟩ (hG.1 100 (by decide)) rfl rfl (by decide) rfl hl.1 rfl (Nat.le_of_ble_eq_true rfl) dX9_passes_17 ⟨Nat.le_of_ble_eq_true rfl, Nat.le_of_ble_eq_true rfl⟩) hS (fun r3 u H locs hw hM hS => ?_)
    obtain ⟨rfl, xr3⟩ := hw
    have hM : Mem D A ad ns I L G H := hM
    have yr3 := bo01 xr3
    have g4 := hI.get 100 0 (lo := 0) (hi := 24) rfl
    have g5 := hI.get 100 1 (lo := 0) (hi := 24) rfl
    refine lv_if_ne (tgt := 25) hx hb dX9_passes_20 (by decide) (fun c6 => ?_) (fun c6 => ?_)
    · have hc6 := c6
      have q6 := xr3.t hc6
      refine lv_aload_n hx hb dX9_passes_25 rfl (lv_at hl 0 rfl) ?_
      refine m_getr (0) 3 (10) hx hb hts hown hE oc9 hM (hG.1 0 (by decide)) rfl (by decide) rfl (hG.2 (0, 3, 10) (by decide)) (by decide) tb_401 dX9_passes_26 ?_
      refine lv_aload_n hx hb dX9_passes_29 rfl (lv_at hl 0 rfl) ?_
      refine m_getr (0) 0 (100) hx hb hts hown hE oc9 hM (hG.1 0 (by decide)) rfl (by decide) rfl (hG.2 (0, 0, 100) (by decide)) (by decide) tb_398 dX9_passes_30 ?_
      refine lv_iload_n hx hb dX9_passes_33 rfl (lv_at hl 1 rfl) ?_
      refine m_callv (m_runV (10) (As := [.ref (ad (100)), .int (a0)]) (rest := []) hx hb hml hown hts hE hM hS hA ce_X1_shineWatched tb_912 (V_X1_shineWatched_100_l l D A ad ns I L G (a0) hG hI (hlitS) (by first | omega | decide)) rfl rfl ⟨Nat.le_of_ble_eq_true rfl, Nat.le_of_ble_eq_true rfl⟩ (hG.1 10 (by decide)) rfl rfl (by decide) rfl hl.1 rfl (Nat.le_of_ble_eq_true rfl) dX9_passes_34 ⟨Nat.le_of_ble_eq_true rfl, Nat.le_of_ble_eq_true rfl⟩) hS (fun u H locs hw hM hS => ?_)
      obtain ⟨I7, L8, rfl, hI, hkI7, xI7⟩ := hw
      have hM : Mem D A ad ns I7 L8 G H := hM
      have hK := hK.trans hkI7 rfl
      have htT : TNok (twC 100 I) := twC_ok hI0 rfl rfl (fun _ => rfl) (fun _ => rfl)
      have h8S := xI7.2
      obtain ⟨S2, hS1, hSp, hS2⟩ := SHV.sh xI7.1 (hYL hbgS) htT (hI0.get 100 2 (lo := 0) (hi := 23) rfl) (hI0.get 100 3 (lo := 0) (hi := 23) rfl)
      refine lv_aload_n hx hb dX9_passes_37 rfl (lv_at hl 0 rfl) ?_
      refine m_getr (0) 3 (10) hx hb hts hown hE oc9 hM (hG.1 0 (by decide)) rfl (by decide) rfl (hG.2 (0, 3, 10) (by decide)) (by decide) tb_401 dX9_passes_38 ?_
      refine m_getr (10) 1 (12) hx hb hts hown hE oc1 hM (hG.1 10 (by decide)) rfl (by decide) rfl (hG.2 (10, 1, 12) (by decide)) (by decide) tb_135 dX9_passes_41 ?_
      refine lv_iload_n hx hb dX9_passes_44 rfl (lv_at hl 2 rfl) ?_
      refine lv_iload_n hx hb dX9_passes_45 rfl (lv_at hl 3 rfl) ?_
      refine m_calli (m_runS (As := [.int (a1), .int (a2)]) (rest := [.ref (ad (12))]) hx hb hml hown hts hE hM hS hA ce_X9_cellOf tb_494 (V_X9_cellOf l D A ad ns I7 L8 G (a1) (a2) hI (by first | omega | decide) (by first | omega | decide)) rfl rfl ⟨Nat.le_of_ble_eq_true rfl, Nat.le_of_ble_eq_true rfl⟩  rfl hl.1 rfl (Nat.le_of_ble_eq_true rfl) dX9_passes_46 ⟨Nat.le_of_ble_eq_true rfl, Nat.le_of_ble_eq_true rfl⟩) hS (fun r9 u H locs hw hM hS => ?_)
      obtain ⟨rfl, xr9⟩ := hw
      have hM : Mem D A ad ns I7 L8 G H := hM
      refine m_iald (12) hx hb hE hM (hG.1 12 (by decide)) rfl (vp_in_iff.mpr (by omega)) dX9_passes_49 ?_
      exact m_iret hx hb hr hlocks hM hS (Nat.le_of_ble_eq_true rfl) (Nat.le_of_ble_eq_true rfl) ⟨_, _, rfl, hI, hK, ⟨Or.inl ⟨⟨hokL, by show 0 ≤ _ ∧ _ < (I 100 0).toInt ∧ 0 ≤ _ ∧ _ < (I 100 1).toInt; omega⟩, by rw [hS2, show clN a1 a2 = (r9).toNatClampNeg from (by unfold clN; have z0 := tn (i := r9) (by omega); have z1 := tn (i := a1) (by omega); have z2 := tn (i := a2) (by omega); omega)]; exact hSp _ (by have z0 := tn (i := r9) (by omega); omega)⟩, h8S⟩⟩ dX9_passes_50
    · have hc6 := c6
      have q6 := xr3.f hc6
      refine lv_iconst (v := (-1)) hx hb dX9_passes_23 (by decide) ?_
      exact m_iret hx hb hr hlocks hM hS (Nat.le_of_ble_eq_true rfl) (Nat.le_of_ble_eq_true rfl) ⟨_, _, rfl, hI, hK, ⟨Or.inr ⟨fun zz => (by have z2 := zz.2; unfold okC at z2; have z3 : (I 100 0).toInt = ((cF 100 I) 1 1).toInt := rfl; have z4 : (I 100 1).toInt = ((cF 100 I) 1 2).toInt := rfl; omega), rfl⟩, h8⟩⟩ dX9_passes_24
set_option maxHeartbeats 4000000 in
set_option maxRecDepth 20000 in
theorem V_X9_mirrors_y (l : Launch) (D : va_G) (A : Nat → Prop) (ad : Nat → Nat) (ns : List Nat) (I : MI) (L : ML) (G : MG) (a0 : Int32) (a1 : Int32) (hG : SGC ns G) (hI : INV I) : Met l yX9_mirrors (wd yX9_mirrors cX9_mirrors 3 (some .int)) ({ frames := 1, cells := 0, slots := 0, locals := 22 }) (va_Pc [.ref (ad (0)), .int a0, .int a1] (PM D A ad ns I L G)) (va_Qi (fun r u => u = (ad, ns, I, L, G) ∧ (ANW (0 ≤ a0.toInt ∧ a0.toInt < (I 100 8).toInt ∧ 0 ≤ a1.toInt ∧ a1.toInt ≤ 9) r ((cF 100 I) (7 + (a1).toNatClampNeg) (a0).toNatClampNeg) (-2))) (BM D A) A) 0 0 A := by
  refine m_ofW (by decide) (Nat.le_of_ble_eq_true rfl) ?_
  intro p e s m below meth c ls args hC hE hM hA hS hl
  obtain ⟨hx, hb, hml, hown, hts, hr, hlocks, hin⟩ := hC
  have km2 : (-2 : Int32).toInt = -2 := by decide
  have k0 : (0 : Int32).toInt = 0 := by decide
  have k9 : (9 : Int32).toInt = 9 := by decide
  have hl : lv_has ls 3 [(0, .ref (ad (0))), (1, .int (a0)), (2, .int (a1))] := hl
  refine lv_aload_n hx hb dX9_mirrors_0 rfl (lv_at hl 0 rfl) ?_
  refine m_getr (0) 0 (100) hx hb hts hown hE oc9 hM (hG.1 0 (by decide)) rfl (by decide) rfl (hG.2 (0, 0, 100) (by decide)) (by decide) tb_398 dX9_mirrors_1 ?_
  refine lv_iload_n hx hb dX9_mirrors_4 rfl (lv_at hl 1 rfl) ?_
  refine m_calli (m_runV (100) (As := [.int (a0)]) (rest := []) hx hb hml hown hts hE hM hS hA ce_X8_hasMirror tb_508 (V_X8_hasMirror_100 l D A ad ns I L G (a0) hG hI) rfl rfl ⟨Nat.le_of_ble_eq_true rfl, Nat.le_of_ble_eq_true rfl⟩ (hG.1 100 (by decide)) rfl rfl (by decide) rfl hl.1 rfl (Nat.le_of_ble_eq_true rfl) dX9_mirrors_5 ⟨Nat.le_of_ble_eq_true rfl, Nat.le_of_ble_eq_true rfl⟩) hS (fun r1 u H locs hw hM hS => ?_)
  obtain ⟨rfl, xr1⟩ := hw
  have hM : Mem D A ad ns I L G H := hM
  have yr1 := bo01 xr1
  have g2 := hI.get 100 8 (lo := 0) (hi := 24) rfl
  refine lv_if_eq (tgt := 21) hx hb dX9_mirrors_8 (by decide) (fun c3 => ?_) (fun c3 => ?_)
  · have hc3 := c3
    have q3 := xr1.f hc3
    refine lv_bipush (v := (-2)) hx hb dX9_mirrors_21 (by decide) ?_
    exact m_iret hx hb hr hlocks hM hS (Nat.le_of_ble_eq_true rfl) (Nat.le_of_ble_eq_true rfl) ⟨rfl, (Or.inr ⟨by omega, rfl⟩)⟩ dX9_mirrors_23
  · have hc3 := c3
    have q3 := xr1.t hc3
    refine lv_iload_n hx hb dX9_mirrors_11 rfl (lv_at hl 2 rfl) ?_
    refine lv_iconst (v := (0)) hx hb dX9_mirrors_12 (by decide) ?_
    refine lv_bipush (v := (9)) hx hb dX9_mirrors_13 (by decide) ?_
    refine m_calli (m_runS (As := [.int (a1), .int (0), .int (9)]) (rest := []) hx hb hml hown hts hE hM hS hA ce_X9_isWithin tb_451 (V_X9_isWithin l D A ad ns I L G (a1) (0) (9) hI) rfl rfl ⟨Nat.le_of_ble_eq_true rfl, Nat.le_of_ble_eq_true rfl⟩  rfl hl.1 rfl (Nat.le_of_ble_eq_true rfl) dX9_mirrors_15 ⟨Nat.le_of_ble_eq_true rfl, Nat.le_of_ble_eq_true rfl⟩) hS (fun r4 u H locs hw hM hS => ?_)
    obtain ⟨rfl, xr4⟩ := hw
    have hM : Mem D A ad ns I L G H := hM
    have yr4 := bo01 xr4
    refine lv_if_ne (tgt := 24) hx hb dX9_mirrors_18 (by decide) (fun c5 => ?_) (fun c5 => ?_)
    · have hc5 := c5
      have q5 := xr4.t hc5
      refine lv_aload_n hx hb dX9_mirrors_24 rfl (lv_at hl 0 rfl) ?_
      refine m_getr (0) 0 (100) hx hb hts hown hE oc9 hM (hG.1 0 (by decide)) rfl (by decide) rfl (hG.2 (0, 0, 100) (by decide)) (by decide) tb_398 dX9_mirrors_25 ?_
      refine lv_iload_n hx hb dX9_mirrors_28 rfl (lv_at hl 1 rfl) ?_
      refine lv_iload_n hx hb dX9_mirrors_29 rfl (lv_at hl 2 rfl) ?_
      refine m_calli (m_runV (100) (As := [.int (a0), .int (a1)]) (rest := []) hx hb hml hown hts hE hM hS hA ce_X8_ofMirror tb_516 (V_X8_ofMirror_100_l l D A ad ns I L G (a0) (a1) hG hI (by first | omega | decide) (by first | omega | decide)) rfl rfl ⟨Nat.le_of_ble_eq_true rfl, Nat.le_of_ble_eq_true rfl⟩ (hG.1 100 (by decide)) rfl rfl (by decide) rfl hl.1 rfl (Nat.le_of_ble_eq_true rfl) dX9_mirrors_30 ⟨Nat.le_of_ble_eq_true rfl, Nat.le_of_ble_eq_true rfl⟩) hS (fun r6 u H locs hw hM hS => ?_)
      obtain ⟨rfl, xr6⟩ := hw
      have hM : Mem D A ad ns I L G H := hM
      exact m_iret hx hb hr hlocks hM hS (Nat.le_of_ble_eq_true rfl) (Nat.le_of_ble_eq_true rfl) ⟨rfl, (Or.inl ⟨by omega, by rw [xr6]; exact (cfM (by have z := tn (i := a1) (by omega); omega)).symm⟩)⟩ dX9_mirrors_33
    · have hc5 := c5
      have q5 := xr4.f hc5
      refine lv_bipush (v := (-2)) hx hb dX9_mirrors_21 (by decide) ?_
      exact m_iret hx hb hr hlocks hM hS (Nat.le_of_ble_eq_true rfl) (Nat.le_of_ble_eq_true rfl) ⟨rfl, (Or.inr ⟨by omega, rfl⟩)⟩ dX9_mirrors_23
set_option maxHeartbeats 4000000 in
set_option maxRecDepth 20000 in
theorem V_X9_yards_y (l : Launch) (D : va_G) (A : Nat → Prop) (ad : Nat → Nat) (ns : List Nat) (I : MI) (L : ML) (G : MG) (a0 : Int32) (a1 : Int32) (hG : SGC ns G) (hI : INV I) : Met l yX9_yards (wd yX9_yards cX9_yards 3 (some .int)) ({ frames := 1, cells := 0, slots := 0, locals := 22 }) (va_Pc [.ref (ad (0)), .int a0, .int a1] (PM D A ad ns I L G)) (va_Qi (fun r u => u = (ad, ns, I, L, G) ∧ (ANW (0 ≤ a0.toInt ∧ a0.toInt < (I 100 9).toInt ∧ 0 ≤ a1.toInt ∧ a1.toInt ≤ 6) r ((cF 100 I) (yrow (a1).toNatClampNeg) (a0).toNatClampNeg) (-1))) (BM D A) A) 0 0 A := by
  refine m_ofW (by decide) (Nat.le_of_ble_eq_true rfl) ?_
  intro p e s m below meth c ls args hC hE hM hA hS hl
  obtain ⟨hx, hb, hml, hown, hts, hr, hlocks, hin⟩ := hC
  have km1 : (-1 : Int32).toInt = -1 := by decide
  have k0 : (0 : Int32).toInt = 0 := by decide
  have k6 : (6 : Int32).toInt = 6 := by decide
  have hl : lv_has ls 3 [(0, .ref (ad (0))), (1, .int (a0)), (2, .int (a1))] := hl
  refine lv_aload_n hx hb dX9_yards_0 rfl (lv_at hl 0 rfl) ?_
  refine m_getr (0) 0 (100) hx hb hts hown hE oc9 hM (hG.1 0 (by decide)) rfl (by decide) rfl (hG.2 (0, 0, 100) (by decide)) (by decide) tb_398 dX9_yards_1 ?_
  refine lv_iload_n hx hb dX9_yards_4 rfl (lv_at hl 1 rfl) ?_
  refine m_calli (m_runV (100) (As := [.int (a0)]) (rest := []) hx hb hml hown hts hE hM hS hA ce_X8_hasYard tb_893 (V_X8_hasYard_100 l D A ad ns I L G (a0) hG hI) rfl rfl ⟨Nat.le_of_ble_eq_true rfl, Nat.le_of_ble_eq_true rfl⟩ (hG.1 100 (by decide)) rfl rfl (by decide) rfl hl.1 rfl (Nat.le_of_ble_eq_true rfl) dX9_yards_5 ⟨Nat.le_of_ble_eq_true rfl, Nat.le_of_ble_eq_true rfl⟩) hS (fun r1 u H locs hw hM hS => ?_)
  obtain ⟨rfl, xr1⟩ := hw
  have hM : Mem D A ad ns I L G H := hM
  have yr1 := bo01 xr1
  have g2 := hI.get 100 9 (lo := 0) (hi := 8) rfl
  refine lv_if_eq (tgt := 21) hx hb dX9_yards_8 (by decide) (fun c3 => ?_) (fun c3 => ?_)
  · have hc3 := c3
    have q3 := xr1.f hc3
    refine lv_iconst (v := (-1)) hx hb dX9_yards_21 (by decide) ?_
    exact m_iret hx hb hr hlocks hM hS (Nat.le_of_ble_eq_true rfl) (Nat.le_of_ble_eq_true rfl) ⟨rfl, (Or.inr ⟨by omega, rfl⟩)⟩ dX9_yards_22
  · have hc3 := c3
    have q3 := xr1.t hc3
    refine lv_iload_n hx hb dX9_yards_11 rfl (lv_at hl 2 rfl) ?_
    refine lv_iconst (v := (0)) hx hb dX9_yards_12 (by decide) ?_
    refine lv_bipush (v := (6)) hx hb dX9_yards_13 (by decide) ?_
    refine m_calli (m_runS (As := [.int (a1), .int (0), .int (6)]) (rest := []) hx hb hml hown hts hE hM hS hA ce_X9_isWithin tb_451 (V_X9_isWithin l D A ad ns I L G (a1) (0) (6) hI) rfl rfl ⟨Nat.le_of_ble_eq_true rfl, Nat.le_of_ble_eq_true rfl⟩  rfl hl.1 rfl (Nat.le_of_ble_eq_true rfl) dX9_yards_15 ⟨Nat.le_of_ble_eq_true rfl, Nat.le_of_ble_eq_true rfl⟩) hS (fun r4 u H locs hw hM hS => ?_)
    obtain ⟨rfl, xr4⟩ := hw
    have hM : Mem D A ad ns I L G H := hM
    have yr4 := bo01 xr4
    refine lv_if_ne (tgt := 23) hx hb dX9_yards_18 (by decide) (fun c5 => ?_) (fun c5 => ?_)
    · have hc5 := c5
      have q5 := xr4.t hc5
      refine lv_aload_n hx hb dX9_yards_23 rfl (lv_at hl 0 rfl) ?_
      refine m_getr (0) 0 (100) hx hb hts hown hE oc9 hM (hG.1 0 (by decide)) rfl (by decide) rfl (hG.2 (0, 0, 100) (by decide)) (by decide) tb_398 dX9_yards_24 ?_
      refine lv_iload_n hx hb dX9_yards_27 rfl (lv_at hl 1 rfl) ?_
      refine lv_iload_n hx hb dX9_yards_28 rfl (lv_at hl 2 rfl) ?_
      refine m_calli (m_runV (100) (As := [.int (a0), .int (a1)]) (rest := []) hx hb hml hown hts hE hM hS hA ce_X8_ofYard tb_897 (V_X8_ofYard_100_l l D A ad ns I L G (a0) (a1) hG hI (by first | omega | decide) (by first | omega | decide)) rfl rfl ⟨Nat.le_of_ble_eq_true rfl, Nat.le_of_ble_eq_true rfl⟩ (hG.1 100 (by decide)) rfl rfl (by decide) rfl hl.1 rfl (Nat.le_of_ble_eq_true rfl) dX9_yards_29 ⟨Nat.le_of_ble_eq_true rfl, Nat.le_of_ble_eq_true rfl⟩) hS (fun r6 u H locs hw hM hS => ?_)
      obtain ⟨rfl, xr6⟩ := hw
      have hM : Mem D A ad ns I L G H := hM
      exact m_iret hx hb hr hlocks hM hS (Nat.le_of_ble_eq_true rfl) (Nat.le_of_ble_eq_true rfl) ⟨rfl, (Or.inl ⟨by omega, by rw [xr6]; exact (cfY (by have z := tn (i := a1) (by omega); omega)).symm⟩)⟩ dX9_yards_32
    · have hc5 := c5
      have q5 := xr4.f hc5
      refine lv_iconst (v := (-1)) hx hb dX9_yards_21 (by decide) ?_
      exact m_iret hx hb hr hlocks hM hS (Nat.le_of_ble_eq_true rfl) (Nat.le_of_ble_eq_true rfl) ⟨rfl, (Or.inr ⟨by omega, rfl⟩)⟩ dX9_yards_22
set_option maxHeartbeats 4000000 in
set_option maxRecDepth 20000 in
theorem V_X9_countOfTown_y (l : Launch) (D : va_G) (A : Nat → Prop) (ad : Nat → Nat) (ns : List Nat) (I : MI) (L : ML) (G : MG) (a0 : Int32) (hG : SGC ns G) (hI : INV I) : Met l yX9_countOfTown (wd yX9_countOfTown cX9_countOfTown 2 (some .int)) ({ frames := 2, cells := 0, slots := 0, locals := 44 }) (va_Pc [.ref (ad (0)), .int a0] (PM D A ad ns I L G)) (va_Qi (fun r u => u = (ad, ns, I, L, G) ∧ (ANW (0 ≤ a0.toInt ∧ a0.toInt ≤ 7) r (cnV (cF 100 I) a0.toInt) (-1))) (BM D A) A) 0 0 A := by
  refine m_ofW (by decide) (Nat.le_of_ble_eq_true rfl) ?_
  intro p e s m below meth c ls args hC hE hM hA hS hl
  obtain ⟨hx, hb, hml, hown, hts, hr, hlocks, hin⟩ := hC
  have km1 : (-1 : Int32).toInt = -1 := by decide
  have k0 : (0 : Int32).toInt = 0 := by decide
  have hl : lv_has ls 2 [(0, .ref (ad (0))), (1, .int (a0))] := hl
  refine lv_iload_n hx hb dX9_countOfTown_0 rfl (lv_at hl 1 rfl) ?_
  by_cases c1 : (a0).toInt < 0 ∨ 7 < (a0).toInt
  · refine lv_tableOut (tgt := 112) hx hb dX9_countOfTown_1 c1 (by decide) ?_
    refine lv_iconst (v := (-1)) hx hb dX9_countOfTown_112 (by decide) ?_
    exact m_iret hx hb hr hlocks hM hS (Nat.le_of_ble_eq_true rfl) (Nat.le_of_ble_eq_true rfl) ⟨rfl, (Or.inr ⟨by omega, rfl⟩)⟩ dX9_countOfTown_113
  · have qc1 : (a0).toInt = 0 ∨ (a0).toInt = 1 ∨ (a0).toInt = 2 ∨ (a0).toInt = 3 ∨ (a0).toInt = 4 ∨ (a0).toInt = 5 ∨ (a0).toInt = 6 ∨ (a0).toInt = 7 := by omega
    rcases qc1 with qc1 | qc1 | qc1 | qc1 | qc1 | qc1 | qc1 | qc1
    · refine lv_tableIn (off := 47) (tgt := 48) hx hb dX9_countOfTown_1 (by omega) (by omega) (by rw [qc1]; rfl) (by decide) ?_
      refine lv_aload_n hx hb dX9_countOfTown_48 rfl (lv_at hl 0 rfl) ?_
      refine m_getr (0) 0 (100) hx hb hts hown hE oc9 hM (hG.1 0 (by decide)) rfl (by decide) rfl (hG.2 (0, 0, 100) (by decide)) (by decide) tb_398 dX9_countOfTown_49 ?_
      refine m_geti (100) 0 hx hb hts hown hE oc8 hM (hG.1 100 (by decide)) rfl (by decide) rfl tb_36 dX9_countOfTown_52 ?_
      have g2 := hI.get (100) 0 (lo := 0) (hi := 24) rfl
      exact m_iret hx hb hr hlocks hM hS (Nat.le_of_ble_eq_true rfl) (Nat.le_of_ble_eq_true rfl) ⟨rfl, (Or.inl ⟨by omega, by unfold cnV; rw [if_pos (by omega)]; rfl⟩)⟩ dX9_countOfTown_55
    · refine lv_tableIn (off := 55) (tgt := 56) hx hb dX9_countOfTown_1 (by omega) (by omega) (by rw [qc1]; rfl) (by decide) ?_
      refine lv_aload_n hx hb dX9_countOfTown_56 rfl (lv_at hl 0 rfl) ?_
      refine m_getr (0) 0 (100) hx hb hts hown hE oc9 hM (hG.1 0 (by decide)) rfl (by decide) rfl (hG.2 (0, 0, 100) (by decide)) (by decide) tb_398 dX9_countOfTown_57 ?_
      refine m_geti (100) 1 hx hb hts hown hE oc8 hM (hG.1 100 (by decide)) rfl (by decide) rfl tb_39 dX9_countOfTown_60 ?_
      have g3 := hI.get (100) 1 (lo := 0) (hi := 24) rfl
      exact m_iret hx hb hr hlocks hM hS (Nat.le_of_ble_eq_true rfl) (Nat.le_of_ble_eq_true rfl) ⟨rfl, (Or.inl ⟨by omega, by unfold cnV; rw [if_neg (by omega), if_pos (by omega)]; rfl⟩)⟩ dX9_countOfTown_63
    · refine lv_tableIn (off := 63) (tgt := 64) hx hb dX9_countOfTown_1 (by omega) (by omega) (by rw [qc1]; rfl) (by decide) ?_
      refine lv_aload_n hx hb dX9_countOfTown_64 rfl (lv_at hl 0 rfl) ?_
      refine m_getr (0) 0 (100) hx hb hts hown hE oc9 hM (hG.1 0 (by decide)) rfl (by decide) rfl (hG.2 (0, 0, 100) (by decide)) (by decide) tb_398 dX9_countOfTown_65 ?_
      refine m_geti (100) 8 hx hb hts hown hE oc8 hM (hG.1 100 (by decide)) rfl (by decide) rfl tb_62 dX9_countOfTown_68 ?_
      have g4 := hI.get (100) 8 (lo := 0) (hi := 24) rfl
      exact m_iret hx hb hr hlocks hM hS (Nat.le_of_ble_eq_true rfl) (Nat.le_of_ble_eq_true rfl) ⟨rfl, (Or.inl ⟨by omega, by unfold cnV; rw [if_neg (by omega), if_neg (by omega), if_pos (by omega)]; rfl⟩)⟩ dX9_countOfTown_71
    · refine lv_tableIn (off := 71) (tgt := 72) hx hb dX9_countOfTown_1 (by omega) (by omega) (by rw [qc1]; rfl) (by decide) ?_
      refine lv_aload_n hx hb dX9_countOfTown_72 rfl (lv_at hl 0 rfl) ?_
      refine m_getr (0) 0 (100) hx hb hts hown hE oc9 hM (hG.1 0 (by decide)) rfl (by decide) rfl (hG.2 (0, 0, 100) (by decide)) (by decide) tb_398 dX9_countOfTown_73 ?_
      refine m_geti (100) 9 hx hb hts hown hE oc8 hM (hG.1 100 (by decide)) rfl (by decide) rfl tb_64 dX9_countOfTown_76 ?_
      have g5 := hI.get (100) 9 (lo := 0) (hi := 8) rfl
      exact m_iret hx hb hr hlocks hM hS (Nat.le_of_ble_eq_true rfl) (Nat.le_of_ble_eq_true rfl) ⟨rfl, (Or.inl ⟨by omega, by unfold cnV; rw [if_neg (by omega), if_neg (by omega), if_neg (by omega), if_pos (by omega)]; rfl⟩)⟩ dX9_countOfTown_79
    · refine lv_tableIn (off := 79) (tgt := 80) hx hb dX9_countOfTown_1 (by omega) (by omega) (by rw [qc1]; rfl) (by decide) ?_
      refine lv_aload_n hx hb dX9_countOfTown_80 rfl (lv_at hl 0 rfl) ?_
      refine m_getr (0) 0 (100) hx hb hts hown hE oc9 hM (hG.1 0 (by decide)) rfl (by decide) rfl (hG.2 (0, 0, 100) (by decide)) (by decide) tb_398 dX9_countOfTown_81 ?_
      refine m_geti (100) 5 hx hb hts hown hE oc8 hM (hG.1 100 (by decide)) rfl (by decide) rfl tb_53 dX9_countOfTown_84 ?_
      have g6 := hI.get (100) 5 (lo := 0) (hi := 11) rfl
      exact m_iret hx hb hr hlocks hM hS (Nat.le_of_ble_eq_true rfl) (Nat.le_of_ble_eq_true rfl) ⟨rfl, (Or.inl ⟨by omega, by unfold cnV; rw [if_neg (by omega), if_neg (by omega), if_neg (by omega), if_neg (by omega), if_pos (by omega)]; rfl⟩)⟩ dX9_countOfTown_87
    · refine lv_tableIn (off := 87) (tgt := 88) hx hb dX9_countOfTown_1 (by omega) (by omega) (by rw [qc1]; rfl) (by decide) ?_
      refine lv_aload_n hx hb dX9_countOfTown_88 rfl (lv_at hl 0 rfl) ?_
      refine m_getr (0) 0 (100) hx hb hts hown hE oc9 hM (hG.1 0 (by decide)) rfl (by decide) rfl (hG.2 (0, 0, 100) (by decide)) (by decide) tb_398 dX9_countOfTown_89 ?_
      refine m_geti (100) 6 hx hb hts hown hE oc8 hM (hG.1 100 (by decide)) rfl (by decide) rfl tb_56 dX9_countOfTown_92 ?_
      exact m_iret hx hb hr hlocks hM hS (Nat.le_of_ble_eq_true rfl) (Nat.le_of_ble_eq_true rfl) ⟨rfl, (Or.inl ⟨by omega, by unfold cnV; rw [if_neg (by omega), if_neg (by omega), if_neg (by omega), if_neg (by omega), if_neg (by omega), if_pos (by omega)]; rfl⟩)⟩ dX9_countOfTown_95
    · refine lv_tableIn (off := 95) (tgt := 96) hx hb dX9_countOfTown_1 (by omega) (by omega) (by rw [qc1]; rfl) (by decide) ?_
      refine lv_aload_n hx hb dX9_countOfTown_96 rfl (lv_at hl 0 rfl) ?_
      refine m_getr (0) 0 (100) hx hb hts hown hE oc9 hM (hG.1 0 (by decide)) rfl (by decide) rfl (hG.2 (0, 0, 100) (by decide)) (by decide) tb_398 dX9_countOfTown_97 ?_
      refine m_calli (m_runV (100) (As := []) (rest := []) hx hb hml hown hts hE hM hS hA ce_X8_metCount tb_880 (V_X8_metCount_100_y l D A ad ns I L G hG hI) rfl rfl ⟨Nat.le_of_ble_eq_true rfl, Nat.le_of_ble_eq_true rfl⟩ (hG.1 100 (by decide)) rfl rfl (by decide) rfl hl.1 rfl (Nat.le_of_ble_eq_true rfl) dX9_countOfTown_100 ⟨Nat.le_of_ble_eq_true rfl, Nat.le_of_ble_eq_true rfl⟩) hS (fun r7 u H locs hw hM hS => ?_)
      obtain ⟨rfl, xr7⟩ := hw
      have hM : Mem D A ad ns I L G H := hM
      exact m_iret hx hb hr hlocks hM hS (Nat.le_of_ble_eq_true rfl) (Nat.le_of_ble_eq_true rfl) ⟨rfl, (Or.inl ⟨by omega, by unfold cnV; rw [if_neg (by omega), if_neg (by omega), if_neg (by omega), if_neg (by omega), if_neg (by omega), if_neg (by omega), if_pos (by omega)]; exact xr7⟩)⟩ dX9_countOfTown_103
    · refine lv_tableIn (off := 103) (tgt := 104) hx hb dX9_countOfTown_1 (by omega) (by omega) (by rw [qc1]; rfl) (by decide) ?_
      refine lv_aload_n hx hb dX9_countOfTown_104 rfl (lv_at hl 0 rfl) ?_
      refine m_getr (0) 0 (100) hx hb hts hown hE oc9 hM (hG.1 0 (by decide)) rfl (by decide) rfl (hG.2 (0, 0, 100) (by decide)) (by decide) tb_398 dX9_countOfTown_105 ?_
      refine m_geti (100) 7 hx hb hts hown hE oc8 hM (hG.1 100 (by decide)) rfl (by decide) rfl tb_58 dX9_countOfTown_108 ?_
      exact m_iret hx hb hr hlocks hM hS (Nat.le_of_ble_eq_true rfl) (Nat.le_of_ble_eq_true rfl) ⟨rfl, (Or.inl ⟨by omega, by unfold cnV; rw [if_neg (by omega), if_neg (by omega), if_neg (by omega), if_neg (by omega), if_neg (by omega), if_neg (by omega), if_neg (by omega)]; rfl⟩)⟩ dX9_countOfTown_111
set_option maxHeartbeats 4000000 in
set_option maxRecDepth 20000 in
theorem V_X9_count_y (l : Launch) (D : va_G) (A : Nat → Prop) (ad : Nat → Nat) (ns : List Nat) (I : MI) (L : ML) (G : MG) (a0 : Int32) (hG : SGC ns G) (hI : INV I) : Met l yX9_count (wd yX9_count cX9_count 2 (some .int)) ({ frames := 3, cells := 0, slots := 0, locals := 65 }) (va_Pc [.ref (ad (0)), .int a0] (PM D A ad ns I L G)) (va_Qi (fun r u => u = (ad, ns, I, L, G) ∧ (CNX (0 < (I 100 0).toInt) (cF 100 I) a0 r (I 0 14) (I 0 15))) (BM D A) A) 0 0 A := by
  refine m_ofW (by decide) (Nat.le_of_ble_eq_true rfl) ?_
  intro p e s m below meth c ls args hC hE hM hA hS hl
  obtain ⟨hx, hb, hml, hown, hts, hr, hlocks, hin⟩ := hC
  have km1 : (-1 : Int32).toInt = -1 := by decide
  have k0 : (0 : Int32).toInt = 0 := by decide
  have k8 : (8 : Int32).toInt = 8 := by decide
  have k9 : (9 : Int32).toInt = 9 := by decide
  have hl : lv_has ls 2 [(0, .ref (ad (0))), (1, .int (a0))] := hl
  refine lv_iload_n hx hb dX9_count_0 rfl (lv_at hl 1 rfl) ?_
  refine lv_bipush (v := (8)) hx hb dX9_count_1 (by decide) ?_
  refine lv_icmp_ne (tgt := 11) hx hb dX9_count_3 (by decide) (fun c1 => ?_) (fun c1 => ?_)
  · have hc1 := c1
    have q1 := q_ne hc1
    refine lv_iload_n hx hb dX9_count_11 rfl (lv_at hl 1 rfl) ?_
    refine lv_bipush (v := (9)) hx hb dX9_count_12 (by decide) ?_
    refine lv_icmp_ne (tgt := 22) hx hb dX9_count_14 (by decide) (fun c2 => ?_) (fun c2 => ?_)
    · have hc2 := c2
      have q2 := q_ne hc2
      refine lv_aload_n hx hb dX9_count_22 rfl (lv_at hl 0 rfl) ?_
      refine m_getr (0) 0 (100) hx hb hts hown hE oc9 hM (hG.1 0 (by decide)) rfl (by decide) rfl (hG.2 (0, 0, 100) (by decide)) (by decide) tb_398 dX9_count_23 ?_
      refine m_calli (m_runV (100) (As := []) (rest := []) hx hb hml hown hts hE hM hS hA ce_X8_isBegun tb_484 (V_X8_isBegun_100 l D A ad ns I L G hG hI) rfl rfl ⟨Nat.le_of_ble_eq_true rfl, Nat.le_of_ble_eq_true rfl⟩ (hG.1 100 (by decide)) rfl rfl (by decide) rfl hl.1 rfl (Nat.le_of_ble_eq_true rfl) dX9_count_26 ⟨Nat.le_of_ble_eq_true rfl, Nat.le_of_ble_eq_true rfl⟩) hS (fun r3 u H locs hw hM hS => ?_)
      obtain ⟨rfl, xr3⟩ := hw
      have hM : Mem D A ad ns I L G H := hM
      have yr3 := bo01 xr3
      refine lv_if_eq (tgt := 40) hx hb dX9_count_29 (by decide) (fun c4 => ?_) (fun c4 => ?_)
      · have hc4 := c4
        have q4 := xr3.f hc4
        refine lv_iconst (v := (-1)) hx hb dX9_count_40 (by decide) ?_
        exact m_iret hx hb hr hlocks hM hS (Nat.le_of_ble_eq_true rfl) (Nat.le_of_ble_eq_true rfl) ⟨rfl, (Or.inr (Or.inr (Or.inr ⟨by omega, by omega, by omega, rfl⟩)))⟩ dX9_count_41
      · have hc4 := c4
        have q4 := xr3.t hc4
        refine lv_aload_n hx hb dX9_count_32 rfl (lv_at hl 0 rfl) ?_
        refine lv_iload_n hx hb dX9_count_33 rfl (lv_at hl 1 rfl) ?_
        refine m_calli (m_runV (0) (As := [.int (a0)]) (rest := []) hx hb hml hown hts hE hM hS hA ce_X9_countOfTown tb_1160 (V_X9_countOfTown_y l D A ad ns I L G (a0) hG hI) rfl rfl ⟨Nat.le_of_ble_eq_true rfl, Nat.le_of_ble_eq_true rfl⟩ (hG.1 0 (by decide)) rfl rfl (by decide) rfl hl.1 rfl (Nat.le_of_ble_eq_true rfl) dX9_count_34 ⟨Nat.le_of_ble_eq_true rfl, Nat.le_of_ble_eq_true rfl⟩) hS (fun r5 u H locs hw hM hS => ?_)
        obtain ⟨rfl, xr5⟩ := hw
        have hM : Mem D A ad ns I L G H := hM
        refine lv_goto (tgt := 41) hx hb dX9_count_37 (by decide) ?_
        exact m_iret hx hb hr hlocks hM hS (Nat.le_of_ble_eq_true rfl) (Nat.le_of_ble_eq_true rfl) ⟨rfl, (by rcases xr5 with ⟨h1, h2⟩ | ⟨h1, h2⟩; exact Or.inr (Or.inr (Or.inl ⟨⟨by omega, h1⟩, h2⟩)); exact Or.inr (Or.inr (Or.inr ⟨fun zz => h1 zz.2, by omega, by omega, h2⟩)))⟩ dX9_count_41
    · have hc2 := c2
      have q2 := q_eq hc2
      refine lv_aload_n hx hb dX9_count_17 rfl (lv_at hl 0 rfl) ?_
      refine m_geti (0) 15 hx hb hts hown hE oc9 hM (hG.1 0 (by decide)) rfl (by decide) rfl tb_413 dX9_count_18 ?_
      have g6 := hI.get (0) 15 (lo := 0) (hi := 400) rfl
      exact m_iret hx hb hr hlocks hM hS (Nat.le_of_ble_eq_true rfl) (Nat.le_of_ble_eq_true rfl) ⟨rfl, (Or.inr (Or.inl ⟨by omega, rfl⟩))⟩ dX9_count_21
  · have hc1 := c1
    have q1 := q_eq hc1
    refine lv_aload_n hx hb dX9_count_6 rfl (lv_at hl 0 rfl) ?_
    refine m_geti (0) 14 hx hb hts hown hE oc9 hM (hG.1 0 (by decide)) rfl (by decide) rfl tb_412 dX9_count_7 ?_
    have g7 := hI.get (0) 14 (lo := 0) (hi := 6) rfl
    exact m_iret hx hb hr hlocks hM hS (Nat.le_of_ble_eq_true rfl) (Nat.le_of_ble_eq_true rfl) ⟨rfl, (Or.inl ⟨by omega, rfl⟩)⟩ dX9_count_10
