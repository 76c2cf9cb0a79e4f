set_option maxHeartbeats 4000000 in
set_option maxRecDepth 20000 in
theorem V_X9_sees_a (l : Launch) (D : va_G) (A : Nat → Prop) (ad : Nat → Nat) (ns : List Nat) (I : MI) (L : ML) (G : MG) (a0 : Int32) (a1 : Int32) (hG : SGC ns G) (hI : INV I) (hOK : OKW (cF 100 I)) (hYL : 0 < (I 100 0).toInt → YLY 100 I) (h8 : (I 10 8).toInt = 0) : Met l yX9_sees (wd yX9_sees cX9_sees 6 (some .int)) ({ frames := 4, cells := 0, slots := 0, locals := 107 }) (va_Pc [.ref (ad (0)), .int a0, .int a1] (PM D A ad ns I L G)) (va_Qi (fun r u => ∃ I2 L2, u = (ad, ns, I2, L2, G) ∧ INV I2 ∧ Kp [(4, 5), (11, 15), (107, 108)] [(10, 2), (10, 3), (10, 4), (10, 5), (10, 6), (10, 7), (10, 11), (10, 12)] I I2 ∧ (ANW (okL (cF 100 I) a0 ∧ 0 ≤ a1.toInt ∧ a1.toInt < ((cF 100 I) 1 8).toInt) r (seV (cF 100 I) a0 (a1).toNatClampNeg) (-1) ∧ KV 100 I I2)) (BM D A) A) 0 0 A := by
  refine m_ofW (by decide) (Nat.le_of_ble_eq_true rfl) ?_
  intro p e s m below meth c ls args hC hE hM hA hS hl
  obtain ⟨hx, hb, hml, hown, hts, hr, hlocks, hin⟩ := hC
  have km1 : (-1 : Int32).toInt = -1 := by decide
  have k0 : (0 : Int32).toInt = 0 := by decide
  have k1 : (1 : Int32).toInt = 1 := by decide
  have k2 : (2 : Int32).toInt = 2 := by decide
  have k8 : (8 : Int32).toInt = 8 := by decide
  have hK : Kp [(4, 5), (11, 15), (107, 108)] [(10, 2), (10, 3), (10, 4), (10, 5), (10, 6), (10, 7), (10, 11), (10, 12)] I I := Kp.rf
  have hl : lv_has ls 6 [(0, .ref (ad (0))), (1, .int (a0)), (2, .int (a1))] := hl
  refine lv_aload_n hx hb dX9_sees_0 rfl (lv_at hl 0 rfl) ?_
  refine m_getr (0) 0 (100) hx hb hts hown hE oc9 hM (hG.1 0 (by decide)) rfl (by decide) rfl (hG.2 (0, 0, 100) (by decide)) (by decide) tb_398 dX9_sees_1 ?_
  refine lv_iload_n hx hb dX9_sees_4 rfl (lv_at hl 1 rfl) ?_
  refine m_calli (m_runV (100) (As := [.int (a0)]) (rest := []) hx hb hml hown hts hE hM hS hA ce_X8_isLit tb_906 (V_X8_isLit_100 l D A ad ns I L G (a0) hG hI) rfl rfl ⟨Nat.le_of_ble_eq_true rfl, Nat.le_of_ble_eq_true rfl⟩ (hG.1 100 (by decide)) rfl rfl (by decide) rfl hl.1 rfl (Nat.le_of_ble_eq_true rfl) dX9_sees_5 ⟨Nat.le_of_ble_eq_true rfl, Nat.le_of_ble_eq_true rfl⟩) hS (fun r1 u H locs hw hM hS => ?_)
  obtain ⟨rfl, xr1⟩ := hw
  have hM : Mem D A ad ns I L G H := hM
  have yr1 := bo01 xr1
  refine lv_if_eq (tgt := 22) hx hb dX9_sees_8 (by decide) (fun c2 => ?_) (fun c2 => ?_)
  · have hc2 := c2
    have q2 := xr1.f hc2
    have hnoL : ¬ okL (cF 100 I) a0 := fun zz => q2 ⟨sc0_pos zz.1, zz.2.1, by have z2 := zz.2.2; rw [wy_C] at z2; exact z2⟩
    refine lv_iconst (v := (-1)) hx hb dX9_sees_22 (by decide) ?_
    exact m_iret hx hb hr hlocks hM hS (Nat.le_of_ble_eq_true rfl) (Nat.le_of_ble_eq_true rfl) ⟨_, _, rfl, hI, hK, ⟨Or.inr ⟨fun zz => hnoL zz.1, rfl⟩, EqV.rf⟩⟩ dX9_sees_23
  · have hc2 := c2
    have q2 := xr1.t hc2
    have lh2 := q2.2.1
    have hlitS : Lit 100 I a0 := q2.2
    have hbgS : 0 < (I 100 0).toInt := q2.1
    have hokL : okL (cF 100 I) a0 := ⟨by show (if 0 < (I 100 0).toInt then (1 : Int32) else 0).toInt = 1; rw [if_pos hbgS]; decide, hlitS.1, by rw [wy_C]; exact hlitS.2⟩
    refine lv_aload_n hx hb dX9_sees_11 rfl (lv_at hl 0 rfl) ?_
    refine m_getr (0) 0 (100) hx hb hts hown hE oc9 hM (hG.1 0 (by decide)) rfl (by decide) rfl (hG.2 (0, 0, 100) (by decide)) (by decide) tb_398 dX9_sees_12 ?_
    refine lv_iload_n hx hb dX9_sees_15 rfl (lv_at hl 2 rfl) ?_
    refine m_calli (m_runV (100) (As := [.int (a1)]) (rest := []) hx hb hml hown hts hE hM hS hA ce_X8_hasMirror tb_508 (V_X8_hasMirror_100 l D A ad ns I L G (a1) hG hI) rfl rfl ⟨Nat.le_of_ble_eq_true rfl, Nat.le_of_ble_eq_true rfl⟩ (hG.1 100 (by decide)) rfl rfl (by decide) rfl hl.1 rfl (Nat.le_of_ble_eq_true rfl) dX9_sees_16 ⟨Nat.le_of_ble_eq_true rfl, Nat.le_of_ble_eq_true rfl⟩) hS (fun r3 u H locs hw hM hS => ?_)
    obtain ⟨rfl, xr3⟩ := hw
    have hM : Mem D A ad ns I L G H := hM
    have yr3 := bo01 xr3
    have g4 := hI.get 100 8 (lo := 0) (hi := 24) rfl
    refine lv_if_ne (tgt := 24) hx hb dX9_sees_19 (by decide) (fun c5 => ?_) (fun c5 => ?_)
    · have hc5 := c5
      have q5 := xr3.t hc5
      refine lv_aload_n hx hb dX9_sees_24 rfl (lv_at hl 0 rfl) ?_
      refine m_getr (0) 3 (10) hx hb hts hown hE oc9 hM (hG.1 0 (by decide)) rfl (by decide) rfl (hG.2 (0, 3, 10) (by decide)) (by decide) tb_401 dX9_sees_25 ?_
      refine lv_aload_n hx hb dX9_sees_28 rfl (lv_at hl 0 rfl) ?_
      refine m_getr (0) 0 (100) hx hb hts hown hE oc9 hM (hG.1 0 (by decide)) rfl (by decide) rfl (hG.2 (0, 0, 100) (by decide)) (by decide) tb_398 dX9_sees_29 ?_
      refine lv_iload_n hx hb dX9_sees_32 rfl (lv_at hl 1 rfl) ?_
      have hIA := hI
      have hyA : YLY 100 I := (hYL hbgS).r8 (hK.getA 104 rfl) (hK.getA 108 rfl) (hK.get 100 9 rfl) hOK.n9
      have h8A : (I 10 8).toInt = 0 := by rw [hK.get 10 8 rfl]; exact h8
      have hvA : EqV (cF 100 I) (cF 100 I) := EqV.rf
      refine m_callv (m_runV (10) (As := [.ref (ad (100)), .int (a0)]) (rest := []) hx hb hml hown hts hE hM hS hA ce_X1_shine tb_907 (V_X1_shine_100_l l D A ad ns I L G (a0) hG hI (hlitS.kp hK rfl) (by first | omega | decide)) rfl rfl ⟨Nat.le_of_ble_eq_true rfl, Nat.le_of_ble_eq_true rfl⟩ (hG.1 10 (by decide)) rfl rfl (by decide) rfl hl.1 rfl (Nat.le_of_ble_eq_true rfl) dX9_sees_33 ⟨Nat.le_of_ble_eq_true rfl, Nat.le_of_ble_eq_true rfl⟩) hS (fun u H locs hw hM hS => ?_)
      obtain ⟨I6, L7, rfl, hI, hkI6, xI6⟩ := hw
      have hM : Mem D A ad ns I6 L7 G H := hM
      have hK := hK.trans hkI6 rfl
      obtain ⟨SA, hSA, hTA⟩ := SHE.sh xI6 (fun zz => absurd zz (by rw [h8A]; decide)) hyA (twC_ok hIA rfl rfl (fun _ => rfl) (fun _ => rfl)) (hIA.get 100 2 (lo := 0) (hi := 23) rfl) (hIA.get 100 3 (lo := 0) (hi := 23) rfl)
      have hUA := (shV_eq ((OKW.C hIA).eq hvA.sy) hvA hlitS.1).symm.trans hTA
      refine lv_aload_n hx hb dX9_sees_36 rfl (lv_at hl 0 rfl) ?_
      refine m_getr (0) 3 (10) hx hb hts hown hE oc9 hM (hG.1 0 (by decide)) rfl (by decide) rfl (hG.2 (0, 3, 10) (by decide)) (by decide) tb_401 dX9_sees_37 ?_
      refine m_getr (10) 0 (11) hx hb hts hown hE oc1 hM (hG.1 10 (by decide)) rfl (by decide) rfl (hG.2 (10, 0, 11) (by decide)) (by decide) tb_133 dX9_sees_40 ?_
      refine lv_iconst (v := (0)) hx hb dX9_sees_43 (by decide) ?_
      refine lv_aload_n hx hb dX9_sees_44 rfl (lv_at hl 0 rfl) ?_
      refine m_getr (0) 12 (4) hx hb hts hown hE oc9 hM (hG.1 0 (by decide)) rfl (by decide) rfl (hG.2 (0, 12, 4) (by decide)) (by decide) tb_410 dX9_sees_45 ?_
      refine lv_iconst (v := (0)) hx hb dX9_sees_48 (by decide) ?_
      refine lv_bipush (v := (8)) hx hb dX9_sees_49 (by decide) ?_
      refine m_copyi (11) (4) hx hb (hml.trans hl.1.symm) hown hE hM hS (hG.1 11 (by decide)) rfl (hG.1 4 (by decide)) rfl (hts _ tb_930) (hts _ tb_568) (hts _ tb_567) (hts _ tb_13) ⟨⟨by decide, by decide, by decide⟩, by decide, by decide⟩ (Nat.le_of_ble_eq_true rfl) (Nat.le_of_ble_eq_true rfl) dX9_sees_51 (fun H locs I8 eI8 hM hS => ?_)
      have hI : INV I8 := by rw [eI8]; exact hI.cpy (by intro i hi; left; rfl)
      have hK : Kp [(4, 5), (11, 15), (107, 108)] [(10, 2), (10, 3), (10, 4), (10, 5), (10, 6), (10, 7), (10, 11), (10, 12)] I I8 := by rw [eI8]; exact hK.cpy rfl
      have hkI8 : Kp [(4, 5)] [] I6 I8 := by rw [eI8]; exact Kp.rf.cpy rfl
      have hcpA : ∀ k : Nat, k < 8 → I8 4 k = SA.got k := fun k hk => by rw [eI8, cpy_at (by decide) hk]; exact hSA.1 k hk
      refine lv_aload_n hx hb dX9_sees_54 rfl (lv_at hl 0 rfl) ?_
      refine m_getr (0) 0 (100) hx hb hts hown hE oc9 hM (hG.1 0 (by decide)) rfl (by decide) rfl (hG.2 (0, 0, 100) (by decide)) (by decide) tb_398 dX9_sees_55 ?_
      refine lv_iload_n hx hb dX9_sees_58 rfl (lv_at hl 2 rfl) ?_
      refine lv_iconst (v := (2)) hx hb dX9_sees_59 (by decide) ?_
      refine m_calli (m_runV (100) (As := [.int (a1), .int (2)]) (rest := []) hx hb hml hown hts hE hM hS hA ce_X8_ofMirror tb_516 (V_X8_ofMirror_100_t l D A ad ns I8 L7 G (a1) (2) hG hI (by first | omega | decide) (by first | omega | decide)) rfl rfl ⟨Nat.le_of_ble_eq_true rfl, Nat.le_of_ble_eq_true rfl⟩ (hG.1 100 (by decide)) rfl rfl (by decide) rfl hl.1 rfl (Nat.le_of_ble_eq_true rfl) dX9_sees_60 ⟨Nat.le_of_ble_eq_true rfl, Nat.le_of_ble_eq_true rfl⟩) hS (fun r9 u H locs hw hM hS => ?_)
      obtain ⟨rfl, xr9⟩ := hw
      have hM : Mem D A ad ns I8 L7 G H := hM
      have hof : r9 = cF 100 I (7 + (2 : Int32).toNatClampNeg) (a1).toNatClampNeg := xr9.trans (congrFun (((hkI8.getA 107 rfl)).trans (hkI6.getA 107 rfl)) _)
      refine lv_istore_n (lv' := [(3, .int (r9)), (0, .ref (ad (0))), (1, .int (a0)), (2, .int (a1))]) hx hb dX9_sees_63 rfl hl (by decide) rfl (fun ls hl => ?_)
      refine lv_aload_n hx hb dX9_sees_64 rfl (lv_at hl 1 rfl) ?_
      refine m_getr (0) 0 (100) hx hb hts hown hE oc9 hM (hG.1 0 (by decide)) rfl (by decide) rfl (hG.2 (0, 0, 100) (by decide)) (by decide) tb_398 dX9_sees_65 ?_
      refine lv_iload_n hx hb dX9_sees_68 rfl (lv_at hl 3 rfl) ?_
      refine lv_iconst (v := (2)) hx hb dX9_sees_69 (by decide) ?_
      refine lv_iload_n hx hb dX9_sees_70 rfl (lv_at hl 0 rfl) ?_
      refine lv_iconst (v := (1)) hx hb dX9_sees_71 (by decide) ?_
      refine lv_iadd hx hb dX9_sees_72 ?_
      refine lv_topi (fun v10 ev10 => ?_)
      refine lv_bipush (v := (8)) hx hb dX9_sees_73 (by decide) ?_
      refine lv_irem hx hb dX9_sees_75 (by decide) ?_
      refine lv_topi (fun v11 ev11 => ?_)
      refine m_callv (m_runV (100) (As := [.int (a1), .int (2), .int (v11)]) (rest := []) hx hb hml hown hts hE hM hS hA ce_X8_setMirror tb_503 (V_X8_setMirror_100_t l D A ad ns I8 L7 G (a1) (2) (v11) hG hI (by first | omega | decide) (by first | omega | decide)) rfl rfl ⟨Nat.le_of_ble_eq_true rfl, Nat.le_of_ble_eq_true rfl⟩ (hG.1 100 (by decide)) rfl rfl (by decide) rfl hl.1 rfl (Nat.le_of_ble_eq_true rfl) dX9_sees_76 ⟨Nat.le_of_ble_eq_true rfl, Nat.le_of_ble_eq_true rfl⟩) hS (fun u H locs hw hM hS => ?_)
      obtain ⟨I12, L13, rfl, hI, hkI12, xI12⟩ := hw
      have hM : Mem D A ad ns I12 L13 G H := hM
      have hK := hK.trans hkI12 rfl
      have hw1 : v11 = w1 (cF 100 I 9 (a1).toNatClampNeg) := by rw [ev11, ev10, hof]; rfl
      refine lv_aload_n hx hb dX9_sees_79 rfl (lv_at hl 1 rfl) ?_
      refine m_getr (0) 3 (10) hx hb hts hown hE oc9 hM (hG.1 0 (by decide)) rfl (by decide) rfl (hG.2 (0, 3, 10) (by decide)) (by decide) tb_401 dX9_sees_80 ?_
      refine lv_aload_n hx hb dX9_sees_83 rfl (lv_at hl 1 rfl) ?_
      refine m_getr (0) 0 (100) hx hb hts hown hE oc9 hM (hG.1 0 (by decide)) rfl (by decide) rfl (hG.2 (0, 0, 100) (by decide)) (by decide) tb_398 dX9_sees_84 ?_
      refine lv_iload_n hx hb dX9_sees_87 rfl (lv_at hl 2 rfl) ?_
      have hIB := hI
      have hyB : YLY 100 I12 := (hYL hbgS).r8 (hK.getA 104 rfl) (hK.getA 108 rfl) (hK.get 100 9 rfl) hOK.n9
      have h8B : (I12 10 8).toInt = 0 := by rw [hK.get 10 8 rfl]; exact h8
      have hvB : EqV (stV (cF 100 I) (7 + (2 : Int32).toNatClampNeg) (a1).toNatClampNeg (v11)) (cF 100 I12) := (((EqV.rf.nk hkI6 rfl).nk hkI8 rfl).st xI12)
      refine m_callv (m_runV (10) (As := [.ref (ad (100)), .int (a0)]) (rest := []) hx hb hml hown hts hE hM hS hA ce_X1_shine tb_907 (V_X1_shine_100_l l D A ad ns I12 L13 G (a0) hG hI (hlitS.kp hK rfl) (by first | omega | decide)) rfl rfl ⟨Nat.le_of_ble_eq_true rfl, Nat.le_of_ble_eq_true rfl⟩ (hG.1 10 (by decide)) rfl rfl (by decide) rfl hl.1 rfl (Nat.le_of_ble_eq_true rfl) dX9_sees_88 ⟨Nat.le_of_ble_eq_true rfl, Nat.le_of_ble_eq_true rfl⟩) hS (fun u H locs hw hM hS => ?_)
      obtain ⟨I14, L15, rfl, hI, hkI14, xI14⟩ := hw
      have hM : Mem D A ad ns I14 L15 G H := hM
      have hK := hK.trans hkI14 rfl
      obtain ⟨SB, hSB, hTB⟩ := SHE.sh xI14 (fun zz => absurd zz (by rw [h8B]; decide)) hyB (twC_ok hIB rfl rfl (fun _ => rfl) (fun _ => rfl)) (hIB.get 100 2 (lo := 0) (hi := 23) rfl) (hIB.get 100 3 (lo := 0) (hi := 23) rfl)
      have hUB := (shV_eq ((OKW.C hIB).eq hvB.sy) hvB hlitS.1).symm.trans hTB
      refine lv_aload_n hx hb dX9_sees_91 rfl (lv_at hl 1 rfl) ?_
      refine m_getr (0) 0 (100) hx hb hts hown hE oc9 hM (hG.1 0 (by decide)) rfl (by decide) rfl (hG.2 (0, 0, 100) (by decide)) (by decide) tb_398 dX9_sees_92 ?_
      refine lv_iload_n hx hb dX9_sees_95 rfl (lv_at hl 3 rfl) ?_
      refine lv_iconst (v := (2)) hx hb dX9_sees_96 (by decide) ?_
      refine lv_iload_n hx hb dX9_sees_97 rfl (lv_at hl 0 rfl) ?_
      refine m_callv (m_runV (100) (As := [.int (a1), .int (2), .int (r9)]) (rest := []) hx hb hml hown hts hE hM hS hA ce_X8_setMirror tb_503 (V_X8_setMirror_100_t l D A ad ns I14 L15 G (a1) (2) (r9) hG hI (by first | omega | decide) (by first | omega | decide)) rfl rfl ⟨Nat.le_of_ble_eq_true rfl, Nat.le_of_ble_eq_true rfl⟩ (hG.1 100 (by decide)) rfl rfl (by decide) rfl hl.1 rfl (Nat.le_of_ble_eq_true rfl) dX9_sees_98 ⟨Nat.le_of_ble_eq_true rfl, Nat.le_of_ble_eq_true rfl⟩) hS (fun u H locs hw hM hS => ?_)
      obtain ⟨I16, L17, rfl, hI, hkI16, xI16⟩ := hw
      have hM : Mem D A ad ns I16 L17 G H := hM
      have hK := hK.trans hkI16 rfl
      refine lv_iconst (v := (0)) hx hb dX9_sees_101 (by decide) ?_
      refine lv_istore (lv' := [(4, .int (0)), (3, .int (r9)), (0, .ref (ad (0))), (1, .int (a0)), (2, .int (a1))]) hx hb dX9_sees_102 hl (by decide) rfl (fun ls hl => ?_)
      refine lv_iconst (v := (0)) hx hb dX9_sees_104 (by decide) ?_
      refine lv_istore (lv' := [(5, .int (0)), (4, .int (0)), (3, .int (r9)), (0, .ref (ad (0))), (1, .int (a0)), (2, .int (a1))]) hx hb dX9_sees_105 hl (by decide) rfl (fun ls hl => ?_)
      have loop107 : ∀ (n : Nat) (x5_107 : Int32) (x4_107 : Int32) (Ia107 : MI) (La107 : ML) (H : Heap) (locs : List Loc) (ls : Array Slot), INV Ia107 → Kp [(4, 5), (11, 15), (107, 108)] [(10, 2), (10, 3), (10, 4), (10, 5), (10, 6), (10, 7), (10, 11), (10, 12)] I Ia107 → (0 ≤ x5_107.toInt ∧ x5_107.toInt ≤ 8) → (∀ k : Nat, k < 8 → Ia107 11 k = SB.got k) → (∀ k : Nat, k < 8 → Ia107 4 k = SA.got k) → (x4_107 = seS SB.got SA.got (x5_107).toNatClampNeg) → (EqV (cF 100 I) (cF 100 Ia107)) → (8 - x5_107.toInt).toNat < n → Mem D A ad ns Ia107 La107 G H → va_S A s.heap H locs → lv_has ls 6 [(5, .int (x5_107)), (4, .int (x4_107)), (3, .int (r9)), (0, .ref (ad (0))), (1, .int (a0)), (2, .int (a1))] → W p l e ({ frames := 4, cells := 0, slots := 0, locals := 107 } : Room) s m args below meth c H locs 0 0 (MQ below (va_Qi (fun r u => ∃ I2 L2, u = (ad, ns, I2, L2, G) ∧ INV I2 ∧ Kp [(4, 5), (11, 15), (107, 108)] [(10, 2), (10, 3), (10, 4), (10, 5), (10, 6), (10, 7), (10, 11), (10, 12)] I I2 ∧ (ANW (okL (cF 100 I) a0 ∧ 0 ≤ a1.toInt ∧ a1.toInt < ((cF 100 I) 1 8).toInt) r (seV (cF 100 I) a0 (a1).toNatClampNeg) (-1) ∧ KV 100 I I2)) (BM D A) A) args s 0 0 A) (F0 m 107 ls []) := by
        intro n
        induction n with
        | zero =>
          intro x5_107 x4_107 Ia107 La107 H locs ls hI hK hr5_107 hg107 hb107 hs107 hv107 hmu
          exact absurd hmu (Nat.not_lt_zero _)
        | succ n ih107 =>
          intro x5_107 x4_107 Ia107 La107 H locs ls hI hK hr5_107 hg107 hb107 hs107 hv107 hmu107 hM hS hl
          refine lv_iload hx hb dX9_sees_107 (lv_at hl 0 rfl) ?_
          refine lv_bipush (v := (8)) hx hb dX9_sees_109 (by decide) ?_
          refine lv_icmp_ge (tgt := 149) hx hb dX9_sees_111 (by decide) (fun c18 => ?_) (fun c18 => ?_)
          · have hc18 := c18
            have q18 := q_le hc18
            refine lv_iload hx hb dX9_sees_149 (lv_at hl 1 rfl) ?_
            exact m_iret hx hb hr hlocks hM hS (Nat.le_of_ble_eq_true rfl) (Nat.le_of_ble_eq_true rfl) ⟨_, _, rfl, hI, hK, ⟨Or.inl ⟨⟨hokL, by show 0 ≤ _ ∧ _ < (I 100 8).toInt; omega⟩, by have z := tn (i := x5_107) (by omega); rw [hs107, show (x5_107).toNatClampNeg = 8 from by omega]; exact seeV hUA hUB hw1⟩, hv107⟩⟩ dX9_sees_151
          · have hc18 := c18
            have q18 := q_nle hc18
            refine lv_aload_n hx hb dX9_sees_114 rfl (lv_at hl 3 rfl) ?_
            refine m_getr (0) 3 (10) hx hb hts hown hE oc9 hM (hG.1 0 (by decide)) rfl (by decide) rfl (hG.2 (0, 3, 10) (by decide)) (by decide) tb_401 dX9_sees_115 ?_
            refine m_getr (10) 0 (11) hx hb hts hown hE oc1 hM (hG.1 10 (by decide)) rfl (by decide) rfl (hG.2 (10, 0, 11) (by decide)) (by decide) tb_133 dX9_sees_118 ?_
            refine lv_iload hx hb dX9_sees_121 (lv_at hl 0 rfl) ?_
            refine m_iald (11) hx hb hE hM (hG.1 11 (by decide)) rfl (vp_in_iff.mpr (by omega)) dX9_sees_123 ?_
            refine lv_aload_n hx hb dX9_sees_124 rfl (lv_at hl 3 rfl) ?_
            refine m_getr (0) 12 (4) hx hb hts hown hE oc9 hM (hG.1 0 (by decide)) rfl (by decide) rfl (hG.2 (0, 12, 4) (by decide)) (by decide) tb_410 dX9_sees_125 ?_
            refine lv_iload hx hb dX9_sees_128 (lv_at hl 0 rfl) ?_
            refine m_iald (4) hx hb hE hM (hG.1 4 (by decide)) rfl (vp_in_iff.mpr (by omega)) dX9_sees_130 ?_
            refine lv_icmp_eq (tgt := 143) hx hb dX9_sees_131 (by decide) (fun c19 => ?_) (fun c19 => ?_)
            · have hc19 := c19
              have q19 := q_eq hc19
              obtain ⟨v20, ev20⟩ : ∃ z : Int32, z = x5_107 + Int32.ofInt (1) := ⟨_, rfl⟩
              have tv20 := a_inc ev20 (by decide) (by omega) (by omega)
              refine lv_iinc (v := v20) (lv' := [(5, .int (v20)), (4, .int (x4_107)), (3, .int (r9)), (0, .ref (ad (0))), (1, .int (a0)), (2, .int (a1))]) hx hb dX9_sees_143 hl (k := 0) rfl ev20.symm (by decide) rfl (fun ls hl => ?_)
              refine lv_goto (tgt := 107) hx hb dX9_sees_146 (by decide) ?_
              exact ih107 (v20) (x4_107) Ia107 La107 _ _ ls hI hK (by first | omega | decide) hg107 hb107 (by rw [show (v20).toNatClampNeg = (x5_107).toNatClampNeg + 1 from (by have z1 := tn (i := x5_107) (by omega); have z2 := tn (i := v20) (by omega); omega)]; exact hs107.trans (seS_n (Int32.toInt_inj.mp (q_eq c19)) (hg107 _ (by have z1 := tn (i := x5_107) (by omega); omega)) (hb107 _ (by have z1 := tn (i := x5_107) (by omega); omega))).symm) hv107 (by omega) hM hS (lv_sub hl [0, 1, 2, 3, 4, 5] rfl)
            · have hc19 := c19
              have q19 := q_ne hc19
              refine lv_iload hx hb dX9_sees_134 (lv_at hl 1 rfl) ?_
              refine lv_iconst (v := (1)) hx hb dX9_sees_136 (by decide) ?_
              refine lv_iload hx hb dX9_sees_137 (lv_at hl 0 rfl) ?_
              refine lv_ishl hx hb dX9_sees_139 ?_
              refine lv_topi (fun v21 ev21 => ?_)
              refine lv_ior hx hb dX9_sees_140 ?_
              refine lv_topi (fun v22 ev22 => ?_)
              refine lv_istore (lv' := [(4, .int (v22)), (5, .int (x5_107)), (3, .int (r9)), (0, .ref (ad (0))), (1, .int (a0)), (2, .int (a1))]) hx hb dX9_sees_141 hl (by decide) rfl (fun ls hl => ?_)
              obtain ⟨v23, ev23⟩ : ∃ z : Int32, z = x5_107 + Int32.ofInt (1) := ⟨_, rfl⟩
              have tv23 := a_inc ev23 (by decide) (by omega) (by omega)
              refine lv_iinc (v := v23) (lv' := [(5, .int (v23)), (4, .int (v22)), (3, .int (r9)), (0, .ref (ad (0))), (1, .int (a0)), (2, .int (a1))]) hx hb dX9_sees_143 hl (k := 1) rfl ev23.symm (by decide) rfl (fun ls hl => ?_)
              refine lv_goto (tgt := 107) hx hb dX9_sees_146 (by decide) ?_
              exact ih107 (v23) (v22) Ia107 La107 _ _ ls hI hK (by first | omega | decide) hg107 hb107 (by rw [show (v23).toNatClampNeg = (x5_107).toNatClampNeg + 1 from (by have z1 := tn (i := x5_107) (by omega); have z2 := tn (i := v23) (by omega); omega)]; rw [seS_y (fun zz => q_ne c19 (congrArg Int32.toInt zz)) (hg107 _ (by have z1 := tn (i := x5_107) (by omega); omega)) (hb107 _ (by have z1 := tn (i := x5_107) (by omega); omega)) rfl (by omega), ← hs107]; subst ev10; subst ev11; subst ev21; subst ev22; rfl) hv107 (by omega) hM hS (lv_sub hl [0, 1, 2, 3, 4, 5] rfl)
      exact loop107 (_ + 1) (0) (0) I16 L17 _ _ ls hI hK (by first | omega | decide) (fun k hk => (congrFun ((hkI16.getA 11 rfl)) k).trans (hSB.1 k hk)) (fun k hk => (congrFun ((((hkI16.getA 4 rfl)).trans (hkI14.getA 4 rfl)).trans (hkI12.getA 4 rfl)) k).trans (hcpA k hk)) rfl (EqV.bk (((((EqV.rf.nk hkI6 rfl).nk hkI8 rfl).st xI12).nk hkI14 rfl).st xI16) hof) (Nat.lt_succ_self _) hM hS (lv_sub hl [0, 1, 2, 3, 4, 5] rfl)
    · have hc5 := c5
      have q5 := xr3.f hc5
      refine lv_iconst (v := (-1)) hx hb dX9_sees_22 (by decide) ?_
      exact m_iret hx hb hr hlocks hM hS (Nat.le_of_ble_eq_true rfl) (Nat.le_of_ble_eq_true rfl) ⟨_, _, rfl, hI, hK, ⟨Or.inr ⟨fun zz => (by have z2 : 0 ≤ (a1).toInt ∧ (a1).toInt < (I 100 8).toInt := zz.2; omega), rfl⟩, EqV.rf⟩⟩ dX9_sees_23
