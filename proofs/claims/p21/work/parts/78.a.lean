theorem okt_lt {T : Nat → Int} (hT : OKT T) {p : Nat} (h : T p ≠ -45) : p < 400 := by
  rcases Nat.lt_or_ge p 400 with hp | hp
  · exact hp
  · exact absurd ((hT p).1 hp) h
set_option maxHeartbeats 4000000 in
set_option maxRecDepth 20000 in
theorem V_X4_byteAt_h (l : Launch) (D : va_G) (A : Nat → Prop) (ad : Nat → Nat) (ns : List Nat) (I : MI) (L : ML) (G : MG) (a0 : Int32) (hG : SGC ns G) (hI : INV I) (ha0 : 0 ≤ a0.toInt ∧ a0.toInt ≤ 2000) : Met l yX4_byteAt (wd yX4_byteAt cX4_byteAt 2 (some .int)) ({ frames := 0, cells := 0, slots := 0, locals := 0 }) (va_Pc [.ref (ad (70)), .int a0] (PM D A ad ns I L G)) (va_Qi (fun r u => u = (ad, ns, I, L, G) ∧ (r.toInt = TC I (a0).toNatClampNeg ∧ -45 ≤ r.toInt ∧ r.toInt ≤ 255)) (BM D A) A) 0 0 A := by
  refine m_ofW (by decide) (Nat.le_of_ble_eq_true rfl) ?_
  intro p e s m below meth c ls args hC hE hM hA hS hl
  obtain ⟨hx, hb, hml, hown, hts, hr, hlocks, hin⟩ := hC
  have km45 : (-45 : Int32).toInt = -45 := by decide
  have k0 : (0 : Int32).toInt = 0 := by decide
  have k255 : (255 : Int32).toInt = 255 := by decide
  have k400 : (400 : Int32).toInt = 400 := by decide
  have hl : lv_has ls 2 [(0, .ref (ad (70))), (1, .int (a0))] := hl
  refine lv_iload_n hx hb dX4_byteAt_0 rfl (lv_at hl 1 rfl) ?_
  refine lv_if_lt (tgt := 32) hx hb dX4_byteAt_1 (by decide) (fun c1 => ?_) (fun c1 => ?_)
  · have hc1 := c1
    have q1 := q_lt hc1
    refine lv_bipush (v := (-45)) hx hb dX4_byteAt_32 (by decide) ?_
    exact m_iret hx hb hr hlocks hM hS (Nat.le_of_ble_eq_true rfl) (Nat.le_of_ble_eq_true rfl) ⟨rfl, ⟨by have z1 := tn (i := a0) (by omega); rw [km45]; exact (TXT_n (by omega)).symm, by omega, by omega⟩⟩ dX4_byteAt_34
  · have hc1 := c1
    have q1 := q_nlt hc1
    refine lv_iload_n hx hb dX4_byteAt_4 rfl (lv_at hl 1 rfl) ?_
    refine lv_aload_n hx hb dX4_byteAt_5 rfl (lv_at hl 0 rfl) ?_
    refine m_geti (70) 3 hx hb hts hown hE oc4 hM (hG.1 70 (by decide)) rfl (by decide) rfl tb_321 dX4_byteAt_6 ?_
    have g2 := hI.get (70) 3 (lo := 0) (hi := 400) rfl
    refine lv_icmp_ge (tgt := 32) hx hb dX4_byteAt_9 (by decide) (fun c3 => ?_) (fun c3 => ?_)
    · have hc3 := c3
      have q3 := q_le hc3
      refine lv_bipush (v := (-45)) hx hb dX4_byteAt_32 (by decide) ?_
      exact m_iret hx hb hr hlocks hM hS (Nat.le_of_ble_eq_true rfl) (Nat.le_of_ble_eq_true rfl) ⟨rfl, ⟨by have z1 := tn (i := a0) (by omega); rw [km45]; exact (TXT_n (by omega)).symm, by omega, by omega⟩⟩ dX4_byteAt_34
    · have hc3 := c3
      have q3 := q_nle hc3
      refine lv_iload_n hx hb dX4_byteAt_12 rfl (lv_at hl 1 rfl) ?_
      refine lv_sipush (v := (400)) hx hb dX4_byteAt_13 (by decide) ?_
      refine lv_icmp_ge (tgt := 32) hx hb dX4_byteAt_16 (by decide) (fun c4 => ?_) (fun c4 => ?_)
      · have hc4 := c4
        have q4 := q_le hc4
        refine lv_bipush (v := (-45)) hx hb dX4_byteAt_32 (by decide) ?_
        exact m_iret hx hb hr hlocks hM hS (Nat.le_of_ble_eq_true rfl) (Nat.le_of_ble_eq_true rfl) ⟨rfl, ⟨by have z1 := tn (i := a0) (by omega); rw [km45]; exact (TXT_n (by omega)).symm, by omega, by omega⟩⟩ dX4_byteAt_34
      · have hc4 := c4
        have q4 := q_nle hc4
        refine lv_aload_n hx hb dX4_byteAt_19 rfl (lv_at hl 0 rfl) ?_
        refine m_getr (70) 0 (71) hx hb hts hown hE oc4 hM (hG.1 70 (by decide)) rfl (by decide) rfl (hG.2 (70, 0, 71) (by decide)) (by decide) tb_318 dX4_byteAt_20 ?_
        refine lv_iload_n hx hb dX4_byteAt_23 rfl (lv_at hl 1 rfl) ?_
        refine m_bald (71) hx hb hE hM (hG.1 71 (by decide)) rfl (vp_in_iff.mpr (by omega)) dX4_byteAt_24 ?_
        have g5 := hI.get (71) ((a0).toNatClampNeg) (lo := -128) (hi := 127) rfl
        refine lv_sipush (v := (255)) hx hb dX4_byteAt_25 (by decide) ?_
        refine lv_iand hx hb dX4_byteAt_28 ?_
        refine lv_topi (fun v6 ev6 => ?_)
        have tv6 := a_and (c := 255) ev6 (by decide) (by decide)
        refine lv_goto (tgt := 34) hx hb dX4_byteAt_29 (by decide) ?_
        exact m_iret hx hb hr hlocks hM hS (Nat.le_of_ble_eq_true rfl) (Nat.le_of_ble_eq_true rfl) ⟨rfl, ⟨by have z1 := tn (i := a0) (by omega); rw [ev6]; exact (TXT_y (by omega)).symm, by omega, by omega⟩⟩ dX4_byteAt_34
set_option maxHeartbeats 4000000 in
set_option maxRecDepth 20000 in
theorem V_X4_yardHere_h (l : Launch) (D : va_G) (A : Nat → Prop) (ad : Nat → Nat) (ns : List Nat) (I : MI) (L : ML) (G : MG) (hG : SGC ns G) (hI : INV I) : Met l yX4_yardHere (wd yX4_yardHere cX4_yardHere 2 (some .int)) ({ frames := 1, cells := 0, slots := 0, locals := 21 }) (va_Pc [.ref (ad (70))] (PM D A ad ns I L G)) (va_Qi (fun r u => u = (ad, ns, I, L, G) ∧ (YDX (TC I (I 70 4).toNatClampNeg) r)) (BM D A) A) 0 0 A := by
  refine m_ofW (by decide) (Nat.le_of_ble_eq_true rfl) ?_
  intro p e s m below meth c ls args hC hE hM hA hS hl
  obtain ⟨hx, hb, hml, hown, hts, hr, hlocks, hin⟩ := hC
  have km47 : (-47 : Int32).toInt = -47 := by decide
  have km6 : (-6 : Int32).toInt = -6 := by decide
  have k0 : (0 : Int32).toInt = 0 := by decide
  have k8 : (8 : Int32).toInt = 8 := by decide
  have k97 : (97 : Int32).toInt = 97 := by decide
  have hl : lv_has ls 2 [(0, .ref (ad (70)))] := hl
  refine lv_aload_n hx hb dX4_yardHere_0 rfl (lv_at hl 0 rfl) ?_
  refine lv_aload_n hx hb dX4_yardHere_1 rfl (lv_at hl 0 rfl) ?_
  refine m_geti (70) 4 hx hb hts hown hE oc4 hM (hG.1 70 (by decide)) rfl (by decide) rfl tb_322 dX4_yardHere_2 ?_
  have g1 := hI.get (70) 4 (lo := 0) (hi := 801) rfl
  refine m_calli (m_runV (70) (As := [.int (I (70) 4)]) (rest := []) hx hb hml hown hts hE hM hS hA ce_X4_byteAt tb_577 (V_X4_byteAt_h l D A ad ns I L G (I (70) 4) hG hI (by first | omega | decide)) rfl rfl ⟨Nat.le_of_ble_eq_true rfl, Nat.le_of_ble_eq_true rfl⟩ (hG.1 70 (by decide)) rfl rfl (by decide) rfl hl.1 rfl (Nat.le_of_ble_eq_true rfl) dX4_yardHere_5 ⟨Nat.le_of_ble_eq_true rfl, Nat.le_of_ble_eq_true rfl⟩) hS (fun r2 u H locs hw hM hS => ?_)
  obtain ⟨rfl, xr2⟩ := hw
  have hM : Mem D A ad ns I L G H := hM
  have btr2 : (r2).toInt = TC I (I (70) 4).toNatClampNeg := xr2.1
  refine lv_bipush (v := (97)) hx hb dX4_yardHere_8 (by decide) ?_
  refine lv_isub hx hb dX4_yardHere_10 ?_
  refine lv_topi (fun v3 ev3 => ?_)
  have tv3 := a_sub ev3 (by omega) (by omega)
  refine lv_istore_n (lv' := [(1, .int (v3)), (0, .ref (ad (70)))]) hx hb dX4_yardHere_11 rfl hl (by decide) rfl (fun ls hl => ?_)
  refine lv_iload_n hx hb dX4_yardHere_12 rfl (lv_at hl 0 rfl) ?_
  refine lv_bipush (v := (8)) hx hb dX4_yardHere_13 (by decide) ?_
  refine lv_icmp_ge (tgt := 25) hx hb dX4_yardHere_15 (by decide) (fun c4 => ?_) (fun c4 => ?_)
  · have hc4 := c4
    have q4 := q_le hc4
    refine lv_bipush (v := (-47)) hx hb dX4_yardHere_25 (by decide) ?_
    exact m_iret hx hb hr hlocks hM hS (Nat.le_of_ble_eq_true rfl) (Nat.le_of_ble_eq_true rfl) ⟨rfl, (by unfold YDX; omega)⟩ dX4_yardHere_27
  · have hc4 := c4
    have q4 := q_nle hc4
    refine lv_bipush (v := (-6)) hx hb dX4_yardHere_18 (by decide) ?_
    refine lv_iload_n hx hb dX4_yardHere_20 rfl (lv_at hl 0 rfl) ?_
    refine lv_isub hx hb dX4_yardHere_21 ?_
    refine lv_topi (fun v5 ev5 => ?_)
    have tv5 := a_sub ev5 (by omega) (by omega)
    refine lv_goto (tgt := 27) hx hb dX4_yardHere_22 (by decide) ?_
    exact m_iret hx hb hr hlocks hM hS (Nat.le_of_ble_eq_true rfl) (Nat.le_of_ble_eq_true rfl) ⟨rfl, (by unfold YDX; omega)⟩ dX4_yardHere_27
set_option maxHeartbeats 4000000 in
set_option maxRecDepth 20000 in
theorem V_X4_isWord_h (l : Launch) (D : va_G) (A : Nat → Prop) (ad : Nat → Nat) (ns : List Nat) (I : MI) (L : ML) (G : MG) (i : Nat) (q : String × Nat × String × List Int32) (hG : SGC ns G) (hI : INV I) (hq : sq[i]? = some q) (hn : q.2.2.2.length < 16) : Met l yX4_isWord (wd yX4_isWord cX4_isWord 3 (some .boolean)) ({ frames := 4, cells := 0, slots := 0, locals := 85 }) (va_Pc [.ref (ad (70)), .ref (D.2 100 i)] (PM D A ad ns I L G)) (va_Qi (fun r u => u = (ad, ns, I, L, G) ∧ (Bo r ((I 70 6).toInt = (q.2.2.2.length : Int) ∧ wqa (TC I) (I 70 4).toNatClampNeg (q.2.2.2.map b8) = true))) (BM D A) A) 0 0 A := by
  refine m_ofW (by decide) (Nat.le_of_ble_eq_true rfl) ?_
  intro p e s m below meth c ls args hC hE hM hA hS hl
  obtain ⟨hx, hb, hml, hown, hts, hr, hlocks, hin⟩ := hC
  have k0 : (0 : Int32).toInt = 0 := by decide
  have k1 : (1 : Int32).toInt = 1 := by decide
  have kN : (Int32.ofNat q.2.2.2.length).toInt = q.2.2.2.length := nI_toInt (by omega)
  have hl : lv_has ls 3 [(0, .ref (ad (70))), (1, .ref (D.2 100 i))] := hl
  refine lv_aload_n hx hb dX4_isWord_0 rfl (lv_at hl 0 rfl) ?_
  refine m_geti (70) 6 hx hb hts hown hE oc4 hM (hG.1 70 (by decide)) rfl (by decide) rfl tb_324 dX4_isWord_1 ?_
  have g1 := hI.get (70) 6 (lo := 0) (hi := 401) rfl
  refine lv_aload_n hx hb dX4_isWord_4 rfl (lv_at hl 1 rfl) ?_
  refine m_calli (m_runVA (D.2 100 i) (As := []) (rest := [.int (I (70) 6)]) hx hb hml hown hts hE hM hS hA ce_J0_length_8abf5 tb_604 (C_J0_length_8abf5 l D A ad ns I L G i _ hq hn) rfl rfl ⟨Nat.le_of_ble_eq_true rfl, Nat.le_of_ble_eq_true rfl⟩ (m_strr hE hS i hq) rfl hl.1 rfl (Nat.le_of_ble_eq_true rfl) dX4_isWord_5 ⟨Nat.le_of_ble_eq_true rfl, Nat.le_of_ble_eq_true rfl⟩) hS (fun r2 u H locs hw hM hS => ?_)
  obtain ⟨rfl, rfl⟩ := hw
  have hM : Mem D A ad ns I L G H := hM
  refine lv_icmp_eq (tgt := 13) hx hb dX4_isWord_8 (by decide) (fun c3 => ?_) (fun c3 => ?_)
  · have hc3 := c3
    have q3 := q_eq hc3
    refine lv_iconst (v := (0)) hx hb dX4_isWord_13 (by decide) ?_
    refine lv_istore_n (lv' := [(2, .int (0)), (0, .ref (ad (70))), (1, .ref (D.2 100 i))]) hx hb dX4_isWord_14 rfl hl (by decide) rfl (fun ls hl => ?_)
    have loop15 : ∀ (n : Nat) (x2_15 : Int32) (H : Heap) (locs : List Loc) (ls : Array Slot), (0 ≤ x2_15.toInt ∧ x2_15.toInt ≤ 16) → (∀ i : Nat, i < (x2_15).toNatClampNeg → TC I ((I 70 4).toNatClampNeg + i) = b8 (q.2.2.2.getD i 0)) → (16 - x2_15.toInt).toNat < n → Mem D A ad ns I L G H → va_S A s.heap H locs → lv_has ls 3 [(2, .int (x2_15)), (0, .ref (ad (70))), (1, .ref (D.2 100 i))] → W p l e ({ frames := 4, cells := 0, slots := 0, locals := 85 } : Room) s m args below meth c H locs 0 0 (MQ below (va_Qi (fun r u => u = (ad, ns, I, L, G) ∧ (Bo r ((I 70 6).toInt = (q.2.2.2.length : Int) ∧ wqa (TC I) (I 70 4).toNatClampNeg (q.2.2.2.map b8) = true))) (BM D A) A) args s 0 0 A) (F0 m 15 ls []) := by
      intro n
      induction n with
      | zero =>
        intro x2_15 H locs ls hr2_15 hw15 hmu
        exact absurd hmu (Nat.not_lt_zero _)
      | succ n ih15 =>
        intro x2_15 H locs ls hr2_15 hw15 hmu15 hM hS hl
        refine lv_iload_n hx hb dX4_isWord_15 rfl (lv_at hl 0 rfl) ?_
        refine lv_aload_n hx hb dX4_isWord_16 rfl (lv_at hl 2 rfl) ?_
        refine m_calli (m_runVA (D.2 100 i) (As := []) (rest := [.int (x2_15)]) hx hb hml hown hts hE hM hS hA ce_J0_length_8abf5 tb_604 (C_J0_length_8abf5 l D A ad ns I L G i _ hq hn) rfl rfl ⟨Nat.le_of_ble_eq_true rfl, Nat.le_of_ble_eq_true rfl⟩ (m_strr hE hS i hq) rfl hl.1 rfl (Nat.le_of_ble_eq_true rfl) dX4_isWord_17 ⟨Nat.le_of_ble_eq_true rfl, Nat.le_of_ble_eq_true rfl⟩) hS (fun r4 u H locs hw hM hS => ?_)
        obtain ⟨rfl, rfl⟩ := hw
        have hM : Mem D A ad ns I L G H := hM
        refine lv_icmp_ge (tgt := 49) hx hb dX4_isWord_20 (by decide) (fun c5 => ?_) (fun c5 => ?_)
        · have hc5 := c5
          have q5 := q_le hc5
          refine lv_iconst (v := (1)) hx hb dX4_isWord_49 (by decide) ?_
          exact m_zret hx hb hr rfl hlocks hM hS (Nat.le_of_ble_eq_true rfl) (Nat.le_of_ble_eq_true rfl) ⟨rfl, (Bo.y ⟨by omega, mp_i (fun i hi => hw15 i (by have z1 := tn (i := x2_15) (by omega); omega))⟩)⟩ dX4_isWord_50
        · have hc5 := c5
          have q5 := q_nle hc5
          refine lv_aload_n hx hb dX4_isWord_23 rfl (lv_at hl 1 rfl) ?_
          refine lv_aload_n hx hb dX4_isWord_24 rfl (lv_at hl 1 rfl) ?_
          refine m_geti (70) 4 hx hb hts hown hE oc4 hM (hG.1 70 (by decide)) rfl (by decide) rfl tb_322 dX4_isWord_25 ?_
          have g6 := hI.get (70) 4 (lo := 0) (hi := 801) rfl
          refine lv_iload_n hx hb dX4_isWord_28 rfl (lv_at hl 0 rfl) ?_
          refine lv_iadd hx hb dX4_isWord_29 ?_
          refine lv_topi (fun v7 ev7 => ?_)
          have tv7 := a_add ev7 (by omega) (by omega)
          refine m_calli (m_runV (70) (As := [.int (v7)]) (rest := []) hx hb hml hown hts hE hM hS hA ce_X4_byteAt tb_577 (V_X4_byteAt_h l D A ad ns I L G (v7) hG hI (by first | omega | decide)) rfl rfl ⟨Nat.le_of_ble_eq_true rfl, Nat.le_of_ble_eq_true rfl⟩ (hG.1 70 (by decide)) rfl rfl (by decide) rfl hl.1 rfl (Nat.le_of_ble_eq_true rfl) dX4_isWord_30 ⟨Nat.le_of_ble_eq_true rfl, Nat.le_of_ble_eq_true rfl⟩) hS (fun r8 u H locs hw hM hS => ?_)
          obtain ⟨rfl, xr8⟩ := hw
          have hM : Mem D A ad ns I L G H := hM
          have btr8 : (r8).toInt = TC I (v7).toNatClampNeg := xr8.1
          have bir8 : (v7).toNatClampNeg = (I (70) 4).toNatClampNeg + (x2_15).toNatClampNeg := by have z1 := tn (i := v7) (by omega); have z2 := tn (i := I (70) 4) (by omega); have z3 := tn (i := x2_15) (by omega); omega
          rw [bir8] at btr8
          refine lv_aload_n hx hb dX4_isWord_33 rfl (lv_at hl 2 rfl) ?_
          refine lv_iload_n hx hb dX4_isWord_34 rfl (lv_at hl 0 rfl) ?_
          refine m_calli (m_runVA (D.2 100 i) (As := [.int (x2_15)]) (rest := [.int (r8)]) hx hb hml hown hts hE hM hS hA ce_J0_charAt_5068e tb_614 (C_J0_charAt_5068e l D A ad ns I L G i _ (x2_15) hq hn (by omega)) rfl rfl ⟨Nat.le_of_ble_eq_true rfl, Nat.le_of_ble_eq_true rfl⟩ (m_strr hE hS i hq) rfl hl.1 rfl (Nat.le_of_ble_eq_true rfl) dX4_isWord_35 ⟨Nat.le_of_ble_eq_true rfl, Nat.le_of_ble_eq_true rfl⟩) hS (fun r9 u H locs hw hM hS => ?_)
          obtain ⟨rfl, xr9⟩ := hw
          have hM : Mem D A ad ns I L G H := hM
          have yr9 := a_and (c := 255) xr9 (by decide) (by decide)
          refine lv_icmp_eq (tgt := 43) hx hb dX4_isWord_38 (by decide) (fun c10 => ?_) (fun c10 => ?_)
          · have hc10 := c10
            have q10 := q_eq hc10
            obtain ⟨v11, ev11⟩ : ∃ z : Int32, z = x2_15 + Int32.ofInt (1) := ⟨_, rfl⟩
            have tv11 := a_inc ev11 (by decide) (by omega) (by omega)
            refine lv_iinc (v := v11) (lv' := [(2, .int (v11)), (0, .ref (ad (70))), (1, .ref (D.2 100 i))]) hx hb dX4_isWord_43 hl (k := 0) rfl ev11.symm (by decide) rfl (fun ls hl => ?_)
            refine lv_goto (tgt := 15) hx hb dX4_isWord_46 (by decide) ?_
            exact ih15 (v11) _ _ ls (by first | omega | decide) (fun i hi => by have z1 := tn (i := x2_15) (by omega); have z2 := tn (i := v11) (by omega); by_cases hq2 : i < (x2_15).toNatClampNeg; exact hw15 i hq2; rw [show i = (x2_15).toNatClampNeg from by omega]; exact btr8.symm.trans ((congrArg Int32.toInt c10).trans (congrArg Int32.toInt xr9))) (by omega) hM hS (lv_sub hl [0, 1, 2] rfl)
          · have hc10 := c10
            have q10 := q_ne hc10
            refine lv_iconst (v := (0)) hx hb dX4_isWord_41 (by decide) ?_
            exact m_zret hx hb hr rfl hlocks hM hS (Nat.le_of_ble_eq_true rfl) (Nat.le_of_ble_eq_true rfl) ⟨rfl, (Bo.n (fun hh => q10 (btr8.trans ((mp_o hh.2 (x2_15).toNatClampNeg (by have z1 := tn (i := x2_15) (by omega); omega)).trans (congrArg Int32.toInt xr9).symm))))⟩ dX4_isWord_42
    exact loop15 (_ + 1) (0) _ _ ls (by first | omega | decide) (fun i hi => absurd hi (Nat.not_lt_zero i)) (Nat.lt_succ_self _) hM hS (lv_sub hl [0, 1, 2] rfl)
  · have hc3 := c3
    have q3 := q_ne hc3
    refine lv_iconst (v := (0)) hx hb dX4_isWord_11 (by decide) ?_
    exact m_zret hx hb hr rfl hlocks hM hS (Nat.le_of_ble_eq_true rfl) (Nat.le_of_ble_eq_true rfl) ⟨rfl, (Bo.n (fun hh => absurd hh.1 (by omega)))⟩ dX4_isWord_12
set_option maxHeartbeats 4000000 in
set_option maxRecDepth 20000 in
theorem V_X4_wordHere_h (l : Launch) (D : va_G) (A : Nat → Prop) (ad : Nat → Nat) (ns : List Nat) (I : MI) (L : ML) (G : MG) (hG : SGC ns G) (hI : INV I) (hrl : (I 70 6).toInt = (rnl ltr (TC I) (I 70 4).toNatClampNeg : Int)) : Met l yX4_wordHere (wd yX4_wordHere cX4_wordHere 1 (some .int)) ({ frames := 5, cells := 0, slots := 0, locals := 107 }) (va_Pc [.ref (ad (70))] (PM D A ad ns I L G)) (va_Qi (fun r u => u = (ad, ns, I, L, G) ∧ (r.toInt = wdv (TC I) (I 70 4).toNatClampNeg)) (BM D A) A) 0 0 A := by
  refine m_ofW (by decide) (Nat.le_of_ble_eq_true rfl) ?_
  intro p e s m below meth c ls args hC hE hM hA hS hl
  obtain ⟨hx, hb, hml, hown, hts, hr, hlocks, hin⟩ := hC
  have km47 : (-47 : Int32).toInt = -47 := by decide
  have km41 : (-41 : Int32).toInt = -41 := by decide
  have km40 : (-40 : Int32).toInt = -40 := by decide
  have km25 : (-25 : Int32).toInt = -25 := by decide
  have km24 : (-24 : Int32).toInt = -24 := by decide
  have km14 : (-14 : Int32).toInt = -14 := by decide
  have km5 : (-5 : Int32).toInt = -5 := by decide
  have km4 : (-4 : Int32).toInt = -4 := by decide
  have km3 : (-3 : Int32).toInt = -3 := by decide
  have km2 : (-2 : Int32).toInt = -2 := by decide
  have km1 : (-1 : Int32).toInt = -1 := by decide
  have k0 : (0 : Int32).toInt = 0 := by decide
  have hl : lv_has ls 1 [(0, .ref (ad (70)))] := hl
  refine lv_aload_n hx hb dX4_wordHere_0 rfl (lv_at hl 0 rfl) ?_
  refine lv_aload_n hx hb dX4_wordHere_1 rfl (lv_at hl 0 rfl) ?_
  refine m_geti (70) 4 hx hb hts hown hE oc4 hM (hG.1 70 (by decide)) rfl (by decide) rfl tb_322 dX4_wordHere_2 ?_
  have g1 := hI.get (70) 4 (lo := 0) (hi := 801) rfl
  refine m_calli (m_runV (70) (As := [.int (I (70) 4)]) (rest := []) hx hb hml hown hts hE hM hS hA ce_X4_byteAt tb_577 (V_X4_byteAt_h l D A ad ns I L G (I (70) 4) hG hI (by first | omega | decide)) rfl rfl ⟨Nat.le_of_ble_eq_true rfl, Nat.le_of_ble_eq_true rfl⟩ (hG.1 70 (by decide)) rfl rfl (by decide) rfl hl.1 rfl (Nat.le_of_ble_eq_true rfl) dX4_wordHere_5 ⟨Nat.le_of_ble_eq_true rfl, Nat.le_of_ble_eq_true rfl⟩) hS (fun r2 u H locs hw hM hS => ?_)
  obtain ⟨rfl, xr2⟩ := hw
  have hM : Mem D A ad ns I L G H := hM
  have btr2 : (r2).toInt = TC I (I (70) 4).toNatClampNeg := xr2.1
  by_cases c3 : (r2).toInt < 97 ∨ 115 < (r2).toInt
  · refine lv_tableOut (tgt := 249) hx hb dX4_wordHere_8 c3 (by decide) ?_
    refine lv_aload_n hx hb dX4_wordHere_249 rfl (lv_at hl 0 rfl) ?_
    refine va_ldcS hx hb hown (EV.str hE 9 rfl).1 dX4_wordHere_250 ?_
    refine m_calli (m_runV (70) (As := [.ref (D.2 100 9)]) (rest := []) hx hb hml hown hts hE hM hS hA ce_X4_isWord tb_600 (V_X4_isWord_h l D A ad ns I L G 9 _ hG hI rfl (by decide)) rfl rfl ⟨Nat.le_of_ble_eq_true rfl, Nat.le_of_ble_eq_true rfl⟩ (hG.1 70 (by decide)) rfl rfl (by decide) rfl hl.1 rfl (Nat.le_of_ble_eq_true rfl) dX4_wordHere_252 ⟨Nat.le_of_ble_eq_true rfl, Nat.le_of_ble_eq_true rfl⟩) hS (fun r4 u H locs hw hM hS => ?_)
    obtain ⟨rfl, xr4⟩ := hw
    have hM : Mem D A ad ns I L G H := hM
    have yr4 := bo01 xr4
    have wxr4 : Bo r4 ((I 70 6).toInt = ((4 : Nat) : Int) ∧ wqa (TC I) (I 70 4).toNatClampNeg (([116, 117, 114, 110] : List Int32).map b8) = true) := xr4
    rw [mb_turn] at wxr4
    refine lv_if_eq (tgt := 263) hx hb dX4_wordHere_255 (by decide) (fun c5 => ?_) (fun c5 => ?_)
    · have hc5 := c5
      have q5 := wxr4.f hc5
      refine lv_bipush (v := (-47)) hx hb dX4_wordHere_263 (by decide) ?_
      exact m_iret hx hb hr hlocks hM hS (Nat.le_of_ble_eq_true rfl) (Nat.le_of_ble_eq_true rfl) ⟨rfl, (by rw [km47]; exact (wdv_no_t (by omega) (wq_f hrl rfl q5)).symm)⟩ dX4_wordHere_265
    · have hc5 := c5
      have q5 := wxr4.t hc5
      refine lv_bipush (v := (-40)) hx hb dX4_wordHere_258 (by decide) ?_
      refine lv_goto (tgt := 265) hx hb dX4_wordHere_260 (by decide) ?_
      exact m_iret hx hb hr hlocks hM hS (Nat.le_of_ble_eq_true rfl) (Nat.le_of_ble_eq_true rfl) ⟨rfl, (by rw [km40]; exact (wdv_turn (wq_t hrl rfl q5)).symm)⟩ dX4_wordHere_265
  · have qc3 : (r2).toInt = 97 ∨ (r2).toInt = 98 ∨ (r2).toInt = 99 ∨ (r2).toInt = 100 ∨ (r2).toInt = 101 ∨ (r2).toInt = 102 ∨ (r2).toInt = 103 ∨ (r2).toInt = 104 ∨ (r2).toInt = 105 ∨ (r2).toInt = 106 ∨ (r2).toInt = 107 ∨ (r2).toInt = 108 ∨ (r2).toInt = 109 ∨ (r2).toInt = 110 ∨ (r2).toInt = 111 ∨ (r2).toInt = 112 ∨ (r2).toInt = 113 ∨ (r2).toInt = 114 ∨ (r2).toInt = 115 := by omega
    rcases qc3 with qc3 | qc3 | qc3 | qc3 | qc3 | qc3 | qc3 | qc3 | qc3 | qc3 | qc3 | qc3 | qc3 | qc3 | qc3 | qc3 | qc3 | qc3 | qc3
    · refine lv_tableIn (off := 92) (tgt := 100) hx hb dX4_wordHere_8 (by omega) (by omega) (by rw [qc3]; rfl) (by decide) ?_
      refine lv_aload_n hx hb dX4_wordHere_100 rfl (lv_at hl 0 rfl) ?_
      refine va_ldcS hx hb hown (EV.str hE 0 rfl).1 dX4_wordHere_101 ?_
      refine m_calli (m_runV (70) (As := [.ref (D.2 100 0)]) (rest := []) hx hb hml hown hts hE hM hS hA ce_X4_isWord tb_600 (V_X4_isWord_h l D A ad ns I L G 0 _ hG hI rfl (by decide)) rfl rfl ⟨Nat.le_of_ble_eq_true rfl, Nat.le_of_ble_eq_true rfl⟩ (hG.1 70 (by decide)) rfl rfl (by decide) rfl hl.1 rfl (Nat.le_of_ble_eq_true rfl) dX4_wordHere_103 ⟨Nat.le_of_ble_eq_true rfl, Nat.le_of_ble_eq_true rfl⟩) hS (fun r6 u H locs hw hM hS => ?_)
      obtain ⟨rfl, xr6⟩ := hw
      have hM : Mem D A ad ns I L G H := hM
      have yr6 := bo01 xr6
      have wxr6 : Bo r6 ((I 70 6).toInt = ((3 : Nat) : Int) ∧ wqa (TC I) (I 70 4).toNatClampNeg (([97, 110, 100] : List Int32).map b8) = true) := xr6
      rw [mb_and] at wxr6
      refine lv_if_eq (tgt := 114) hx hb dX4_wordHere_106 (by decide) (fun c7 => ?_) (fun c7 => ?_)
      · have hc7 := c7
        have q7 := wxr6.f hc7
        refine lv_bipush (v := (-47)) hx hb dX4_wordHere_114 (by decide) ?_
        exact m_iret hx hb hr hlocks hM hS (Nat.le_of_ble_eq_true rfl) (Nat.le_of_ble_eq_true rfl) ⟨rfl, (by rw [km47]; exact (wdv_no_a (by omega) (wq_f hrl rfl q7)).symm)⟩ dX4_wordHere_116
      · have hc7 := c7
        have q7 := wxr6.t hc7
        refine lv_bipush (v := (-24)) hx hb dX4_wordHere_109 (by decide) ?_
        refine lv_goto (tgt := 116) hx hb dX4_wordHere_111 (by decide) ?_
        exact m_iret hx hb hr hlocks hM hS (Nat.le_of_ble_eq_true rfl) (Nat.le_of_ble_eq_true rfl) ⟨rfl, (by rw [km24]; exact (wdv_and (wq_t hrl rfl q7)).symm)⟩ dX4_wordHere_116
    · refine lv_tableIn (off := 241) (tgt := 249) hx hb dX4_wordHere_8 (by omega) (by omega) (by rw [qc3]; rfl) (by decide) ?_
      refine lv_aload_n hx hb dX4_wordHere_249 rfl (lv_at hl 0 rfl) ?_
      refine va_ldcS hx hb hown (EV.str hE 9 rfl).1 dX4_wordHere_250 ?_
      refine m_calli (m_runV (70) (As := [.ref (D.2 100 9)]) (rest := []) hx hb hml hown hts hE hM hS hA ce_X4_isWord tb_600 (V_X4_isWord_h l D A ad ns I L G 9 _ hG hI rfl (by decide)) rfl rfl ⟨Nat.le_of_ble_eq_true rfl, Nat.le_of_ble_eq_true rfl⟩ (hG.1 70 (by decide)) rfl rfl (by decide) rfl hl.1 rfl (Nat.le_of_ble_eq_true rfl) dX4_wordHere_252 ⟨Nat.le_of_ble_eq_true rfl, Nat.le_of_ble_eq_true rfl⟩) hS (fun r8 u H locs hw hM hS => ?_)
      obtain ⟨rfl, xr8⟩ := hw
      have hM : Mem D A ad ns I L G H := hM
      have yr8 := bo01 xr8
      have wxr8 : Bo r8 ((I 70 6).toInt = ((4 : Nat) : Int) ∧ wqa (TC I) (I 70 4).toNatClampNeg (([116, 117, 114, 110] : List Int32).map b8) = true) := xr8
      rw [mb_turn] at wxr8
      refine lv_if_eq (tgt := 263) hx hb dX4_wordHere_255 (by decide) (fun c9 => ?_) (fun c9 => ?_)
      · have hc9 := c9
        have q9 := wxr8.f hc9
        refine lv_bipush (v := (-47)) hx hb dX4_wordHere_263 (by decide) ?_
        exact m_iret hx hb hr hlocks hM hS (Nat.le_of_ble_eq_true rfl) (Nat.le_of_ble_eq_true rfl) ⟨rfl, (by rw [km47]; exact (wdv_no_t (by omega) (wq_f hrl rfl q9)).symm)⟩ dX4_wordHere_265
      · have hc9 := c9
        have q9 := wxr8.t hc9
        refine lv_bipush (v := (-40)) hx hb dX4_wordHere_258 (by decide) ?_
        refine lv_goto (tgt := 265) hx hb dX4_wordHere_260 (by decide) ?_
        exact m_iret hx hb hr hlocks hM hS (Nat.le_of_ble_eq_true rfl) (Nat.le_of_ble_eq_true rfl) ⟨rfl, (by rw [km40]; exact (wdv_turn (wq_t hrl rfl q9)).symm)⟩ dX4_wordHere_265
    · refine lv_tableIn (off := 241) (tgt := 249) hx hb dX4_wordHere_8 (by omega) (by omega) (by rw [qc3]; rfl) (by decide) ?_
      refine lv_aload_n hx hb dX4_wordHere_249 rfl (lv_at hl 0 rfl) ?_
      refine va_ldcS hx hb hown (EV.str hE 9 rfl).1 dX4_wordHere_250 ?_
      refine m_calli (m_runV (70) (As := [.ref (D.2 100 9)]) (rest := []) hx hb hml hown hts hE hM hS hA ce_X4_isWord tb_600 (V_X4_isWord_h l D A ad ns I L G 9 _ hG hI rfl (by decide)) rfl rfl ⟨Nat.le_of_ble_eq_true rfl, Nat.le_of_ble_eq_true rfl⟩ (hG.1 70 (by decide)) rfl rfl (by decide) rfl hl.1 rfl (Nat.le_of_ble_eq_true rfl) dX4_wordHere_252 ⟨Nat.le_of_ble_eq_true rfl, Nat.le_of_ble_eq_true rfl⟩) hS (fun r10 u H locs hw hM hS => ?_)
      obtain ⟨rfl, xr10⟩ := hw
      have hM : Mem D A ad ns I L G H := hM
      have yr10 := bo01 xr10
      have wxr10 : Bo r10 ((I 70 6).toInt = ((4 : Nat) : Int) ∧ wqa (TC I) (I 70 4).toNatClampNeg (([116, 117, 114, 110] : List Int32).map b8) = true) := xr10
      rw [mb_turn] at wxr10
      refine lv_if_eq (tgt := 263) hx hb dX4_wordHere_255 (by decide) (fun c11 => ?_) (fun c11 => ?_)
      · have hc11 := c11
        have q11 := wxr10.f hc11
        refine lv_bipush (v := (-47)) hx hb dX4_wordHere_263 (by decide) ?_
        exact m_iret hx hb hr hlocks hM hS (Nat.le_of_ble_eq_true rfl) (Nat.le_of_ble_eq_true rfl) ⟨rfl, (by rw [km47]; exact (wdv_no_t (by omega) (wq_f hrl rfl q11)).symm)⟩ dX4_wordHere_265
      · have hc11 := c11
        have q11 := wxr10.t hc11
        refine lv_bipush (v := (-40)) hx hb dX4_wordHere_258 (by decide) ?_
        refine lv_goto (tgt := 265) hx hb dX4_wordHere_260 (by decide) ?_
        exact m_iret hx hb hr hlocks hM hS (Nat.le_of_ble_eq_true rfl) (Nat.le_of_ble_eq_true rfl) ⟨rfl, (by rw [km40]; exact (wdv_turn (wq_t hrl rfl q11)).symm)⟩ dX4_wordHere_265
    · refine lv_tableIn (off := 109) (tgt := 117) hx hb dX4_wordHere_8 (by omega) (by omega) (by rw [qc3]; rfl) (by decide) ?_
      refine lv_aload_n hx hb dX4_wordHere_117 rfl (lv_at hl 0 rfl) ?_
      refine va_ldcS hx hb hown (EV.str hE 1 rfl).1 dX4_wordHere_118 ?_
      refine m_calli (m_runV (70) (As := [.ref (D.2 100 1)]) (rest := []) hx hb hml hown hts hE hM hS hA ce_X4_isWord tb_600 (V_X4_isWord_h l D A ad ns I L G 1 _ hG hI rfl (by decide)) rfl rfl ⟨Nat.le_of_ble_eq_true rfl, Nat.le_of_ble_eq_true rfl⟩ (hG.1 70 (by decide)) rfl rfl (by decide) rfl hl.1 rfl (Nat.le_of_ble_eq_true rfl) dX4_wordHere_120 ⟨Nat.le_of_ble_eq_true rfl, Nat.le_of_ble_eq_true rfl⟩) hS (fun r12 u H locs hw hM hS => ?_)
      obtain ⟨rfl, xr12⟩ := hw
      have hM : Mem D A ad ns I L G H := hM
      have yr12 := bo01 xr12
      have wxr12 : Bo r12 ((I 70 6).toInt = ((3 : Nat) : Int) ∧ wqa (TC I) (I 70 4).toNatClampNeg (([100, 97, 121] : List Int32).map b8) = true) := xr12
      rw [mb_day] at wxr12
      refine lv_if_eq (tgt := 131) hx hb dX4_wordHere_123 (by decide) (fun c13 => ?_) (fun c13 => ?_)
      · have hc13 := c13
        have q13 := wxr12.f hc13
        refine lv_bipush (v := (-47)) hx hb dX4_wordHere_131 (by decide) ?_
        exact m_iret hx hb hr hlocks hM hS (Nat.le_of_ble_eq_true rfl) (Nat.le_of_ble_eq_true rfl) ⟨rfl, (by rw [km47]; exact (wdv_no_d (by omega) (wq_f hrl rfl q13)).symm)⟩ dX4_wordHere_133
      · have hc13 := c13
        have q13 := wxr12.t hc13
        refine lv_bipush (v := (-3)) hx hb dX4_wordHere_126 (by decide) ?_
        refine lv_goto (tgt := 133) hx hb dX4_wordHere_128 (by decide) ?_
        exact m_iret hx hb hr hlocks hM hS (Nat.le_of_ble_eq_true rfl) (Nat.le_of_ble_eq_true rfl) ⟨rfl, (by rw [km3]; exact (wdv_day (wq_t hrl rfl q13)).symm)⟩ dX4_wordHere_133
    · refine lv_tableIn (off := 241) (tgt := 249) hx hb dX4_wordHere_8 (by omega) (by omega) (by rw [qc3]; rfl) (by decide) ?_
      refine lv_aload_n hx hb dX4_wordHere_249 rfl (lv_at hl 0 rfl) ?_
      refine va_ldcS hx hb hown (EV.str hE 9 rfl).1 dX4_wordHere_250 ?_
      refine m_calli (m_runV (70) (As := [.ref (D.2 100 9)]) (rest := []) hx hb hml hown hts hE hM hS hA ce_X4_isWord tb_600 (V_X4_isWord_h l D A ad ns I L G 9 _ hG hI rfl (by decide)) rfl rfl ⟨Nat.le_of_ble_eq_true rfl, Nat.le_of_ble_eq_true rfl⟩ (hG.1 70 (by decide)) rfl rfl (by decide) rfl hl.1 rfl (Nat.le_of_ble_eq_true rfl) dX4_wordHere_252 ⟨Nat.le_of_ble_eq_true rfl, Nat.le_of_ble_eq_true rfl⟩) hS (fun r14 u H locs hw hM hS => ?_)
      obtain ⟨rfl, xr14⟩ := hw
      have hM : Mem D A ad ns I L G H := hM
      have yr14 := bo01 xr14
      have wxr14 : Bo r14 ((I 70 6).toInt = ((4 : Nat) : Int) ∧ wqa (TC I) (I 70 4).toNatClampNeg (([116, 117, 114, 110] : List Int32).map b8) = true) := xr14
      rw [mb_turn] at wxr14
      refine lv_if_eq (tgt := 263) hx hb dX4_wordHere_255 (by decide) (fun c15 => ?_) (fun c15 => ?_)
      · have hc15 := c15
        have q15 := wxr14.f hc15
        refine lv_bipush (v := (-47)) hx hb dX4_wordHere_263 (by decide) ?_
        exact m_iret hx hb hr hlocks hM hS (Nat.le_of_ble_eq_true rfl) (Nat.le_of_ble_eq_true rfl) ⟨rfl, (by rw [km47]; exact (wdv_no_t (by omega) (wq_f hrl rfl q15)).symm)⟩ dX4_wordHere_265
      · have hc15 := c15
        have q15 := wxr14.t hc15
        refine lv_bipush (v := (-40)) hx hb dX4_wordHere_258 (by decide) ?_
        refine lv_goto (tgt := 265) hx hb dX4_wordHere_260 (by decide) ?_
        exact m_iret hx hb hr hlocks hM hS (Nat.le_of_ble_eq_true rfl) (Nat.le_of_ble_eq_true rfl) ⟨rfl, (by rw [km40]; exact (wdv_turn (wq_t hrl rfl q15)).symm)⟩ dX4_wordHere_265
    · refine lv_tableIn (off := 241) (tgt := 249) hx hb dX4_wordHere_8 (by omega) (by omega) (by rw [qc3]; rfl) (by decide) ?_
      refine lv_aload_n hx hb dX4_wordHere_249 rfl (lv_at hl 0 rfl) ?_
      refine va_ldcS hx hb hown (EV.str hE 9 rfl).1 dX4_wordHere_250 ?_
      refine m_calli (m_runV (70) (As := [.ref (D.2 100 9)]) (rest := []) hx hb hml hown hts hE hM hS hA ce_X4_isWord tb_600 (V_X4_isWord_h l D A ad ns I L G 9 _ hG hI rfl (by decide)) rfl rfl ⟨Nat.le_of_ble_eq_true rfl, Nat.le_of_ble_eq_true rfl⟩ (hG.1 70 (by decide)) rfl rfl (by decide) rfl hl.1 rfl (Nat.le_of_ble_eq_true rfl) dX4_wordHere_252 ⟨Nat.le_of_ble_eq_true rfl, Nat.le_of_ble_eq_true rfl⟩) hS (fun r16 u H locs hw hM hS => ?_)
      obtain ⟨rfl, xr16⟩ := hw
      have hM : Mem D A ad ns I L G H := hM
      have yr16 := bo01 xr16
      have wxr16 : Bo r16 ((I 70 6).toInt = ((4 : Nat) : Int) ∧ wqa (TC I) (I 70 4).toNatClampNeg (([116, 117, 114, 110] : List Int32).map b8) = true) := xr16
      rw [mb_turn] at wxr16
      refine lv_if_eq (tgt := 263) hx hb dX4_wordHere_255 (by decide) (fun c17 => ?_) (fun c17 => ?_)
      · have hc17 := c17
        have q17 := wxr16.f hc17
        refine lv_bipush (v := (-47)) hx hb dX4_wordHere_263 (by decide) ?_
        exact m_iret hx hb hr hlocks hM hS (Nat.le_of_ble_eq_true rfl) (Nat.le_of_ble_eq_true rfl) ⟨rfl, (by rw [km47]; exact (wdv_no_t (by omega) (wq_f hrl rfl q17)).symm)⟩ dX4_wordHere_265
      · have hc17 := c17
        have q17 := wxr16.t hc17
        refine lv_bipush (v := (-40)) hx hb dX4_wordHere_258 (by decide) ?_
        refine lv_goto (tgt := 265) hx hb dX4_wordHere_260 (by decide) ?_
        exact m_iret hx hb hr hlocks hM hS (Nat.le_of_ble_eq_true rfl) (Nat.le_of_ble_eq_true rfl) ⟨rfl, (by rw [km40]; exact (wdv_turn (wq_t hrl rfl q17)).symm)⟩ dX4_wordHere_265
    · refine lv_tableIn (off := 241) (tgt := 249) hx hb dX4_wordHere_8 (by omega) (by omega) (by rw [qc3]; rfl) (by decide) ?_
      refine lv_aload_n hx hb dX4_wordHere_249 rfl (lv_at hl 0 rfl) ?_
      refine va_ldcS hx hb hown (EV.str hE 9 rfl).1 dX4_wordHere_250 ?_
      refine m_calli (m_runV (70) (As := [.ref (D.2 100 9)]) (rest := []) hx hb hml hown hts hE hM hS hA ce_X4_isWord tb_600 (V_X4_isWord_h l D A ad ns I L G 9 _ hG hI rfl (by decide)) rfl rfl ⟨Nat.le_of_ble_eq_true rfl, Nat.le_of_ble_eq_true rfl⟩ (hG.1 70 (by decide)) rfl rfl (by decide) rfl hl.1 rfl (Nat.le_of_ble_eq_true rfl) dX4_wordHere_252 ⟨Nat.le_of_ble_eq_true rfl, Nat.le_of_ble_eq_true rfl⟩) hS (fun r18 u H locs hw hM hS => ?_)
      obtain ⟨rfl, xr18⟩ := hw
      have hM : Mem D A ad ns I L G H := hM
      have yr18 := bo01 xr18
      have wxr18 : Bo r18 ((I 70 6).toInt = ((4 : Nat) : Int) ∧ wqa (TC I) (I 70 4).toNatClampNeg (([116, 117, 114, 110] : List Int32).map b8) = true) := xr18
      rw [mb_turn] at wxr18
      refine lv_if_eq (tgt := 263) hx hb dX4_wordHere_255 (by decide) (fun c19 => ?_) (fun c19 => ?_)
      · have hc19 := c19
        have q19 := wxr18.f hc19
        refine lv_bipush (v := (-47)) hx hb dX4_wordHere_263 (by decide) ?_
        exact m_iret hx hb hr hlocks hM hS (Nat.le_of_ble_eq_true rfl) (Nat.le_of_ble_eq_true rfl) ⟨rfl, (by rw [km47]; exact (wdv_no_t (by omega) (wq_f hrl rfl q19)).symm)⟩ dX4_wordHere_265
      · have hc19 := c19
        have q19 := wxr18.t hc19
        refine lv_bipush (v := (-40)) hx hb dX4_wordHere_258 (by decide) ?_
        refine lv_goto (tgt := 265) hx hb dX4_wordHere_260 (by decide) ?_
        exact m_iret hx hb hr hlocks hM hS (Nat.le_of_ble_eq_true rfl) (Nat.le_of_ble_eq_true rfl) ⟨rfl, (by rw [km40]; exact (wdv_turn (wq_t hrl rfl q19)).symm)⟩ dX4_wordHere_265
    · refine lv_tableIn (off := 126) (tgt := 134) hx hb dX4_wordHere_8 (by omega) (by omega) (by rw [qc3]; rfl) (by decide) ?_
      refine lv_aload_n hx hb dX4_wordHere_134 rfl (lv_at hl 0 rfl) ?_
      refine va_ldcS hx hb hown (EV.str hE 2 rfl).1 dX4_wordHere_135 ?_
      refine m_calli (m_runV (70) (As := [.ref (D.2 100 2)]) (rest := []) hx hb hml hown hts hE hM hS hA ce_X4_isWord tb_600 (V_X4_isWord_h l D A ad ns I L G 2 _ hG hI rfl (by decide)) rfl rfl ⟨Nat.le_of_ble_eq_true rfl, Nat.le_of_ble_eq_true rfl⟩ (hG.1 70 (by decide)) rfl rfl (by decide) rfl hl.1 rfl (Nat.le_of_ble_eq_true rfl) dX4_wordHere_137 ⟨Nat.le_of_ble_eq_true rfl, Nat.le_of_ble_eq_true rfl⟩) hS (fun r20 u H locs hw hM hS => ?_)
      obtain ⟨rfl, xr20⟩ := hw
      have hM : Mem D A ad ns I L G H := hM
      have yr20 := bo01 xr20
      have wxr20 : Bo r20 ((I 70 6).toInt = ((4 : Nat) : Int) ∧ wqa (TC I) (I 70 4).toNatClampNeg (([104, 111, 117, 114] : List Int32).map b8) = true) := xr20
      rw [mb_hour] at wxr20
      refine lv_if_eq (tgt := 147) hx hb dX4_wordHere_140 (by decide) (fun c21 => ?_) (fun c21 => ?_)
      · have hc21 := c21
        have q21 := wxr20.f hc21
        refine lv_bipush (v := (-47)) hx hb dX4_wordHere_147 (by decide) ?_
        exact m_iret hx hb hr hlocks hM hS (Nat.le_of_ble_eq_true rfl) (Nat.le_of_ble_eq_true rfl) ⟨rfl, (by rw [km47]; exact (wdv_no_h (by omega) (wq_f hrl rfl q21)).symm)⟩ dX4_wordHere_149
      · have hc21 := c21
        have q21 := wxr20.t hc21
        refine lv_iconst (v := (-1)) hx hb dX4_wordHere_143 (by decide) ?_
        refine lv_goto (tgt := 149) hx hb dX4_wordHere_144 (by decide) ?_
        exact m_iret hx hb hr hlocks hM hS (Nat.le_of_ble_eq_true rfl) (Nat.le_of_ble_eq_true rfl) ⟨rfl, (by rw [km1]; exact (wdv_hour (wq_t hrl rfl q21)).symm)⟩ dX4_wordHere_149
    · refine lv_tableIn (off := 142) (tgt := 150) hx hb dX4_wordHere_8 (by omega) (by omega) (by rw [qc3]; rfl) (by decide) ?_
      refine lv_aload_n hx hb dX4_wordHere_150 rfl (lv_at hl 0 rfl) ?_
      refine va_ldcS hx hb hown (EV.str hE 3 rfl).1 dX4_wordHere_151 ?_
      refine m_calli (m_runV (70) (As := [.ref (D.2 100 3)]) (rest := []) hx hb hml hown hts hE hM hS hA ce_X4_isWord tb_600 (V_X4_isWord_h l D A ad ns I L G 3 _ hG hI rfl (by decide)) rfl rfl ⟨Nat.le_of_ble_eq_true rfl, Nat.le_of_ble_eq_true rfl⟩ (hG.1 70 (by decide)) rfl rfl (by decide) rfl hl.1 rfl (Nat.le_of_ble_eq_true rfl) dX4_wordHere_153 ⟨Nat.le_of_ble_eq_true rfl, Nat.le_of_ble_eq_true rfl⟩) hS (fun r22 u H locs hw hM hS => ?_)
      obtain ⟨rfl, xr22⟩ := hw
      have hM : Mem D A ad ns I L G H := hM
      have yr22 := bo01 xr22
      have wxr22 : Bo r22 ((I 70 6).toInt = ((2 : Nat) : Int) ∧ wqa (TC I) (I 70 4).toNatClampNeg (([105, 102] : List Int32).map b8) = true) := xr22
      rw [mb_if] at wxr22
      refine lv_if_eq (tgt := 164) hx hb dX4_wordHere_156 (by decide) (fun c23 => ?_) (fun c23 => ?_)
      · have hc23 := c23
        have q23 := wxr22.f hc23
        refine lv_bipush (v := (-47)) hx hb dX4_wordHere_164 (by decide) ?_
        exact m_iret hx hb hr hlocks hM hS (Nat.le_of_ble_eq_true rfl) (Nat.le_of_ble_eq_true rfl) ⟨rfl, (by rw [km47]; exact (wdv_no_i (by omega) (wq_f hrl rfl q23)).symm)⟩ dX4_wordHere_166
      · have hc23 := c23
        have q23 := wxr22.t hc23
        refine lv_bipush (v := (-41)) hx hb dX4_wordHere_159 (by decide) ?_
        refine lv_goto (tgt := 166) hx hb dX4_wordHere_161 (by decide) ?_
        exact m_iret hx hb hr hlocks hM hS (Nat.le_of_ble_eq_true rfl) (Nat.le_of_ble_eq_true rfl) ⟨rfl, (by rw [km41]; exact (wdv_if (wq_t hrl rfl q23)).symm)⟩ dX4_wordHere_166
    · refine lv_tableIn (off := 241) (tgt := 249) hx hb dX4_wordHere_8 (by omega) (by omega) (by rw [qc3]; rfl) (by decide) ?_
      refine lv_aload_n hx hb dX4_wordHere_249 rfl (lv_at hl 0 rfl) ?_
      refine va_ldcS hx hb hown (EV.str hE 9 rfl).1 dX4_wordHere_250 ?_
      refine m_calli (m_runV (70) (As := [.ref (D.2 100 9)]) (rest := []) hx hb hml hown hts hE hM hS hA ce_X4_isWord tb_600 (V_X4_isWord_h l D A ad ns I L G 9 _ hG hI rfl (by decide)) rfl rfl ⟨Nat.le_of_ble_eq_true rfl, Nat.le_of_ble_eq_true rfl⟩ (hG.1 70 (by decide)) rfl rfl (by decide) rfl hl.1 rfl (Nat.le_of_ble_eq_true rfl) dX4_wordHere_252 ⟨Nat.le_of_ble_eq_true rfl, Nat.le_of_ble_eq_true rfl⟩) hS (fun r24 u H locs hw hM hS => ?_)
      obtain ⟨rfl, xr24⟩ := hw
      have hM : Mem D A ad ns I L G H := hM
      have yr24 := bo01 xr24
      have wxr24 : Bo r24 ((I 70 6).toInt = ((4 : Nat) : Int) ∧ wqa (TC I) (I 70 4).toNatClampNeg (([116, 117, 114, 110] : List Int32).map b8) = true) := xr24
      rw [mb_turn] at wxr24
      refine lv_if_eq (tgt := 263) hx hb dX4_wordHere_255 (by decide) (fun c25 => ?_) (fun c25 => ?_)
      · have hc25 := c25
        have q25 := wxr24.f hc25
        refine lv_bipush (v := (-47)) hx hb dX4_wordHere_263 (by decide) ?_
        exact m_iret hx hb hr hlocks hM hS (Nat.le_of_ble_eq_true rfl) (Nat.le_of_ble_eq_true rfl) ⟨rfl, (by rw [km47]; exact (wdv_no_t (by omega) (wq_f hrl rfl q25)).symm)⟩ dX4_wordHere_265
      · have hc25 := c25
        have q25 := wxr24.t hc25
        refine lv_bipush (v := (-40)) hx hb dX4_wordHere_258 (by decide) ?_
        refine lv_goto (tgt := 265) hx hb dX4_wordHere_260 (by decide) ?_
        exact m_iret hx hb hr hlocks hM hS (Nat.le_of_ble_eq_true rfl) (Nat.le_of_ble_eq_true rfl) ⟨rfl, (by rw [km40]; exact (wdv_turn (wq_t hrl rfl q25)).symm)⟩ dX4_wordHere_265
    · refine lv_tableIn (off := 241) (tgt := 249) hx hb dX4_wordHere_8 (by omega) (by omega) (by rw [qc3]; rfl) (by decide) ?_
      refine lv_aload_n hx hb dX4_wordHere_249 rfl (lv_at hl 0 rfl) ?_
      refine va_ldcS hx hb hown (EV.str hE 9 rfl).1 dX4_wordHere_250 ?_
      refine m_calli (m_runV (70) (As := [.ref (D.2 100 9)]) (rest := []) hx hb hml hown hts hE hM hS hA ce_X4_isWord tb_600 (V_X4_isWord_h l D A ad ns I L G 9 _ hG hI rfl (by decide)) rfl rfl ⟨Nat.le_of_ble_eq_true rfl, Nat.le_of_ble_eq_true rfl⟩ (hG.1 70 (by decide)) rfl rfl (by decide) rfl hl.1 rfl (Nat.le_of_ble_eq_true rfl) dX4_wordHere_252 ⟨Nat.le_of_ble_eq_true rfl, Nat.le_of_ble_eq_true rfl⟩) hS (fun r26 u H locs hw hM hS => ?_)
      obtain ⟨rfl, xr26⟩ := hw
      have hM : Mem D A ad ns I L G H := hM
      have yr26 := bo01 xr26
      have wxr26 : Bo r26 ((I 70 6).toInt = ((4 : Nat) : Int) ∧ wqa (TC I) (I 70 4).toNatClampNeg (([116, 117, 114, 110] : List Int32).map b8) = true) := xr26
      rw [mb_turn] at wxr26
      refine lv_if_eq (tgt := 263) hx hb dX4_wordHere_255 (by decide) (fun c27 => ?_) (fun c27 => ?_)
      · have hc27 := c27
        have q27 := wxr26.f hc27
        refine lv_bipush (v := (-47)) hx hb dX4_wordHere_263 (by decide) ?_
        exact m_iret hx hb hr hlocks hM hS (Nat.le_of_ble_eq_true rfl) (Nat.le_of_ble_eq_true rfl) ⟨rfl, (by rw [km47]; exact (wdv_no_t (by omega) (wq_f hrl rfl q27)).symm)⟩ dX4_wordHere_265
      · have hc27 := c27
        have q27 := wxr26.t hc27
        refine lv_bipush (v := (-40)) hx hb dX4_wordHere_258 (by decide) ?_
        refine lv_goto (tgt := 265) hx hb dX4_wordHere_260 (by decide) ?_
        exact m_iret hx hb hr hlocks hM hS (Nat.le_of_ble_eq_true rfl) (Nat.le_of_ble_eq_true rfl) ⟨rfl, (by rw [km40]; exact (wdv_turn (wq_t hrl rfl q27)).symm)⟩ dX4_wordHere_265
    · refine lv_tableIn (off := 241) (tgt := 249) hx hb dX4_wordHere_8 (by omega) (by omega) (by rw [qc3]; rfl) (by decide) ?_
      refine lv_aload_n hx hb dX4_wordHere_249 rfl (lv_at hl 0 rfl) ?_
      refine va_ldcS hx hb hown (EV.str hE 9 rfl).1 dX4_wordHere_250 ?_
      refine m_calli (m_runV (70) (As := [.ref (D.2 100 9)]) (rest := []) hx hb hml hown hts hE hM hS hA ce_X4_isWord tb_600 (V_X4_isWord_h l D A ad ns I L G 9 _ hG hI rfl (by decide)) rfl rfl ⟨Nat.le_of_ble_eq_true rfl, Nat.le_of_ble_eq_true rfl⟩ (hG.1 70 (by decide)) rfl rfl (by decide) rfl hl.1 rfl (Nat.le_of_ble_eq_true rfl) dX4_wordHere_252 ⟨Nat.le_of_ble_eq_true rfl, Nat.le_of_ble_eq_true rfl⟩) hS (fun r28 u H locs hw hM hS => ?_)
      obtain ⟨rfl, xr28⟩ := hw
      have hM : Mem D A ad ns I L G H := hM
      have yr28 := bo01 xr28
      have wxr28 : Bo r28 ((I 70 6).toInt = ((4 : Nat) : Int) ∧ wqa (TC I) (I 70 4).toNatClampNeg (([116, 117, 114, 110] : List Int32).map b8) = true) := xr28
      rw [mb_turn] at wxr28
      refine lv_if_eq (tgt := 263) hx hb dX4_wordHere_255 (by decide) (fun c29 => ?_) (fun c29 => ?_)
      · have hc29 := c29
        have q29 := wxr28.f hc29
        refine lv_bipush (v := (-47)) hx hb dX4_wordHere_263 (by decide) ?_
        exact m_iret hx hb hr hlocks hM hS (Nat.le_of_ble_eq_true rfl) (Nat.le_of_ble_eq_true rfl) ⟨rfl, (by rw [km47]; exact (wdv_no_t (by omega) (wq_f hrl rfl q29)).symm)⟩ dX4_wordHere_265
      · have hc29 := c29
        have q29 := wxr28.t hc29
        refine lv_bipush (v := (-40)) hx hb dX4_wordHere_258 (by decide) ?_
        refine lv_goto (tgt := 265) hx hb dX4_wordHere_260 (by decide) ?_
        exact m_iret hx hb hr hlocks hM hS (Nat.le_of_ble_eq_true rfl) (Nat.le_of_ble_eq_true rfl) ⟨rfl, (by rw [km40]; exact (wdv_turn (wq_t hrl rfl q29)).symm)⟩ dX4_wordHere_265
    · refine lv_tableIn (off := 159) (tgt := 167) hx hb dX4_wordHere_8 (by omega) (by omega) (by rw [qc3]; rfl) (by decide) ?_
      refine lv_aload_n hx hb dX4_wordHere_167 rfl (lv_at hl 0 rfl) ?_
      refine va_ldcS hx hb hown (EV.str hE 4 rfl).1 dX4_wordHere_168 ?_
      refine m_calli (m_runV (70) (As := [.ref (D.2 100 4)]) (rest := []) hx hb hml hown hts hE hM hS hA ce_X4_isWord tb_600 (V_X4_isWord_h l D A ad ns I L G 4 _ hG hI rfl (by decide)) rfl rfl ⟨Nat.le_of_ble_eq_true rfl, Nat.le_of_ble_eq_true rfl⟩ (hG.1 70 (by decide)) rfl rfl (by decide) rfl hl.1 rfl (Nat.le_of_ble_eq_true rfl) dX4_wordHere_170 ⟨Nat.le_of_ble_eq_true rfl, Nat.le_of_ble_eq_true rfl⟩) hS (fun r30 u H locs hw hM hS => ?_)
      obtain ⟨rfl, xr30⟩ := hw
      have hM : Mem D A ad ns I L G H := hM
      have yr30 := bo01 xr30
      have wxr30 : Bo r30 ((I 70 6).toInt = ((5 : Nat) : Int) ∧ wqa (TC I) (I 70 4).toNatClampNeg (([109, 111, 110, 116, 104] : List Int32).map b8) = true) := xr30
      rw [mb_month] at wxr30
      refine lv_if_eq (tgt := 181) hx hb dX4_wordHere_173 (by decide) (fun c31 => ?_) (fun c31 => ?_)
      · have hc31 := c31
        have q31 := wxr30.f hc31
        refine lv_bipush (v := (-47)) hx hb dX4_wordHere_181 (by decide) ?_
        exact m_iret hx hb hr hlocks hM hS (Nat.le_of_ble_eq_true rfl) (Nat.le_of_ble_eq_true rfl) ⟨rfl, (by rw [km47]; exact (wdv_no_m (by omega) (wq_f hrl rfl q31)).symm)⟩ dX4_wordHere_183
      · have hc31 := c31
        have q31 := wxr30.t hc31
        refine lv_bipush (v := (-2)) hx hb dX4_wordHere_176 (by decide) ?_
        refine lv_goto (tgt := 183) hx hb dX4_wordHere_178 (by decide) ?_
        exact m_iret hx hb hr hlocks hM hS (Nat.le_of_ble_eq_true rfl) (Nat.le_of_ble_eq_true rfl) ⟨rfl, (by rw [km2]; exact (wdv_month (wq_t hrl rfl q31)).symm)⟩ dX4_wordHere_183
    · refine lv_tableIn (off := 176) (tgt := 184) hx hb dX4_wordHere_8 (by omega) (by omega) (by rw [qc3]; rfl) (by decide) ?_
      refine lv_aload_n hx hb dX4_wordHere_184 rfl (lv_at hl 0 rfl) ?_
      refine va_ldcS hx hb hown (EV.str hE 5 rfl).1 dX4_wordHere_185 ?_
      refine m_calli (m_runV (70) (As := [.ref (D.2 100 5)]) (rest := []) hx hb hml hown hts hE hM hS hA ce_X4_isWord tb_600 (V_X4_isWord_h l D A ad ns I L G 5 _ hG hI rfl (by decide)) rfl rfl ⟨Nat.le_of_ble_eq_true rfl, Nat.le_of_ble_eq_true rfl⟩ (hG.1 70 (by decide)) rfl rfl (by decide) rfl hl.1 rfl (Nat.le_of_ble_eq_true rfl) dX4_wordHere_187 ⟨Nat.le_of_ble_eq_true rfl, Nat.le_of_ble_eq_true rfl⟩) hS (fun r32 u H locs hw hM hS => ?_)
      obtain ⟨rfl, xr32⟩ := hw
      have hM : Mem D A ad ns I L G H := hM
      have yr32 := bo01 xr32
      have wxr32 : Bo r32 ((I 70 6).toInt = ((3 : Nat) : Int) ∧ wqa (TC I) (I 70 4).toNatClampNeg (([110, 111, 116] : List Int32).map b8) = true) := xr32
      rw [mb_not] at wxr32
      refine lv_if_eq (tgt := 198) hx hb dX4_wordHere_190 (by decide) (fun c33 => ?_) (fun c33 => ?_)
      · have hc33 := c33
        have q33 := wxr32.f hc33
        refine lv_bipush (v := (-47)) hx hb dX4_wordHere_198 (by decide) ?_
        exact m_iret hx hb hr hlocks hM hS (Nat.le_of_ble_eq_true rfl) (Nat.le_of_ble_eq_true rfl) ⟨rfl, (by rw [km47]; exact (wdv_no_n (by omega) (wq_f hrl rfl q33)).symm)⟩ dX4_wordHere_200
      · have hc33 := c33
        have q33 := wxr32.t hc33
        refine lv_bipush (v := (-14)) hx hb dX4_wordHere_193 (by decide) ?_
        refine lv_goto (tgt := 200) hx hb dX4_wordHere_195 (by decide) ?_
        exact m_iret hx hb hr hlocks hM hS (Nat.le_of_ble_eq_true rfl) (Nat.le_of_ble_eq_true rfl) ⟨rfl, (by rw [km14]; exact (wdv_not (wq_t hrl rfl q33)).symm)⟩ dX4_wordHere_200
    · refine lv_tableIn (off := 193) (tgt := 201) hx hb dX4_wordHere_8 (by omega) (by omega) (by rw [qc3]; rfl) (by decide) ?_
      refine lv_aload_n hx hb dX4_wordHere_201 rfl (lv_at hl 0 rfl) ?_
      refine va_ldcS hx hb hown (EV.str hE 6 rfl).1 dX4_wordHere_202 ?_
      refine m_calli (m_runV (70) (As := [.ref (D.2 100 6)]) (rest := []) hx hb hml hown hts hE hM hS hA ce_X4_isWord tb_600 (V_X4_isWord_h l D A ad ns I L G 6 _ hG hI rfl (by decide)) rfl rfl ⟨Nat.le_of_ble_eq_true rfl, Nat.le_of_ble_eq_true rfl⟩ (hG.1 70 (by decide)) rfl rfl (by decide) rfl hl.1 rfl (Nat.le_of_ble_eq_true rfl) dX4_wordHere_204 ⟨Nat.le_of_ble_eq_true rfl, Nat.le_of_ble_eq_true rfl⟩) hS (fun r34 u H locs hw hM hS => ?_)
      obtain ⟨rfl, xr34⟩ := hw
      have hM : Mem D A ad ns I L G H := hM
      have yr34 := bo01 xr34
      have wxr34 : Bo r34 ((I 70 6).toInt = ((2 : Nat) : Int) ∧ wqa (TC I) (I 70 4).toNatClampNeg (([111, 114] : List Int32).map b8) = true) := xr34
      rw [mb_or] at wxr34
      refine lv_if_eq (tgt := 215) hx hb dX4_wordHere_207 (by decide) (fun c35 => ?_) (fun c35 => ?_)
      · have hc35 := c35
        have q35 := wxr34.f hc35
        refine lv_bipush (v := (-47)) hx hb dX4_wordHere_215 (by decide) ?_
        exact m_iret hx hb hr hlocks hM hS (Nat.le_of_ble_eq_true rfl) (Nat.le_of_ble_eq_true rfl) ⟨rfl, (by rw [km47]; exact (wdv_no_o (by omega) (wq_f hrl rfl q35)).symm)⟩ dX4_wordHere_217
      · have hc35 := c35
        have q35 := wxr34.t hc35
        refine lv_bipush (v := (-25)) hx hb dX4_wordHere_210 (by decide) ?_
        refine lv_goto (tgt := 217) hx hb dX4_wordHere_212 (by decide) ?_
        exact m_iret hx hb hr hlocks hM hS (Nat.le_of_ble_eq_true rfl) (Nat.le_of_ble_eq_true rfl) ⟨rfl, (by rw [km25]; exact (wdv_or (wq_t hrl rfl q35)).symm)⟩ dX4_wordHere_217
    · refine lv_tableIn (off := 241) (tgt := 249) hx hb dX4_wordHere_8 (by omega) (by omega) (by rw [qc3]; rfl) (by decide) ?_
      refine lv_aload_n hx hb dX4_wordHere_249 rfl (lv_at hl 0 rfl) ?_
      refine va_ldcS hx hb hown (EV.str hE 9 rfl).1 dX4_wordHere_250 ?_
      refine m_calli (m_runV (70) (As := [.ref (D.2 100 9)]) (rest := []) hx hb hml hown hts hE hM hS hA ce_X4_isWord tb_600 (V_X4_isWord_h l D A ad ns I L G 9 _ hG hI rfl (by decide)) rfl rfl ⟨Nat.le_of_ble_eq_true rfl, Nat.le_of_ble_eq_true rfl⟩ (hG.1 70 (by decide)) rfl rfl (by decide) rfl hl.1 rfl (Nat.le_of_ble_eq_true rfl) dX4_wordHere_252 ⟨Nat.le_of_ble_eq_true rfl, Nat.le_of_ble_eq_true rfl⟩) hS (fun r36 u H locs hw hM hS => ?_)
      obtain ⟨rfl, xr36⟩ := hw
      have hM : Mem D A ad ns I L G H := hM
      have yr36 := bo01 xr36
      have wxr36 : Bo r36 ((I 70 6).toInt = ((4 : Nat) : Int) ∧ wqa (TC I) (I 70 4).toNatClampNeg (([116, 117, 114, 110] : List Int32).map b8) = true) := xr36
      rw [mb_turn] at wxr36
      refine lv_if_eq (tgt := 263) hx hb dX4_wordHere_255 (by decide) (fun c37 => ?_) (fun c37 => ?_)
      · have hc37 := c37
        have q37 := wxr36.f hc37
        refine lv_bipush (v := (-47)) hx hb dX4_wordHere_263 (by decide) ?_
        exact m_iret hx hb hr hlocks hM hS (Nat.le_of_ble_eq_true rfl) (Nat.le_of_ble_eq_true rfl) ⟨rfl, (by rw [km47]; exact (wdv_no_t (by omega) (wq_f hrl rfl q37)).symm)⟩ dX4_wordHere_265
      · have hc37 := c37
        have q37 := wxr36.t hc37
        refine lv_bipush (v := (-40)) hx hb dX4_wordHere_258 (by decide) ?_
        refine lv_goto (tgt := 265) hx hb dX4_wordHere_260 (by decide) ?_
        exact m_iret hx hb hr hlocks hM hS (Nat.le_of_ble_eq_true rfl) (Nat.le_of_ble_eq_true rfl) ⟨rfl, (by rw [km40]; exact (wdv_turn (wq_t hrl rfl q37)).symm)⟩ dX4_wordHere_265
    · refine lv_tableIn (off := 241) (tgt := 249) hx hb dX4_wordHere_8 (by omega) (by omega) (by rw [qc3]; rfl) (by decide) ?_
      refine lv_aload_n hx hb dX4_wordHere_249 rfl (lv_at hl 0 rfl) ?_
      refine va_ldcS hx hb hown (EV.str hE 9 rfl).1 dX4_wordHere_250 ?_
      refine m_calli (m_runV (70) (As := [.ref (D.2 100 9)]) (rest := []) hx hb hml hown hts hE hM hS hA ce_X4_isWord tb_600 (V_X4_isWord_h l D A ad ns I L G 9 _ hG hI rfl (by decide)) rfl rfl ⟨Nat.le_of_ble_eq_true rfl, Nat.le_of_ble_eq_true rfl⟩ (hG.1 70 (by decide)) rfl rfl (by decide) rfl hl.1 rfl (Nat.le_of_ble_eq_true rfl) dX4_wordHere_252 ⟨Nat.le_of_ble_eq_true rfl, Nat.le_of_ble_eq_true rfl⟩) hS (fun r38 u H locs hw hM hS => ?_)
      obtain ⟨rfl, xr38⟩ := hw
      have hM : Mem D A ad ns I L G H := hM
      have yr38 := bo01 xr38
      have wxr38 : Bo r38 ((I 70 6).toInt = ((4 : Nat) : Int) ∧ wqa (TC I) (I 70 4).toNatClampNeg (([116, 117, 114, 110] : List Int32).map b8) = true) := xr38
      rw [mb_turn] at wxr38
      refine lv_if_eq (tgt := 263) hx hb dX4_wordHere_255 (by decide) (fun c39 => ?_) (fun c39 => ?_)
      · have hc39 := c39
        have q39 := wxr38.f hc39
        refine lv_bipush (v := (-47)) hx hb dX4_wordHere_263 (by decide) ?_
        exact m_iret hx hb hr hlocks hM hS (Nat.le_of_ble_eq_true rfl) (Nat.le_of_ble_eq_true rfl) ⟨rfl, (by rw [km47]; exact (wdv_no_t (by omega) (wq_f hrl rfl q39)).symm)⟩ dX4_wordHere_265
      · have hc39 := c39
        have q39 := wxr38.t hc39
        refine lv_bipush (v := (-40)) hx hb dX4_wordHere_258 (by decide) ?_
        refine lv_goto (tgt := 265) hx hb dX4_wordHere_260 (by decide) ?_
        exact m_iret hx hb hr hlocks hM hS (Nat.le_of_ble_eq_true rfl) (Nat.le_of_ble_eq_true rfl) ⟨rfl, (by rw [km40]; exact (wdv_turn (wq_t hrl rfl q39)).symm)⟩ dX4_wordHere_265
    · refine lv_tableIn (off := 241) (tgt := 249) hx hb dX4_wordHere_8 (by omega) (by omega) (by rw [qc3]; rfl) (by decide) ?_
      refine lv_aload_n hx hb dX4_wordHere_249 rfl (lv_at hl 0 rfl) ?_
      refine va_ldcS hx hb hown (EV.str hE 9 rfl).1 dX4_wordHere_250 ?_
      refine m_calli (m_runV (70) (As := [.ref (D.2 100 9)]) (rest := []) hx hb hml hown hts hE hM hS hA ce_X4_isWord tb_600 (V_X4_isWord_h l D A ad ns I L G 9 _ hG hI rfl (by decide)) rfl rfl ⟨Nat.le_of_ble_eq_true rfl, Nat.le_of_ble_eq_true rfl⟩ (hG.1 70 (by decide)) rfl rfl (by decide) rfl hl.1 rfl (Nat.le_of_ble_eq_true rfl) dX4_wordHere_252 ⟨Nat.le_of_ble_eq_true rfl, Nat.le_of_ble_eq_true rfl⟩) hS (fun r40 u H locs hw hM hS => ?_)
      obtain ⟨rfl, xr40⟩ := hw
      have hM : Mem D A ad ns I L G H := hM
      have yr40 := bo01 xr40
      have wxr40 : Bo r40 ((I 70 6).toInt = ((4 : Nat) : Int) ∧ wqa (TC I) (I 70 4).toNatClampNeg (([116, 117, 114, 110] : List Int32).map b8) = true) := xr40
      rw [mb_turn] at wxr40
      refine lv_if_eq (tgt := 263) hx hb dX4_wordHere_255 (by decide) (fun c41 => ?_) (fun c41 => ?_)
      · have hc41 := c41
        have q41 := wxr40.f hc41
        refine lv_bipush (v := (-47)) hx hb dX4_wordHere_263 (by decide) ?_
        exact m_iret hx hb hr hlocks hM hS (Nat.le_of_ble_eq_true rfl) (Nat.le_of_ble_eq_true rfl) ⟨rfl, (by rw [km47]; exact (wdv_no_t (by omega) (wq_f hrl rfl q41)).symm)⟩ dX4_wordHere_265
      · have hc41 := c41
        have q41 := wxr40.t hc41
        refine lv_bipush (v := (-40)) hx hb dX4_wordHere_258 (by decide) ?_
        refine lv_goto (tgt := 265) hx hb dX4_wordHere_260 (by decide) ?_
        exact m_iret hx hb hr hlocks hM hS (Nat.le_of_ble_eq_true rfl) (Nat.le_of_ble_eq_true rfl) ⟨rfl, (by rw [km40]; exact (wdv_turn (wq_t hrl rfl q41)).symm)⟩ dX4_wordHere_265
    · refine lv_tableIn (off := 210) (tgt := 218) hx hb dX4_wordHere_8 (by omega) (by omega) (by rw [qc3]; rfl) (by decide) ?_
      refine lv_aload_n hx hb dX4_wordHere_218 rfl (lv_at hl 0 rfl) ?_
      refine va_ldcS hx hb hown (EV.str hE 7 rfl).1 dX4_wordHere_219 ?_
      refine m_calli (m_runV (70) (As := [.ref (D.2 100 7)]) (rest := []) hx hb hml hown hts hE hM hS hA ce_X4_isWord tb_600 (V_X4_isWord_h l D A ad ns I L G 7 _ hG hI rfl (by decide)) rfl rfl ⟨Nat.le_of_ble_eq_true rfl, Nat.le_of_ble_eq_true rfl⟩ (hG.1 70 (by decide)) rfl rfl (by decide) rfl hl.1 rfl (Nat.le_of_ble_eq_true rfl) dX4_wordHere_221 ⟨Nat.le_of_ble_eq_true rfl, Nat.le_of_ble_eq_true rfl⟩) hS (fun r42 u H locs hw hM hS => ?_)
      obtain ⟨rfl, xr42⟩ := hw
      have hM : Mem D A ad ns I L G H := hM
      have yr42 := bo01 xr42
      have wxr42 : Bo r42 ((I 70 6).toInt = ((3 : Nat) : Int) ∧ wqa (TC I) (I 70 4).toNatClampNeg (([115, 117, 110] : List Int32).map b8) = true) := xr42
      rw [mb_sun] at wxr42
      refine lv_if_eq (tgt := 232) hx hb dX4_wordHere_224 (by decide) (fun c43 => ?_) (fun c43 => ?_)
      · have hc43 := c43
        have q43 := wxr42.f hc43
        refine lv_aload_n hx hb dX4_wordHere_232 rfl (lv_at hl 0 rfl) ?_
        refine va_ldcS hx hb hown (EV.str hE 8 rfl).1 dX4_wordHere_233 ?_
        refine m_calli (m_runV (70) (As := [.ref (D.2 100 8)]) (rest := []) hx hb hml hown hts hE hM hS hA ce_X4_isWord tb_600 (V_X4_isWord_h l D A ad ns I L G 8 _ hG hI rfl (by decide)) rfl rfl ⟨Nat.le_of_ble_eq_true rfl, Nat.le_of_ble_eq_true rfl⟩ (hG.1 70 (by decide)) rfl rfl (by decide) rfl hl.1 rfl (Nat.le_of_ble_eq_true rfl) dX4_wordHere_235 ⟨Nat.le_of_ble_eq_true rfl, Nat.le_of_ble_eq_true rfl⟩) hS (fun r44 u H locs hw hM hS => ?_)
        obtain ⟨rfl, xr44⟩ := hw
        have hM : Mem D A ad ns I L G H := hM
        have yr44 := bo01 xr44
        have wxr44 : Bo r44 ((I 70 6).toInt = ((5 : Nat) : Int) ∧ wqa (TC I) (I 70 4).toNatClampNeg (([115, 108, 97, 110, 116] : List Int32).map b8) = true) := xr44
        rw [mb_slant] at wxr44
        refine lv_if_eq (tgt := 246) hx hb dX4_wordHere_238 (by decide) (fun c45 => ?_) (fun c45 => ?_)
        · have hc45 := c45
          have q45 := wxr44.f hc45
          refine lv_bipush (v := (-47)) hx hb dX4_wordHere_246 (by decide) ?_
          exact m_iret hx hb hr hlocks hM hS (Nat.le_of_ble_eq_true rfl) (Nat.le_of_ble_eq_true rfl) ⟨rfl, (by rw [km47]; exact (wdv_no_s (by omega) (wq_f hrl rfl q43) (wq_f hrl rfl q45)).symm)⟩ dX4_wordHere_248
        · have hc45 := c45
          have q45 := wxr44.t hc45
          refine lv_bipush (v := (-4)) hx hb dX4_wordHere_241 (by decide) ?_
          refine lv_goto (tgt := 248) hx hb dX4_wordHere_243 (by decide) ?_
          exact m_iret hx hb hr hlocks hM hS (Nat.le_of_ble_eq_true rfl) (Nat.le_of_ble_eq_true rfl) ⟨rfl, (by rw [km4]; exact (wdv_slant (wq_t hrl rfl q45)).symm)⟩ dX4_wordHere_248
      · have hc43 := c43
        have q43 := wxr42.t hc43
        refine lv_bipush (v := (-5)) hx hb dX4_wordHere_227 (by decide) ?_
        refine lv_goto (tgt := 248) hx hb dX4_wordHere_229 (by decide) ?_
        exact m_iret hx hb hr hlocks hM hS (Nat.le_of_ble_eq_true rfl) (Nat.le_of_ble_eq_true rfl) ⟨rfl, (by rw [km5]; exact (wdv_sun (wq_t hrl rfl q43)).symm)⟩ dX4_wordHere_248
set_option maxHeartbeats 4000000 in
set_option maxRecDepth 20000 in
theorem V_X4_signHere_h (l : Launch) (D : va_G) (A : Nat → Prop) (ad : Nat → Nat) (ns : List Nat) (I : MI) (L : ML) (G : MG) (hG : SGC ns G) (hI : INV I) : Met l yX4_signHere (wd yX4_signHere cX4_signHere 2 (some .int)) ({ frames := 1, cells := 0, slots := 0, locals := 21 }) (va_Pc [.ref (ad (70))] (PM D A ad ns I L G)) (va_Qi (fun r u => u = (ad, ns, I, L, G) ∧ (r.toInt = sgv (TC I) (I 70 4).toNatClampNeg)) (BM D A) A) 0 0 A := by
  refine m_ofW (by decide) (Nat.le_of_ble_eq_true rfl) ?_
  intro p e s m below meth c ls args hC hE hM hA hS hl
  obtain ⟨hx, hb, hml, hown, hts, hr, hlocks, hin⟩ := hC
  have km47 : (-47 : Int32).toInt = -47 := by decide
  have km44 : (-44 : Int32).toInt = -44 := by decide
  have km43 : (-43 : Int32).toInt = -43 := by decide
  have km42 : (-42 : Int32).toInt = -42 := by decide
  have km23 : (-23 : Int32).toInt = -23 := by decide
  have km22 : (-22 : Int32).toInt = -22 := by decide
  have km21 : (-21 : Int32).toInt = -21 := by decide
  have km20 : (-20 : Int32).toInt = -20 := by decide
  have km19 : (-19 : Int32).toInt = -19 := by decide
  have km18 : (-18 : Int32).toInt = -18 := by decide
  have km17 : (-17 : Int32).toInt = -17 := by decide
  have km16 : (-16 : Int32).toInt = -16 := by decide
  have km15 : (-15 : Int32).toInt = -15 := by decide
  have k0 : (0 : Int32).toInt = 0 := by decide
  have k1 : (1 : Int32).toInt = 1 := by decide
  have k61 : (61 : Int32).toInt = 61 := by decide
  have hl : lv_has ls 2 [(0, .ref (ad (70)))] := hl
  refine lv_aload_n hx hb dX4_signHere_0 rfl (lv_at hl 0 rfl) ?_
  refine lv_aload_n hx hb dX4_signHere_1 rfl (lv_at hl 0 rfl) ?_
  refine m_geti (70) 4 hx hb hts hown hE oc4 hM (hG.1 70 (by decide)) rfl (by decide) rfl tb_322 dX4_signHere_2 ?_
  have g1 := hI.get (70) 4 (lo := 0) (hi := 801) rfl
  refine lv_iconst (v := (1)) hx hb dX4_signHere_5 (by decide) ?_
  refine lv_iadd hx hb dX4_signHere_6 ?_
  refine lv_topi (fun v2 ev2 => ?_)
  have tv2 := a_add ev2 (by omega) (by omega)
  refine m_calli (m_runV (70) (As := [.int (v2)]) (rest := []) hx hb hml hown hts hE hM hS hA ce_X4_byteAt tb_577 (V_X4_byteAt_h l D A ad ns I L G (v2) hG hI (by first | omega | decide)) rfl rfl ⟨Nat.le_of_ble_eq_true rfl, Nat.le_of_ble_eq_true rfl⟩ (hG.1 70 (by decide)) rfl rfl (by decide) rfl hl.1 rfl (Nat.le_of_ble_eq_true rfl) dX4_signHere_7 ⟨Nat.le_of_ble_eq_true rfl, Nat.le_of_ble_eq_true rfl⟩) hS (fun r3 u H locs hw hM hS => ?_)
  obtain ⟨rfl, xr3⟩ := hw
  have hM : Mem D A ad ns I L G H := hM
  have btr3 : (r3).toInt = TC I (v2).toNatClampNeg := xr3.1
  have bir3 : (v2).toNatClampNeg = (I (70) 4).toNatClampNeg + 1 := by have z1 := tn (i := v2) (by omega); have z2 := tn (i := I (70) 4) (by omega); omega
  rw [bir3] at btr3
  refine lv_bipush (v := (61)) hx hb dX4_signHere_10 (by decide) ?_
  refine lv_icmp_ne (tgt := 19) hx hb dX4_signHere_12 (by decide) (fun c4 => ?_) (fun c4 => ?_)
  · have hc4 := c4
    have q4 := q_ne hc4
    refine lv_iconst (v := (0)) hx hb dX4_signHere_19 (by decide) ?_
    refine lv_istore_n (lv' := [(1, .int (0)), (0, .ref (ad (70)))]) hx hb dX4_signHere_20 rfl hl (by decide) rfl (fun ls hl => ?_)
    refine lv_aload_n hx hb dX4_signHere_21 rfl (lv_at hl 1 rfl) ?_
    refine lv_aload_n hx hb dX4_signHere_22 rfl (lv_at hl 1 rfl) ?_
    refine m_geti (70) 4 hx hb hts hown hE oc4 hM (hG.1 70 (by decide)) rfl (by decide) rfl tb_322 dX4_signHere_23 ?_
    refine m_calli (m_runV (70) (As := [.int (I (70) 4)]) (rest := []) hx hb hml hown hts hE hM hS hA ce_X4_byteAt tb_577 (V_X4_byteAt_h l D A ad ns I L G (I (70) 4) hG hI (by first | omega | decide)) rfl rfl ⟨Nat.le_of_ble_eq_true rfl, Nat.le_of_ble_eq_true rfl⟩ (hG.1 70 (by decide)) rfl rfl (by decide) rfl hl.1 rfl (Nat.le_of_ble_eq_true rfl) dX4_signHere_26 ⟨Nat.le_of_ble_eq_true rfl, Nat.le_of_ble_eq_true rfl⟩) hS (fun r5 u H locs hw hM hS => ?_)
    obtain ⟨rfl, xr5⟩ := hw
    have hM : Mem D A ad ns I L G H := hM
    have btr5 : (r5).toInt = TC I (I (70) 4).toNatClampNeg := xr5.1
    have c6 : (r5).toInt = 42 ∨ (r5).toInt = 43 ∨ (r5).toInt = 45 ∨ (r5).toInt = 47 ∨ (r5).toInt = 59 ∨ (r5).toInt = 60 ∨ (r5).toInt = 61 ∨ (r5).toInt = 62 ∨ (r5).toInt = 91 ∨ (r5).toInt = 93 ∨ ((r5).toInt ≠ 42 ∧ (r5).toInt ≠ 43 ∧ (r5).toInt ≠ 45 ∧ (r5).toInt ≠ 47 ∧ (r5).toInt ≠ 59 ∧ (r5).toInt ≠ 60 ∧ (r5).toInt ≠ 61 ∧ (r5).toInt ≠ 62 ∧ (r5).toInt ≠ 91 ∧ (r5).toInt ≠ 93) := by omega
    rcases c6 with c6 | c6 | c6 | c6 | c6 | c6 | c6 | c6 | c6 | c6 | c6
    · refine lv_lookup (off := 97) (tgt := 126) hx hb dX4_signHere_29 (by decide) (by rw [c6]; rfl) (by decide) ?_
      refine lv_bipush (v := (-17)) hx hb dX4_signHere_126 (by decide) ?_
      exact m_iret hx hb hr hlocks hM hS (Nat.le_of_ble_eq_true rfl) (Nat.le_of_ble_eq_true rfl) ⟨rfl, (sgv_of (Or.inr (Or.inr (Or.inr (Or.inr (Or.inr (Or.inr (Or.inl ⟨by omega, km17⟩))))))))⟩ dX4_signHere_128
    · refine lv_lookup (off := 91) (tgt := 120) hx hb dX4_signHere_29 (by decide) (by rw [c6]; rfl) (by decide) ?_
      refine lv_bipush (v := (-15)) hx hb dX4_signHere_120 (by decide) ?_
      exact m_iret hx hb hr hlocks hM hS (Nat.le_of_ble_eq_true rfl) (Nat.le_of_ble_eq_true rfl) ⟨rfl, (sgv_of (Or.inr (Or.inr (Or.inr (Or.inr (Or.inl ⟨by omega, km15⟩))))))⟩ dX4_signHere_122
    · refine lv_lookup (off := 94) (tgt := 123) hx hb dX4_signHere_29 (by decide) (by rw [c6]; rfl) (by decide) ?_
      refine lv_bipush (v := (-16)) hx hb dX4_signHere_123 (by decide) ?_
      exact m_iret hx hb hr hlocks hM hS (Nat.le_of_ble_eq_true rfl) (Nat.le_of_ble_eq_true rfl) ⟨rfl, (sgv_of (Or.inr (Or.inr (Or.inr (Or.inr (Or.inr (Or.inl ⟨by omega, km16⟩)))))))⟩ dX4_signHere_125
    · refine lv_lookup (off := 100) (tgt := 129) hx hb dX4_signHere_29 (by decide) (by rw [c6]; rfl) (by decide) ?_
      refine lv_bipush (v := (-18)) hx hb dX4_signHere_129 (by decide) ?_
      exact m_iret hx hb hr hlocks hM hS (Nat.le_of_ble_eq_true rfl) (Nat.le_of_ble_eq_true rfl) ⟨rfl, (sgv_of (Or.inr (Or.inr (Or.inr (Or.inr (Or.inr (Or.inr (Or.inr (Or.inl ⟨by omega, km18⟩)))))))))⟩ dX4_signHere_131
    · refine lv_lookup (off := 136) (tgt := 165) hx hb dX4_signHere_29 (by decide) (by rw [c6]; rfl) (by decide) ?_
      refine lv_bipush (v := (-44)) hx hb dX4_signHere_165 (by decide) ?_
      exact m_iret hx hb hr hlocks hM hS (Nat.le_of_ble_eq_true rfl) (Nat.le_of_ble_eq_true rfl) ⟨rfl, (sgv_of (Or.inr (Or.inr (Or.inr (Or.inr (Or.inr (Or.inr (Or.inr (Or.inr (Or.inr (Or.inr (Or.inr (Or.inl ⟨by omega, km44⟩)))))))))))))⟩ dX4_signHere_167
    · refine lv_lookup (off := 103) (tgt := 132) hx hb dX4_signHere_29 (by decide) (by rw [c6]; rfl) (by decide) ?_
      refine lv_iload_n hx hb dX4_signHere_132 rfl (lv_at hl 0 rfl) ?_
      refine lv_if_eq (tgt := 141) hx hb dX4_signHere_133 (by decide) (fun c7 => ?_) (fun c7 => ?_)
      · have hc7 := c7
        have q7 := q_eq hc7
        refine lv_bipush (v := (-19)) hx hb dX4_signHere_141 (by decide) ?_
        exact m_iret hx hb hr hlocks hM hS (Nat.le_of_ble_eq_true rfl) (Nat.le_of_ble_eq_true rfl) ⟨rfl, (sgv_of (Or.inr (Or.inl ⟨by omega, by omega, km19⟩)))⟩ dX4_signHere_143
      · exact absurd c7 (by decide)
    · refine lv_lookup (off := 115) (tgt := 144) hx hb dX4_signHere_29 (by decide) (by rw [c6]; rfl) (by decide) ?_
      refine lv_bipush (v := (-21)) hx hb dX4_signHere_144 (by decide) ?_
      exact m_iret hx hb hr hlocks hM hS (Nat.le_of_ble_eq_true rfl) (Nat.le_of_ble_eq_true rfl) ⟨rfl, (sgv_of (Or.inr (Or.inr (Or.inr (Or.inr (Or.inr (Or.inr (Or.inr (Or.inr (Or.inl ⟨by omega, km21⟩))))))))))⟩ dX4_signHere_146
    · refine lv_lookup (off := 118) (tgt := 147) hx hb dX4_signHere_29 (by decide) (by rw [c6]; rfl) (by decide) ?_
      refine lv_iload_n hx hb dX4_signHere_147 rfl (lv_at hl 0 rfl) ?_
      refine lv_if_eq (tgt := 156) hx hb dX4_signHere_148 (by decide) (fun c8 => ?_) (fun c8 => ?_)
      · have hc8 := c8
        have q8 := q_eq hc8
        refine lv_bipush (v := (-23)) hx hb dX4_signHere_156 (by decide) ?_
        exact m_iret hx hb hr hlocks hM hS (Nat.le_of_ble_eq_true rfl) (Nat.le_of_ble_eq_true rfl) ⟨rfl, (sgv_of (Or.inr (Or.inr (Or.inr (Or.inl ⟨by omega, by omega, km23⟩)))))⟩ dX4_signHere_158
      · exact absurd c8 (by decide)
    · refine lv_lookup (off := 130) (tgt := 159) hx hb dX4_signHere_29 (by decide) (by rw [c6]; rfl) (by decide) ?_
      refine lv_bipush (v := (-42)) hx hb dX4_signHere_159 (by decide) ?_
      exact m_iret hx hb hr hlocks hM hS (Nat.le_of_ble_eq_true rfl) (Nat.le_of_ble_eq_true rfl) ⟨rfl, (sgv_of (Or.inr (Or.inr (Or.inr (Or.inr (Or.inr (Or.inr (Or.inr (Or.inr (Or.inr (Or.inl ⟨by omega, km42⟩)))))))))))⟩ dX4_signHere_161
    · refine lv_lookup (off := 133) (tgt := 162) hx hb dX4_signHere_29 (by decide) (by rw [c6]; rfl) (by decide) ?_
      refine lv_bipush (v := (-43)) hx hb dX4_signHere_162 (by decide) ?_
      exact m_iret hx hb hr hlocks hM hS (Nat.le_of_ble_eq_true rfl) (Nat.le_of_ble_eq_true rfl) ⟨rfl, (sgv_of (Or.inr (Or.inr (Or.inr (Or.inr (Or.inr (Or.inr (Or.inr (Or.inr (Or.inr (Or.inr (Or.inl ⟨by omega, km43⟩))))))))))))⟩ dX4_signHere_164
    · refine lv_lookup (off := 139) (tgt := 168) hx hb dX4_signHere_29 (by decide) (by show Op.lookupswitch.offset [(42, 97), (43, 91), (45, 94), (47, 100), (59, 136), (60, 103), (61, 115), (62, 118), (91, 130), (93, 133)] 139 (r5).toInt = 139; simp only [Op.lookupswitch.offset]; rw [if_neg (by omega), if_neg (by omega), if_neg (by omega), if_neg (by omega), if_neg (by omega), if_neg (by omega), if_neg (by omega), if_neg (by omega), if_neg (by omega), if_neg (by omega)]) (by decide) ?_
      refine lv_bipush (v := (-47)) hx hb dX4_signHere_168 (by decide) ?_
      exact m_iret hx hb hr hlocks hM hS (Nat.le_of_ble_eq_true rfl) (Nat.le_of_ble_eq_true rfl) ⟨rfl, (sgv_of (Or.inr (Or.inr (Or.inr (Or.inr (Or.inr (Or.inr (Or.inr (Or.inr (Or.inr (Or.inr (Or.inr (Or.inr (⟨by omega, by omega, by omega, by omega, by omega, by omega, by omega, by omega, by omega, by omega, km47⟩))))))))))))))⟩ dX4_signHere_170
  · have hc4 := c4
    have q4 := q_eq hc4
    refine lv_iconst (v := (1)) hx hb dX4_signHere_15 (by decide) ?_
    refine lv_goto (tgt := 20) hx hb dX4_signHere_16 (by decide) ?_
    refine lv_istore_n (lv' := [(1, .int (1)), (0, .ref (ad (70)))]) hx hb dX4_signHere_20 rfl hl (by decide) rfl (fun ls hl => ?_)
    refine lv_aload_n hx hb dX4_signHere_21 rfl (lv_at hl 1 rfl) ?_
    refine lv_aload_n hx hb dX4_signHere_22 rfl (lv_at hl 1 rfl) ?_
    refine m_geti (70) 4 hx hb hts hown hE oc4 hM (hG.1 70 (by decide)) rfl (by decide) rfl tb_322 dX4_signHere_23 ?_
    refine m_calli (m_runV (70) (As := [.int (I (70) 4)]) (rest := []) hx hb hml hown hts hE hM hS hA ce_X4_byteAt tb_577 (V_X4_byteAt_h l D A ad ns I L G (I (70) 4) hG hI (by first | omega | decide)) rfl rfl ⟨Nat.le_of_ble_eq_true rfl, Nat.le_of_ble_eq_true rfl⟩ (hG.1 70 (by decide)) rfl rfl (by decide) rfl hl.1 rfl (Nat.le_of_ble_eq_true rfl) dX4_signHere_26 ⟨Nat.le_of_ble_eq_true rfl, Nat.le_of_ble_eq_true rfl⟩) hS (fun r9 u H locs hw hM hS => ?_)
    obtain ⟨rfl, xr9⟩ := hw
    have hM : Mem D A ad ns I L G H := hM
    have btr9 : (r9).toInt = TC I (I (70) 4).toNatClampNeg := xr9.1
    have c10 : (r9).toInt = 42 ∨ (r9).toInt = 43 ∨ (r9).toInt = 45 ∨ (r9).toInt = 47 ∨ (r9).toInt = 59 ∨ (r9).toInt = 60 ∨ (r9).toInt = 61 ∨ (r9).toInt = 62 ∨ (r9).toInt = 91 ∨ (r9).toInt = 93 ∨ ((r9).toInt ≠ 42 ∧ (r9).toInt ≠ 43 ∧ (r9).toInt ≠ 45 ∧ (r9).toInt ≠ 47 ∧ (r9).toInt ≠ 59 ∧ (r9).toInt ≠ 60 ∧ (r9).toInt ≠ 61 ∧ (r9).toInt ≠ 62 ∧ (r9).toInt ≠ 91 ∧ (r9).toInt ≠ 93) := by omega
    rcases c10 with c10 | c10 | c10 | c10 | c10 | c10 | c10 | c10 | c10 | c10 | c10
    · refine lv_lookup (off := 97) (tgt := 126) hx hb dX4_signHere_29 (by decide) (by rw [c10]; rfl) (by decide) ?_
      refine lv_bipush (v := (-17)) hx hb dX4_signHere_126 (by decide) ?_
      exact m_iret hx hb hr hlocks hM hS (Nat.le_of_ble_eq_true rfl) (Nat.le_of_ble_eq_true rfl) ⟨rfl, (sgv_of (Or.inr (Or.inr (Or.inr (Or.inr (Or.inr (Or.inr (Or.inl ⟨by omega, km17⟩))))))))⟩ dX4_signHere_128
    · refine lv_lookup (off := 91) (tgt := 120) hx hb dX4_signHere_29 (by decide) (by rw [c10]; rfl) (by decide) ?_
      refine lv_bipush (v := (-15)) hx hb dX4_signHere_120 (by decide) ?_
      exact m_iret hx hb hr hlocks hM hS (Nat.le_of_ble_eq_true rfl) (Nat.le_of_ble_eq_true rfl) ⟨rfl, (sgv_of (Or.inr (Or.inr (Or.inr (Or.inr (Or.inl ⟨by omega, km15⟩))))))⟩ dX4_signHere_122
    · refine lv_lookup (off := 94) (tgt := 123) hx hb dX4_signHere_29 (by decide) (by rw [c10]; rfl) (by decide) ?_
      refine lv_bipush (v := (-16)) hx hb dX4_signHere_123 (by decide) ?_
      exact m_iret hx hb hr hlocks hM hS (Nat.le_of_ble_eq_true rfl) (Nat.le_of_ble_eq_true rfl) ⟨rfl, (sgv_of (Or.inr (Or.inr (Or.inr (Or.inr (Or.inr (Or.inl ⟨by omega, km16⟩)))))))⟩ dX4_signHere_125
    · refine lv_lookup (off := 100) (tgt := 129) hx hb dX4_signHere_29 (by decide) (by rw [c10]; rfl) (by decide) ?_
      refine lv_bipush (v := (-18)) hx hb dX4_signHere_129 (by decide) ?_
      exact m_iret hx hb hr hlocks hM hS (Nat.le_of_ble_eq_true rfl) (Nat.le_of_ble_eq_true rfl) ⟨rfl, (sgv_of (Or.inr (Or.inr (Or.inr (Or.inr (Or.inr (Or.inr (Or.inr (Or.inl ⟨by omega, km18⟩)))))))))⟩ dX4_signHere_131
    · refine lv_lookup (off := 136) (tgt := 165) hx hb dX4_signHere_29 (by decide) (by rw [c10]; rfl) (by decide) ?_
      refine lv_bipush (v := (-44)) hx hb dX4_signHere_165 (by decide) ?_
      exact m_iret hx hb hr hlocks hM hS (Nat.le_of_ble_eq_true rfl) (Nat.le_of_ble_eq_true rfl) ⟨rfl, (sgv_of (Or.inr (Or.inr (Or.inr (Or.inr (Or.inr (Or.inr (Or.inr (Or.inr (Or.inr (Or.inr (Or.inr (Or.inl ⟨by omega, km44⟩)))))))))))))⟩ dX4_signHere_167
    · refine lv_lookup (off := 103) (tgt := 132) hx hb dX4_signHere_29 (by decide) (by rw [c10]; rfl) (by decide) ?_
      refine lv_iload_n hx hb dX4_signHere_132 rfl (lv_at hl 0 rfl) ?_
      refine lv_if_eq (tgt := 141) hx hb dX4_signHere_133 (by decide) (fun c11 => ?_) (fun c11 => ?_)
      · exact absurd c11 (by decide)
      · have hc11 := c11
        have q11 := q_ne hc11
        refine lv_bipush (v := (-20)) hx hb dX4_signHere_136 (by decide) ?_
        refine lv_goto (tgt := 143) hx hb dX4_signHere_138 (by decide) ?_
        exact m_iret hx hb hr hlocks hM hS (Nat.le_of_ble_eq_true rfl) (Nat.le_of_ble_eq_true rfl) ⟨rfl, (sgv_of (Or.inl ⟨by omega, by omega, km20⟩))⟩ dX4_signHere_143
    · refine lv_lookup (off := 115) (tgt := 144) hx hb dX4_signHere_29 (by decide) (by rw [c10]; rfl) (by decide) ?_
      refine lv_bipush (v := (-21)) hx hb dX4_signHere_144 (by decide) ?_
      exact m_iret hx hb hr hlocks hM hS (Nat.le_of_ble_eq_true rfl) (Nat.le_of_ble_eq_true rfl) ⟨rfl, (sgv_of (Or.inr (Or.inr (Or.inr (Or.inr (Or.inr (Or.inr (Or.inr (Or.inr (Or.inl ⟨by omega, km21⟩))))))))))⟩ dX4_signHere_146
    · refine lv_lookup (off := 118) (tgt := 147) hx hb dX4_signHere_29 (by decide) (by rw [c10]; rfl) (by decide) ?_
      refine lv_iload_n hx hb dX4_signHere_147 rfl (lv_at hl 0 rfl) ?_
      refine lv_if_eq (tgt := 156) hx hb dX4_signHere_148 (by decide) (fun c12 => ?_) (fun c12 => ?_)
      · exact absurd c12 (by decide)
      · have hc12 := c12
        have q12 := q_ne hc12
        refine lv_bipush (v := (-22)) hx hb dX4_signHere_151 (by decide) ?_
        refine lv_goto (tgt := 158) hx hb dX4_signHere_153 (by decide) ?_
        exact m_iret hx hb hr hlocks hM hS (Nat.le_of_ble_eq_true rfl) (Nat.le_of_ble_eq_true rfl) ⟨rfl, (sgv_of (Or.inr (Or.inr (Or.inl ⟨by omega, by omega, km22⟩))))⟩ dX4_signHere_158
    · refine lv_lookup (off := 130) (tgt := 159) hx hb dX4_signHere_29 (by decide) (by rw [c10]; rfl) (by decide) ?_
      refine lv_bipush (v := (-42)) hx hb dX4_signHere_159 (by decide) ?_
      exact m_iret hx hb hr hlocks hM hS (Nat.le_of_ble_eq_true rfl) (Nat.le_of_ble_eq_true rfl) ⟨rfl, (sgv_of (Or.inr (Or.inr (Or.inr (Or.inr (Or.inr (Or.inr (Or.inr (Or.inr (Or.inr (Or.inl ⟨by omega, km42⟩)))))))))))⟩ dX4_signHere_161
    · refine lv_lookup (off := 133) (tgt := 162) hx hb dX4_signHere_29 (by decide) (by rw [c10]; rfl) (by decide) ?_
      refine lv_bipush (v := (-43)) hx hb dX4_signHere_162 (by decide) ?_
      exact m_iret hx hb hr hlocks hM hS (Nat.le_of_ble_eq_true rfl) (Nat.le_of_ble_eq_true rfl) ⟨rfl, (sgv_of (Or.inr (Or.inr (Or.inr (Or.inr (Or.inr (Or.inr (Or.inr (Or.inr (Or.inr (Or.inr (Or.inl ⟨by omega, km43⟩))))))))))))⟩ dX4_signHere_164
    · refine lv_lookup (off := 139) (tgt := 168) hx hb dX4_signHere_29 (by decide) (by show Op.lookupswitch.offset [(42, 97), (43, 91), (45, 94), (47, 100), (59, 136), (60, 103), (61, 115), (62, 118), (91, 130), (93, 133)] 139 (r9).toInt = 139; simp only [Op.lookupswitch.offset]; rw [if_neg (by omega), if_neg (by omega), if_neg (by omega), if_neg (by omega), if_neg (by omega), if_neg (by omega), if_neg (by omega), if_neg (by omega), if_neg (by omega), if_neg (by omega)]) (by decide) ?_
      refine lv_bipush (v := (-47)) hx hb dX4_signHere_168 (by decide) ?_
      exact m_iret hx hb hr hlocks hM hS (Nat.le_of_ble_eq_true rfl) (Nat.le_of_ble_eq_true rfl) ⟨rfl, (sgv_of (Or.inr (Or.inr (Or.inr (Or.inr (Or.inr (Or.inr (Or.inr (Or.inr (Or.inr (Or.inr (Or.inr (Or.inr (⟨by omega, by omega, by omega, by omega, by omega, by omega, by omega, by omega, by omega, by omega, km47⟩))))))))))))))⟩ dX4_signHere_170
def RNX (I I2 : MI) : Prop := (I2 70 6).toNatClampNeg = rnl dg (TC I) (I 70 4).toNatClampNeg ∧ (I2 70 5).toInt = (if 5 < rnl dg (TC I) (I 70 4).toNatClampNeg then -46 else nv (TC I) (I 70 4).toNatClampNeg (rnl dg (TC I) (I 70 4).toNatClampNeg))
set_option maxHeartbeats 4000000 in
set_option maxRecDepth 20000 in
theorem V_X4_readNumber_h (l : Launch) (D : va_G) (A : Nat → Prop) (ad : Nat → Nat) (ns : List Nat) (I : MI) (L : ML) (G : MG) (hG : SGC ns G) (hI : INV I) (h6 : (I 70 6).toInt = 0) : Met l yX4_readNumber (wd yX4_readNumber cX4_readNumber 2 none) ({ frames := 1, cells := 0, slots := 0, locals := 21 }) (va_Pc [.ref (ad (70))] (PM D A ad ns I L G)) (va_Qv (fun u => ∃ I2 L2, u = (ad, ns, I2, L2, G) ∧ INV I2 ∧ Kp [] [(70, 5), (70, 6)] I I2 ∧ (RNX I I2)) (BM D A) A) 0 0 A := by
  refine m_ofW (by decide) (Nat.le_of_ble_eq_true rfl) ?_
  intro p e s m below meth c ls args hC hE hM hA hS hl
  obtain ⟨hx, hb, hml, hown, hts, hr, hlocks, hin⟩ := hC
  have km46 : (-46 : Int32).toInt = -46 := by decide
  have k0 : (0 : Int32).toInt = 0 := by decide
  have k1 : (1 : Int32).toInt = 1 := by decide
  have k5 : (5 : Int32).toInt = 5 := by decide
  have k10 : (10 : Int32).toInt = 10 := by decide
  have k48 : (48 : Int32).toInt = 48 := by decide
  have k400 : (400 : Int32).toInt = 400 := by decide
  have hI0 := hI
  have hK : Kp [] [(70, 5), (70, 6)] I I := Kp.rf
  have hl : lv_has ls 2 [(0, .ref (ad (70)))] := hl
  refine lv_iconst (v := (0)) hx hb dX4_readNumber_0 (by decide) ?_
  refine lv_istore_n (lv' := [(1, .int (0)), (0, .ref (ad (70)))]) hx hb dX4_readNumber_1 rfl hl (by decide) rfl (fun ls hl => ?_)
  have loop2 : ∀ (n : Nat) (x1_2 : Int32) (Ia2 : MI) (La2 : ML) (H : Heap) (locs : List Loc) (ls : Array Slot), INV Ia2 → Kp [] [(70, 5), (70, 6)] I Ia2 → ((Ia2 70 6).toNatClampNeg + rnl dg (TC I) ((I 70 4).toNatClampNeg + (Ia2 70 6).toNatClampNeg) = rnl dg (TC I) (I 70 4).toNatClampNeg) → ((x1_2).toInt = nv (TC I) (I 70 4).toNatClampNeg (Ia2 70 6).toNatClampNeg) → (401 - (Ia2 70 6).toInt).toNat < n → Mem D A ad ns Ia2 La2 G H → va_S A s.heap H locs → lv_has ls 2 [(1, .int (x1_2)), (0, .ref (ad (70)))] → W p l e ({ frames := 1, cells := 0, slots := 0, locals := 21 } : Room) s m args below meth c H locs 0 0 (MQ below (va_Qv (fun u => ∃ I2 L2, u = (ad, ns, I2, L2, G) ∧ INV I2 ∧ Kp [] [(70, 5), (70, 6)] I I2 ∧ (RNX I I2)) (BM D A) A) args s 0 0 A) (F0 m 2 ls []) := by
    intro n
    induction n with
    | zero =>
      intro x1_2 Ia2 La2 H locs ls hI hK hn2 hv2 hmu
      exact absurd hmu (Nat.not_lt_zero _)
    | succ n ih2 =>
      intro x1_2 Ia2 La2 H locs ls hI hK hn2 hv2 hmu2 hM hS hl
      have pq4 : Ia2 70 4 = I 70 4 := hK.get 70 4 rfl
      refine lv_aload_n hx hb dX4_readNumber_2 rfl (lv_at hl 1 rfl) ?_
      refine lv_aload_n hx hb dX4_readNumber_3 rfl (lv_at hl 1 rfl) ?_
      refine m_geti (70) 4 hx hb hts hown hE oc4 hM (hG.1 70 (by decide)) rfl (by decide) rfl tb_322 dX4_readNumber_4 ?_
      have g1 := hI.get (70) 4 (lo := 0) (hi := 801) rfl
      refine lv_aload_n hx hb dX4_readNumber_7 rfl (lv_at hl 1 rfl) ?_
      refine m_geti (70) 6 hx hb hts hown hE oc4 hM (hG.1 70 (by decide)) rfl (by decide) rfl tb_324 dX4_readNumber_8 ?_
      have g2 := hI.get (70) 6 (lo := 0) (hi := 401) rfl
      refine lv_iadd hx hb dX4_readNumber_11 ?_
      refine lv_topi (fun v3 ev3 => ?_)
      have tv3 := a_add ev3 (by omega) (by omega)
      refine m_calli (m_runV (70) (As := [.int (v3)]) (rest := []) hx hb hml hown hts hE hM hS hA ce_X4_byteAt tb_577 (V_X4_byteAt_h l D A ad ns Ia2 La2 G (v3) hG hI (by first | omega | decide)) rfl rfl ⟨Nat.le_of_ble_eq_true rfl, Nat.le_of_ble_eq_true rfl⟩ (hG.1 70 (by decide)) rfl rfl (by decide) rfl hl.1 rfl (Nat.le_of_ble_eq_true rfl) dX4_readNumber_12 ⟨Nat.le_of_ble_eq_true rfl, Nat.le_of_ble_eq_true rfl⟩) hS (fun r4 u H locs hw hM hS => ?_)
      obtain ⟨rfl, xr4⟩ := hw
      have hM : Mem D A ad ns Ia2 La2 G H := hM
      have btr4 : (r4).toInt = TC I (v3).toNatClampNeg := (xr4.1).trans (congrFun (TC_of (hK.getA 71 rfl) (hK.get 70 3 rfl)) _)
      have bir4 : (v3).toNatClampNeg = (Ia2 (70) 4).toNatClampNeg + (Ia2 (70) 6).toNatClampNeg := by have z1 := tn (i := v3) (by omega); have z2 := tn (i := Ia2 (70) 4) (by omega); have z3 := tn (i := Ia2 (70) 6) (by omega); omega
      rw [bir4] at btr4
      rw [pq4] at btr4
      refine m_calli (m_runS (As := [.int (r4)]) (rest := []) hx hb hml hown hts hE hM hS hA ce_X4_isDigit tb_581 (V_X4_isDigit l D A ad ns Ia2 La2 G (r4) hI) rfl rfl ⟨Nat.le_of_ble_eq_true rfl, Nat.le_of_ble_eq_true rfl⟩  rfl hl.1 rfl (Nat.le_of_ble_eq_true rfl) dX4_readNumber_15 ⟨Nat.le_of_ble_eq_true rfl, Nat.le_of_ble_eq_true rfl⟩) hS (fun r5 u H locs hw hM hS => ?_)
      obtain ⟨rfl, xr5⟩ := hw
      have hM : Mem D A ad ns Ia2 La2 G H := hM
      have yr5 := bo01 xr5
      refine lv_if_eq (tgt := 74) hx hb dX4_readNumber_18 (by decide) (fun c6 => ?_) (fun c6 => ?_)
      · have hc6 := c6
        have q6 := xr5.f hc6
        refine lv_aload_n hx hb dX4_readNumber_74 rfl (lv_at hl 1 rfl) ?_
        refine lv_aload_n hx hb dX4_readNumber_75 rfl (lv_at hl 1 rfl) ?_
        refine m_geti (70) 6 hx hb hts hown hE oc4 hM (hG.1 70 (by decide)) rfl (by decide) rfl tb_324 dX4_readNumber_76 ?_
        refine lv_iconst (v := (5)) hx hb dX4_readNumber_79 (by decide) ?_
        refine lv_icmp_le (tgt := 88) hx hb dX4_readNumber_80 (by decide) (fun c7 => ?_) (fun c7 => ?_)
        · have hc7 := c7
          have q7 := q_le hc7
          refine lv_iload_n hx hb dX4_readNumber_88 rfl (lv_at hl 0 rfl) ?_
          refine m_puti (70) 5 hx hb hts hown hE oc4 hM hS (hG.1 70 (by decide)) rfl (by decide) rfl rfl rfl rfl tb_323 dX4_readNumber_89 (fun H locs I8 eI8 hM hS => ?_)
          subst eI8
          have hI := hI.putF (n := 70) (k := 5) (v := x1_2) rfl
          have hK := hK.put (n := 70) (k := 5) (v := x1_2) (by first | rfl | simp [inR])
          have hz := rnl_n (P := dg) (T := TC I) (p := (I 70 4).toNatClampNeg + (Ia2 70 6).toNatClampNeg) (dg_f (by omega))
          have hk := hn2
          rw [hz] at hk
          have z9 := tn (i := Ia2 70 6) (by omega)
          have e6 : (u2 Ia2 (70) 5 (x1_2)) (70) 6 = Ia2 (70) 6 := (show (u2 Ia2 (70) 5 (x1_2)) (70) 6 = Ia2 (70) 6 from by simp [u2_v])
          have e5 : (u2 Ia2 (70) 5 (x1_2)) (70) 5 = x1_2 := (show (u2 Ia2 (70) 5 (x1_2)) (70) 5 = x1_2 from by simp [u2_v])
          exact m_vret hx hb hr hlocks hM hS (Nat.le_of_ble_eq_true rfl) (Nat.le_of_ble_eq_true rfl) ⟨_, _, rfl, hI, hK, ⟨by rw [e6]; omega, by rw [e5, if_neg (by omega), ← hn2, hz]; exact hv2⟩⟩ dX4_readNumber_92
        · have hc7 := c7
          have q7 := q_nle hc7
          refine lv_bipush (v := (-46)) hx hb dX4_readNumber_83 (by decide) ?_
          refine lv_goto (tgt := 89) hx hb dX4_readNumber_85 (by decide) ?_
          refine m_puti (70) 5 hx hb hts hown hE oc4 hM hS (hG.1 70 (by decide)) rfl (by decide) rfl rfl rfl rfl tb_323 dX4_readNumber_89 (fun H locs I9 eI9 hM hS => ?_)
          subst eI9
          have hI := hI.putF (n := 70) (k := 5) (v := (-46 : Int32)) rfl
          have hK := hK.put (n := 70) (k := 5) (v := (-46 : Int32)) (by first | rfl | simp [inR])
          have hz := rnl_n (P := dg) (T := TC I) (p := (I 70 4).toNatClampNeg + (Ia2 70 6).toNatClampNeg) (dg_f (by omega))
          have hk := hn2
          rw [hz] at hk
          have z9 := tn (i := Ia2 70 6) (by omega)
          have e6 : (u2 Ia2 (70) 5 ((-46 : Int32))) (70) 6 = Ia2 (70) 6 := (show (u2 Ia2 (70) 5 ((-46 : Int32))) (70) 6 = Ia2 (70) 6 from by simp [u2_v])
          have e5 : (u2 Ia2 (70) 5 ((-46 : Int32))) (70) 5 = (-46 : Int32) := (show (u2 Ia2 (70) 5 ((-46 : Int32))) (70) 5 = (-46 : Int32) from by simp [u2_v])
          exact m_vret hx hb hr hlocks hM hS (Nat.le_of_ble_eq_true rfl) (Nat.le_of_ble_eq_true rfl) ⟨_, _, rfl, hI, hK, ⟨by rw [e6]; omega, by rw [e5, if_pos (by omega)]; exact km46⟩⟩ dX4_readNumber_92
      · have hc6 := c6
        have q6 := xr5.t hc6
        refine lv_aload_n hx hb dX4_readNumber_21 rfl (lv_at hl 1 rfl) ?_
        refine m_geti (70) 6 hx hb hts hown hE oc4 hM (hG.1 70 (by decide)) rfl (by decide) rfl tb_324 dX4_readNumber_22 ?_
        refine lv_sipush (v := (400)) hx hb dX4_readNumber_25 (by decide) ?_
        refine lv_icmp_ge (tgt := 74) hx hb dX4_readNumber_28 (by decide) (fun c10 => ?_) (fun c10 => ?_)
        · have hc10 := c10
          have q10 := q_le hc10
          refine lv_aload_n hx hb dX4_readNumber_74 rfl (lv_at hl 1 rfl) ?_
          refine lv_aload_n hx hb dX4_readNumber_75 rfl (lv_at hl 1 rfl) ?_
          refine m_geti (70) 6 hx hb hts hown hE oc4 hM (hG.1 70 (by decide)) rfl (by decide) rfl tb_324 dX4_readNumber_76 ?_
          refine lv_iconst (v := (5)) hx hb dX4_readNumber_79 (by decide) ?_
          refine lv_icmp_le (tgt := 88) hx hb dX4_readNumber_80 (by decide) (fun c11 => ?_) (fun c11 => ?_)
          · have hc11 := c11
            have q11 := q_le hc11
            refine lv_iload_n hx hb dX4_readNumber_88 rfl (lv_at hl 0 rfl) ?_
            refine m_puti (70) 5 hx hb hts hown hE oc4 hM hS (hG.1 70 (by decide)) rfl (by decide) rfl rfl rfl rfl tb_323 dX4_readNumber_89 (fun H locs I12 eI12 hM hS => ?_)
            subst eI12
            have hI := hI.putF (n := 70) (k := 5) (v := x1_2) rfl
            have hK := hK.put (n := 70) (k := 5) (v := x1_2) (by first | rfl | simp [inR])
            have hz := rnl_e (P := dg) (T := TC I) (p := (I 70 4).toNatClampNeg + (Ia2 70 6).toNatClampNeg) (by have z2 := tn (i := Ia2 70 6) (by omega); omega)
            have hk := hn2
            rw [hz] at hk
            have z9 := tn (i := Ia2 70 6) (by omega)
            have e6 : (u2 Ia2 (70) 5 (x1_2)) (70) 6 = Ia2 (70) 6 := (show (u2 Ia2 (70) 5 (x1_2)) (70) 6 = Ia2 (70) 6 from by simp [u2_v])
            have e5 : (u2 Ia2 (70) 5 (x1_2)) (70) 5 = x1_2 := (show (u2 Ia2 (70) 5 (x1_2)) (70) 5 = x1_2 from by simp [u2_v])
            exact m_vret hx hb hr hlocks hM hS (Nat.le_of_ble_eq_true rfl) (Nat.le_of_ble_eq_true rfl) ⟨_, _, rfl, hI, hK, ⟨by rw [e6]; omega, by rw [e5, if_neg (by omega), ← hn2, hz]; exact hv2⟩⟩ dX4_readNumber_92
          · have hc11 := c11
            have q11 := q_nle hc11
            refine lv_bipush (v := (-46)) hx hb dX4_readNumber_83 (by decide) ?_
            refine lv_goto (tgt := 89) hx hb dX4_readNumber_85 (by decide) ?_
            refine m_puti (70) 5 hx hb hts hown hE oc4 hM hS (hG.1 70 (by decide)) rfl (by decide) rfl rfl rfl rfl tb_323 dX4_readNumber_89 (fun H locs I13 eI13 hM hS => ?_)
            subst eI13
            have hI := hI.putF (n := 70) (k := 5) (v := (-46 : Int32)) rfl
            have hK := hK.put (n := 70) (k := 5) (v := (-46 : Int32)) (by first | rfl | simp [inR])
            have hz := rnl_e (P := dg) (T := TC I) (p := (I 70 4).toNatClampNeg + (Ia2 70 6).toNatClampNeg) (by have z2 := tn (i := Ia2 70 6) (by omega); omega)
            have hk := hn2
            rw [hz] at hk
            have z9 := tn (i := Ia2 70 6) (by omega)
            have e6 : (u2 Ia2 (70) 5 ((-46 : Int32))) (70) 6 = Ia2 (70) 6 := (show (u2 Ia2 (70) 5 ((-46 : Int32))) (70) 6 = Ia2 (70) 6 from by simp [u2_v])
            have e5 : (u2 Ia2 (70) 5 ((-46 : Int32))) (70) 5 = (-46 : Int32) := (show (u2 Ia2 (70) 5 ((-46 : Int32))) (70) 5 = (-46 : Int32) from by simp [u2_v])
            exact m_vret hx hb hr hlocks hM hS (Nat.le_of_ble_eq_true rfl) (Nat.le_of_ble_eq_true rfl) ⟨_, _, rfl, hI, hK, ⟨by rw [e6]; omega, by rw [e5, if_pos (by omega)]; exact km46⟩⟩ dX4_readNumber_92
        · have hc10 := c10
          have q10 := q_nle hc10
          refine lv_aload_n hx hb dX4_readNumber_31 rfl (lv_at hl 1 rfl) ?_
          refine m_geti (70) 6 hx hb hts hown hE oc4 hM (hG.1 70 (by decide)) rfl (by decide) rfl tb_324 dX4_readNumber_32 ?_
          refine lv_iconst (v := (5)) hx hb dX4_readNumber_35 (by decide) ?_
          refine lv_icmp_ge (tgt := 61) hx hb dX4_readNumber_36 (by decide) (fun c14 => ?_) (fun c14 => ?_)
          · have hc14 := c14
            have q14 := q_le hc14
            refine lv_aload_n hx hb dX4_readNumber_61 rfl (lv_at hl 1 rfl) ?_
            refine lv_dup hx hb dX4_readNumber_62 rfl ?_
            refine m_geti (70) 6 hx hb hts hown hE oc4 hM (hG.1 70 (by decide)) rfl (by decide) rfl tb_324 dX4_readNumber_63 ?_
            refine lv_iconst (v := (1)) hx hb dX4_readNumber_66 (by decide) ?_
            refine lv_iadd hx hb dX4_readNumber_67 ?_
            refine lv_topi (fun v15 ev15 => ?_)
            have tv15 := a_add ev15 (by omega) (by omega)
            refine m_puti (70) 6 hx hb hts hown hE oc4 hM hS (hG.1 70 (by decide)) rfl (by decide) rfl rfl rfl rfl tb_324 dX4_readNumber_68 (fun H locs I16 eI16 hM hS => ?_)
            subst eI16
            have hI := hI.put (n := 70) (k := 6) (v := v15) (lo := 0) (hi := 401) rfl (by first | omega | decide)
            have hK := hK.put (n := 70) (k := 6) (v := v15) (by first | rfl | simp [inR])
            refine lv_goto (tgt := 2) hx hb dX4_readNumber_71 (by decide) ?_
            have tr706 : ((u2 Ia2 (70) 6 (v15)) (70) 6).toInt = (v15 : Int32).toInt := congrArg Int32.toInt ((show (u2 Ia2 (70) 6 (v15)) (70) 6 = v15 from by simp [u2_v]))
            have e6 : (u2 Ia2 (70) 6 (v15)) (70) 6 = v15 := (show (u2 Ia2 (70) 6 (v15)) (70) 6 = v15 from by simp [u2_v])
            have z6 : (v15).toNatClampNeg = (Ia2 70 6).toNatClampNeg + 1 := by have z1 := tn (i := v15) (by omega); have z2 := tn (i := Ia2 70 6) (by omega); omega
            have hd6 := rnl_y (P := dg) (T := TC I) (okt_lt (TC_ok hI0) (p := (I 70 4).toNatClampNeg + (Ia2 70 6).toNatClampNeg) (by omega)) (dg_t (by omega))
            exact ih2 (x1_2) (u2 Ia2 (70) 6 (v15)) La2 _ _ ls hI hK (by rw [e6, z6]; rw [show (I 70 4).toNatClampNeg + ((Ia2 70 6).toNatClampNeg + 1) = (I 70 4).toNatClampNeg + (Ia2 70 6).toNatClampNeg + 1 from rfl]; omega) (by rw [e6, z6, nv_c (by have z2 := tn (i := Ia2 70 6) (by omega); omega)]; exact hv2) (by omega) hM hS (lv_sub hl [0, 1] rfl)
          · have hc14 := c14
            have q14 := q_nle hc14
            refine lv_bipush (v := (10)) hx hb dX4_readNumber_39 (by decide) ?_
            refine lv_iload_n hx hb dX4_readNumber_41 rfl (lv_at hl 0 rfl) ?_
            refine lv_imul hx hb dX4_readNumber_42 ?_
            refine lv_topi (fun v17 ev17 => ?_)
            have hb9 := nv_9 (T := TC I) (p := (I 70 4).toNatClampNeg) (k := (Ia2 70 6).toNatClampNeg) (fun i hi => rnl_all _ _ rfl i (by omega)) (by have z9 := tn (i := Ia2 70 6) (by omega); omega)
            have tv17 := a_mulL (c := 10) ev17 (by decide) (by omega) (by omega)
            refine lv_aload_n hx hb dX4_readNumber_43 rfl (lv_at hl 1 rfl) ?_
            refine lv_aload_n hx hb dX4_readNumber_44 rfl (lv_at hl 1 rfl) ?_
            refine m_geti (70) 4 hx hb hts hown hE oc4 hM (hG.1 70 (by decide)) rfl (by decide) rfl tb_322 dX4_readNumber_45 ?_
            refine lv_aload_n hx hb dX4_readNumber_48 rfl (lv_at hl 1 rfl) ?_
            refine m_geti (70) 6 hx hb hts hown hE oc4 hM (hG.1 70 (by decide)) rfl (by decide) rfl tb_324 dX4_readNumber_49 ?_
            refine lv_iadd hx hb dX4_readNumber_52 ?_
            refine lv_topi (fun v18 ev18 => ?_)
            have tv18 := a_add ev18 (by omega) (by omega)
            refine m_calli (m_runV (70) (As := [.int (v18)]) (rest := [.int (v17)]) hx hb hml hown hts hE hM hS hA ce_X4_byteAt tb_577 (V_X4_byteAt_h l D A ad ns Ia2 La2 G (v18) hG hI (by first | omega | decide)) rfl rfl ⟨Nat.le_of_ble_eq_true rfl, Nat.le_of_ble_eq_true rfl⟩ (hG.1 70 (by decide)) rfl rfl (by decide) rfl hl.1 rfl (Nat.le_of_ble_eq_true rfl) dX4_readNumber_53 ⟨Nat.le_of_ble_eq_true rfl, Nat.le_of_ble_eq_true rfl⟩) hS (fun r19 u H locs hw hM hS => ?_)
            obtain ⟨rfl, xr19⟩ := hw
            have hM : Mem D A ad ns Ia2 La2 G H := hM
            have btr19 : (r19).toInt = TC I (v18).toNatClampNeg := (xr19.1).trans (congrFun (TC_of (hK.getA 71 rfl) (hK.get 70 3 rfl)) _)
            have bir19 : (v18).toNatClampNeg = (Ia2 (70) 4).toNatClampNeg + (Ia2 (70) 6).toNatClampNeg := by have z1 := tn (i := v18) (by omega); have z2 := tn (i := Ia2 (70) 4) (by omega); have z3 := tn (i := Ia2 (70) 6) (by omega); omega
            rw [bir19] at btr19
            rw [pq4] at btr19
            refine lv_iadd hx hb dX4_readNumber_56 ?_
            refine lv_topi (fun v20 ev20 => ?_)
            have tv20 := a_add ev20 (by omega) (by omega)
            refine lv_bipush (v := (48)) hx hb dX4_readNumber_57 (by decide) ?_
            refine lv_isub hx hb dX4_readNumber_59 ?_
            refine lv_topi (fun v21 ev21 => ?_)
            have tv21 := a_sub ev21 (by omega) (by omega)
            refine lv_istore_n (lv' := [(1, .int (v21)), (0, .ref (ad (70)))]) hx hb dX4_readNumber_60 rfl hl (by decide) rfl (fun ls hl => ?_)
            refine lv_aload_n hx hb dX4_readNumber_61 rfl (lv_at hl 1 rfl) ?_
            refine lv_dup hx hb dX4_readNumber_62 rfl ?_
            refine m_geti (70) 6 hx hb hts hown hE oc4 hM (hG.1 70 (by decide)) rfl (by decide) rfl tb_324 dX4_readNumber_63 ?_
            refine lv_iconst (v := (1)) hx hb dX4_readNumber_66 (by decide) ?_
            refine lv_iadd hx hb dX4_readNumber_67 ?_
            refine lv_topi (fun v22 ev22 => ?_)
            have tv22 := a_add ev22 (by omega) (by omega)
            refine m_puti (70) 6 hx hb hts hown hE oc4 hM hS (hG.1 70 (by decide)) rfl (by decide) rfl rfl rfl rfl tb_324 dX4_readNumber_68 (fun H locs I23 eI23 hM hS => ?_)
            subst eI23
            have hI := hI.put (n := 70) (k := 6) (v := v22) (lo := 0) (hi := 401) rfl (by first | omega | decide)
            have hK := hK.put (n := 70) (k := 6) (v := v22) (by first | rfl | simp [inR])
            refine lv_goto (tgt := 2) hx hb dX4_readNumber_71 (by decide) ?_
            have tr706 : ((u2 Ia2 (70) 6 (v22)) (70) 6).toInt = (v22 : Int32).toInt := congrArg Int32.toInt ((show (u2 Ia2 (70) 6 (v22)) (70) 6 = v22 from by simp [u2_v]))
            have e6 : (u2 Ia2 (70) 6 (v22)) (70) 6 = v22 := (show (u2 Ia2 (70) 6 (v22)) (70) 6 = v22 from by simp [u2_v])
            have z6 : (v22).toNatClampNeg = (Ia2 70 6).toNatClampNeg + 1 := by have z1 := tn (i := v22) (by omega); have z2 := tn (i := Ia2 70 6) (by omega); omega
            have hd6 := rnl_y (P := dg) (T := TC I) (okt_lt (TC_ok hI0) (p := (I 70 4).toNatClampNeg + (Ia2 70 6).toNatClampNeg) (by omega)) (dg_t (by omega))
            exact ih2 (v21) (u2 Ia2 (70) 6 (v22)) La2 _ _ ls hI hK (by rw [e6, z6]; rw [show (I 70 4).toNatClampNeg + ((Ia2 70 6).toNatClampNeg + 1) = (I 70 4).toNatClampNeg + (Ia2 70 6).toNatClampNeg + 1 from rfl]; omega) (by rw [e6, z6, nv_s (by have z2 := tn (i := Ia2 70 6) (by omega); omega)]; omega) (by omega) hM hS (lv_sub hl [0, 1] rfl)
  exact loop2 (_ + 1) (0) I L _ _ ls hI hK (by rw [show (I 70 6).toNatClampNeg = 0 from cl_of (by omega)]; simp) (by rw [show (I 70 6).toNatClampNeg = 0 from cl_of (by omega)]; exact k0) (Nat.lt_succ_self _) hM hS (lv_sub hl [0, 1] rfl)
set_option maxHeartbeats 4000000 in
set_option maxRecDepth 20000 in
theorem V_X4_readToken_h (l : Launch) (D : va_G) (A : Nat → Prop) (ad : Nat → Nat) (ns : List Nat) (I : MI) (L : ML) (G : MG) (hG : SGC ns G) (hI : INV I) : Met l yX4_readToken (wd yX4_readToken cX4_readToken 1 none) ({ frames := 6, cells := 0, slots := 0, locals := 127 }) (va_Pc [.ref (ad (70))] (PM D A ad ns I L G)) (va_Qv (fun u => ∃ I2 L2, u = (ad, ns, I2, L2, G) ∧ INV I2 ∧ Kp [] [(70, 4), (70, 5), (70, 6)] I I2 ∧ (((I2 70 6).toInt = 0 ∨ (I2 70 4).toInt < 400) ∧ RTX I I2)) (BM D A) A) 0 0 A := by
  refine m_ofW (by decide) (Nat.le_of_ble_eq_true rfl) ?_
  intro p e s m below meth c ls args hC hE hM hA hS hl
  obtain ⟨hx, hb, hml, hown, hts, hr, hlocks, hin⟩ := hC
  have km45 : (-45 : Int32).toInt = -45 := by decide
  have km22 : (-22 : Int32).toInt = -22 := by decide
  have km20 : (-20 : Int32).toInt = -20 := by decide
  have k0 : (0 : Int32).toInt = 0 := by decide
  have k1 : (1 : Int32).toInt = 1 := by decide
  have k2 : (2 : Int32).toInt = 2 := by decide
  have k32 : (32 : Int32).toInt = 32 := by decide
  have k400 : (400 : Int32).toInt = 400 := by decide
  have hT := TC_ok hI
  have hK : Kp [] [(70, 4), (70, 5), (70, 6)] I I := Kp.rf
  have hl : lv_has ls 1 [(0, .ref (ad (70)))] := hl
  have loop0 : ∀ (n : Nat)  (Ia0 : MI) (La0 : ML) (H : Heap) (locs : List Loc) (ls : Array Slot), INV Ia0 → Kp [] [(70, 4), (70, 5), (70, 6)] I Ia0 → (skp (TC I) (Ia0 70 4).toNatClampNeg = skp (TC I) (I 70 4).toNatClampNeg) → (401 - (Ia0 70 4).toInt).toNat < n → Mem D A ad ns Ia0 La0 G H → va_S A s.heap H locs → lv_has ls 1 [(0, .ref (ad (70)))] → W p l e ({ frames := 6, cells := 0, slots := 0, locals := 127 } : Room) s m args below meth c H locs 0 0 (MQ below (va_Qv (fun u => ∃ I2 L2, u = (ad, ns, I2, L2, G) ∧ INV I2 ∧ Kp [] [(70, 4), (70, 5), (70, 6)] I I2 ∧ (((I2 70 6).toInt = 0 ∨ (I2 70 4).toInt < 400) ∧ RTX I I2)) (BM D A) A) args s 0 0 A) (F0 m 0 ls []) := by
    intro n
    induction n with
    | zero =>
      intro  Ia0 La0 H locs ls hI hK hs0 hmu
      exact absurd hmu (Nat.not_lt_zero _)
    | succ n ih0 =>
      intro  Ia0 La0 H locs ls hI hK hs0 hmu0 hM hS hl
      have h71 := hK.getA 71 rfl
      have h703 := hK.get 70 3 rfl
      refine lv_aload_n hx hb dX4_readToken_0 rfl (lv_at hl 0 rfl) ?_
      refine m_geti (70) 4 hx hb hts hown hE oc4 hM (hG.1 70 (by decide)) rfl (by decide) rfl tb_322 dX4_readToken_1 ?_
      have g1 := hI.get (70) 4 (lo := 0) (hi := 801) rfl
      refine lv_aload_n hx hb dX4_readToken_4 rfl (lv_at hl 0 rfl) ?_
      refine m_geti (70) 3 hx hb hts hown hE oc4 hM (hG.1 70 (by decide)) rfl (by decide) rfl tb_321 dX4_readToken_5 ?_
      have g2 := hI.get (70) 3 (lo := 0) (hi := 400) rfl
      refine lv_icmp_ge (tgt := 38) hx hb dX4_readToken_8 (by decide) (fun c3 => ?_) (fun c3 => ?_)
      · have hc3 := c3
        have q3 := q_le hc3
        refine lv_aload_n hx hb dX4_readToken_38 rfl (lv_at hl 0 rfl) ?_
        refine lv_iconst (v := (0)) hx hb dX4_readToken_39 (by decide) ?_
        refine m_puti (70) 6 hx hb hts hown hE oc4 hM hS (hG.1 70 (by decide)) rfl (by decide) rfl rfl rfl rfl tb_324 dX4_readToken_40 (fun H locs I4 eI4 hM hS => ?_)
        have htx : TC I (Ia0 70 4).toNatClampNeg = -45 := (congrFun (TC_of (I := I) (I2 := Ia0) h71 h703) _).symm.trans (TXT_n (by have z1 := tn (i := Ia0 70 4) (by omega); omega))
        have hq4 : (Ia0 70 4).toNatClampNeg = skp (TC I) (I 70 4).toNatClampNeg := by rw [← hs0]; exact (skp_n (by omega)).symm
        subst eI4
        have hI := hI.put (n := 70) (k := 6) (v := 0) (lo := 0) (hi := 401) rfl (by first | omega | decide)
        have hK := hK.put (n := 70) (k := 6) (v := 0) (by first | rfl | simp [inR])
        refine lv_aload_n hx hb dX4_readToken_43 rfl (lv_at hl 0 rfl) ?_
        refine m_geti (70) 4 hx hb hts hown hE oc4 hM (hG.1 70 (by decide)) rfl (by decide) rfl tb_322 dX4_readToken_44 ?_
        have z5 : (u2 Ia0 (70) 6 (0)) (70) 4 = Ia0 (70) 4 := (show (u2 Ia0 (70) 6 (0)) (70) 4 = Ia0 (70) 4 from by simp [u2_v])
        rw [z5]
        refine lv_aload_n hx hb dX4_readToken_47 rfl (lv_at hl 0 rfl) ?_
        refine m_geti (70) 3 hx hb hts hown hE oc4 hM (hG.1 70 (by decide)) rfl (by decide) rfl tb_321 dX4_readToken_48 ?_
        have z6 : (u2 Ia0 (70) 6 (0)) (70) 3 = Ia0 (70) 3 := (show (u2 Ia0 (70) 6 (0)) (70) 3 = Ia0 (70) 3 from by simp [u2_v])
        rw [z6]
        refine lv_icmp_lt (tgt := 63) hx hb dX4_readToken_51 (by decide) (fun c7 => ?_) (fun c7 => ?_)
        · have hc7 := c7
          have q7 := q_lt hc7
          refine lv_aload_n hx hb dX4_readToken_63 rfl (lv_at hl 0 rfl) ?_
          refine lv_aload_n hx hb dX4_readToken_64 rfl (lv_at hl 0 rfl) ?_
          refine m_geti (70) 4 hx hb hts hown hE oc4 hM (hG.1 70 (by decide)) rfl (by decide) rfl tb_322 dX4_readToken_65 ?_
          have z8 : (u2 Ia0 (70) 6 (0)) (70) 4 = Ia0 (70) 4 := (show (u2 Ia0 (70) 6 (0)) (70) 4 = Ia0 (70) 4 from by simp [u2_v])
          rw [z8]
          refine m_calli (m_runV (70) (As := [.int (Ia0 (70) 4)]) (rest := []) hx hb hml hown hts hE hM hS hA ce_X4_byteAt tb_577 (V_X4_byteAt_h l D A ad ns (u2 Ia0 (70) 6 (0)) La0 G (Ia0 (70) 4) hG hI (by first | omega | decide)) rfl rfl ⟨Nat.le_of_ble_eq_true rfl, Nat.le_of_ble_eq_true rfl⟩ (hG.1 70 (by decide)) rfl rfl (by decide) rfl hl.1 rfl (Nat.le_of_ble_eq_true rfl) dX4_readToken_68 ⟨Nat.le_of_ble_eq_true rfl, Nat.le_of_ble_eq_true rfl⟩) hS (fun r9 u H locs hw hM hS => ?_)
          obtain ⟨rfl, xr9⟩ := hw
          have hM : Mem D A ad ns (u2 Ia0 (70) 6 (0)) La0 G H := hM
          have btr9 : (r9).toInt = TC I (Ia0 (70) 4).toNatClampNeg := (xr9.1).trans (congrFun (TC_of (hK.getA 71 rfl) (hK.get 70 3 rfl)) _)
          refine m_calli (m_runS (As := [.int (r9)]) (rest := []) hx hb hml hown hts hE hM hS hA ce_X4_isDigit tb_581 (V_X4_isDigit l D A ad ns (u2 Ia0 (70) 6 (0)) La0 G (r9) hI) rfl rfl ⟨Nat.le_of_ble_eq_true rfl, Nat.le_of_ble_eq_true rfl⟩  rfl hl.1 rfl (Nat.le_of_ble_eq_true rfl) dX4_readToken_71 ⟨Nat.le_of_ble_eq_true rfl, Nat.le_of_ble_eq_true rfl⟩) hS (fun r10 u H locs hw hM hS => ?_)
          obtain ⟨rfl, xr10⟩ := hw
          have hM : Mem D A ad ns (u2 Ia0 (70) 6 (0)) La0 G H := hM
          have yr10 := bo01 xr10
          refine lv_if_eq (tgt := 84) hx hb dX4_readToken_74 (by decide) (fun c11 => ?_) (fun c11 => ?_)
          · have hc11 := c11
            have q11 := xr10.f hc11
            refine lv_aload_n hx hb dX4_readToken_84 rfl (lv_at hl 0 rfl) ?_
            refine lv_aload_n hx hb dX4_readToken_85 rfl (lv_at hl 0 rfl) ?_
            refine m_geti (70) 4 hx hb hts hown hE oc4 hM (hG.1 70 (by decide)) rfl (by decide) rfl tb_322 dX4_readToken_86 ?_
            have z12 : (u2 Ia0 (70) 6 (0)) (70) 4 = Ia0 (70) 4 := (show (u2 Ia0 (70) 6 (0)) (70) 4 = Ia0 (70) 4 from by simp [u2_v])
            rw [z12]
            refine m_calli (m_runV (70) (As := [.int (Ia0 (70) 4)]) (rest := []) hx hb hml hown hts hE hM hS hA ce_X4_byteAt tb_577 (V_X4_byteAt_h l D A ad ns (u2 Ia0 (70) 6 (0)) La0 G (Ia0 (70) 4) hG hI (by first | omega | decide)) rfl rfl ⟨Nat.le_of_ble_eq_true rfl, Nat.le_of_ble_eq_true rfl⟩ (hG.1 70 (by decide)) rfl rfl (by decide) rfl hl.1 rfl (Nat.le_of_ble_eq_true rfl) dX4_readToken_89 ⟨Nat.le_of_ble_eq_true rfl, Nat.le_of_ble_eq_true rfl⟩) hS (fun r13 u H locs hw hM hS => ?_)
            obtain ⟨rfl, xr13⟩ := hw
            have hM : Mem D A ad ns (u2 Ia0 (70) 6 (0)) La0 G H := hM
            have btr13 : (r13).toInt = TC I (Ia0 (70) 4).toNatClampNeg := (xr13.1).trans (congrFun (TC_of (hK.getA 71 rfl) (hK.get 70 3 rfl)) _)
            refine m_calli (m_runS (As := [.int (r13)]) (rest := []) hx hb hml hown hts hE hM hS hA ce_X4_isLetter tb_588 (V_X4_isLetter l D A ad ns (u2 Ia0 (70) 6 (0)) La0 G (r13) hI) rfl rfl ⟨Nat.le_of_ble_eq_true rfl, Nat.le_of_ble_eq_true rfl⟩  rfl hl.1 rfl (Nat.le_of_ble_eq_true rfl) dX4_readToken_92 ⟨Nat.le_of_ble_eq_true rfl, Nat.le_of_ble_eq_true rfl⟩) hS (fun r14 u H locs hw hM hS => ?_)
            obtain ⟨rfl, xr14⟩ := hw
            have hM : Mem D A ad ns (u2 Ia0 (70) 6 (0)) La0 G H := hM
            have yr14 := bo01 xr14
            refine lv_if_eq (tgt := 166) hx hb dX4_readToken_95 (by decide) (fun c15 => ?_) (fun c15 => ?_)
            · have hc15 := c15
              have q15 := xr14.f hc15
              refine lv_aload_n hx hb dX4_readToken_166 rfl (lv_at hl 0 rfl) ?_
              refine lv_aload_n hx hb dX4_readToken_167 rfl (lv_at hl 0 rfl) ?_
              have hTx : TC (u2 Ia0 (70) 6 (0)) = TC I := TC_of (hK.getA 71 rfl) (hK.get 70 3 rfl)
              refine m_calli (m_runV (70) (As := []) (rest := [.ref (ad (70))]) hx hb hml hown hts hE hM hS hA ce_X4_signHere tb_661 (V_X4_signHere_h l D A ad ns (u2 Ia0 (70) 6 (0)) La0 G hG hI) rfl rfl ⟨Nat.le_of_ble_eq_true rfl, Nat.le_of_ble_eq_true rfl⟩ (hG.1 70 (by decide)) rfl rfl (by decide) rfl hl.1 rfl (Nat.le_of_ble_eq_true rfl) dX4_readToken_168 ⟨Nat.le_of_ble_eq_true rfl, Nat.le_of_ble_eq_true rfl⟩) hS (fun r16 u H locs hw hM hS => ?_)
              obtain ⟨rfl, xr16⟩ := hw
              have hM : Mem D A ad ns (u2 Ia0 (70) 6 (0)) La0 G H := hM
              refine m_puti (70) 5 hx hb hts hown hE oc4 hM hS (hG.1 70 (by decide)) rfl (by decide) rfl rfl rfl rfl tb_323 dX4_readToken_171 (fun H locs I17 eI17 hM hS => ?_)
              subst eI17
              have hI := hI.putF (n := 70) (k := 5) (v := r16) rfl
              have hK := hK.put (n := 70) (k := 5) (v := r16) (by first | rfl | simp [inR])
              refine lv_aload_n hx hb dX4_readToken_174 rfl (lv_at hl 0 rfl) ?_
              refine lv_aload_n hx hb dX4_readToken_175 rfl (lv_at hl 0 rfl) ?_
              refine m_geti (70) 5 hx hb hts hown hE oc4 hM (hG.1 70 (by decide)) rfl (by decide) rfl tb_323 dX4_readToken_176 ?_
              have z18 : (u2 (u2 Ia0 (70) 6 (0)) (70) 5 (r16)) (70) 5 = r16 := (show (u2 (u2 Ia0 (70) 6 (0)) (70) 5 (r16)) (70) 5 = r16 from by simp [u2_v])
              rw [z18]
              refine lv_bipush (v := (-20)) hx hb dX4_readToken_179 (by decide) ?_
              refine lv_icmp_eq (tgt := 193) hx hb dX4_readToken_181 (by decide) (fun c19 => ?_) (fun c19 => ?_)
              · have hc19 := c19
                have q19 := q_eq hc19
                refine lv_iconst (v := (2)) hx hb dX4_readToken_193 (by decide) ?_
                refine lv_goto (tgt := 198) hx hb dX4_readToken_194 (by decide) ?_
                refine m_puti (70) 6 hx hb hts hown hE oc4 hM hS (hG.1 70 (by decide)) rfl (by decide) rfl rfl rfl rfl tb_324 dX4_readToken_198 (fun H locs I20 eI20 hM hS => ?_)
                subst eI20
                have hI := hI.put (n := 70) (k := 6) (v := 2) (lo := 0) (hi := 401) rfl (by first | omega | decide)
                have hK := hK.put (n := 70) (k := 6) (v := 2) (by first | rfl | simp [inR])
                have e4 : (u2 (u2 (u2 Ia0 (70) 6 (0)) (70) 5 (r16)) (70) 6 (2)) (70) 4 = Ia0 (70) 4 := (show (u2 (u2 (u2 Ia0 (70) 6 (0)) (70) 5 (r16)) (70) 6 (2)) (70) 4 = Ia0 (70) 4 from by simp [u2_v])
                have e5 : (u2 (u2 (u2 Ia0 (70) 6 (0)) (70) 5 (r16)) (70) 6 (2)) (70) 5 = r16 := (show (u2 (u2 (u2 Ia0 (70) 6 (0)) (70) 5 (r16)) (70) 6 (2)) (70) 5 = r16 from by simp [u2_v])
                have e6 : (u2 (u2 (u2 Ia0 (70) 6 (0)) (70) 5 (r16)) (70) 6 (2)) (70) 6 = 2 := (show (u2 (u2 (u2 Ia0 (70) 6 (0)) (70) 5 (r16)) (70) 6 (2)) (70) 6 = 2 from by simp [u2_v])
                have e4q := congrArg Int32.toInt e4
                have e6q := congrArg Int32.toInt e6
                have hxq := xr16
                have e4j : (u2 Ia0 (70) 6 (0)) 70 4 = Ia0 70 4 := by simp [u2_v]
                rw [hTx, e4j, hq4] at hxq
                have hsg := sgv_c (TC I) (skp (TC I) (I 70 4).toNatClampNeg)
                rw [← hxq] at hsg
                have ht := tk_S (T := TC I) (q := skp (TC I) (I 70 4).toNatClampNeg) (by rw [← hq4]; omega) (by rw [← hq4]; omega) (by rw [← hq4]; omega)
                have hl2 : tkn (TC I) (skp (TC I) (I 70 4).toNatClampNeg) = 2 := by
                  clear htx hs0
                  unfold sgs at hsg
                  rw [ht.2, if_pos (by omega)]
                exact m_vret hx hb hr hlocks hM hS (Nat.le_of_ble_eq_true rfl) (Nat.le_of_ble_eq_true rfl) ⟨_, _, rfl, hI, hK, ⟨by omega, by rw [e4]; exact hq4, by rw [ht.1, e5]; exact hxq, by rw [hl2, e6]; rfl⟩⟩ dX4_readToken_201
              · have hc19 := c19
                have q19 := q_ne hc19
                refine lv_aload_n hx hb dX4_readToken_184 rfl (lv_at hl 0 rfl) ?_
                refine m_geti (70) 5 hx hb hts hown hE oc4 hM (hG.1 70 (by decide)) rfl (by decide) rfl tb_323 dX4_readToken_185 ?_
                have z21 : (u2 (u2 Ia0 (70) 6 (0)) (70) 5 (r16)) (70) 5 = r16 := (show (u2 (u2 Ia0 (70) 6 (0)) (70) 5 (r16)) (70) 5 = r16 from by simp [u2_v])
                rw [z21]
                refine lv_bipush (v := (-22)) hx hb dX4_readToken_188 (by decide) ?_
                refine lv_icmp_ne (tgt := 197) hx hb dX4_readToken_190 (by decide) (fun c22 => ?_) (fun c22 => ?_)
                · have hc22 := c22
                  have q22 := q_ne hc22
                  refine lv_iconst (v := (1)) hx hb dX4_readToken_197 (by decide) ?_
                  refine m_puti (70) 6 hx hb hts hown hE oc4 hM hS (hG.1 70 (by decide)) rfl (by decide) rfl rfl rfl rfl tb_324 dX4_readToken_198 (fun H locs I23 eI23 hM hS => ?_)
                  subst eI23
                  have hI := hI.put (n := 70) (k := 6) (v := 1) (lo := 0) (hi := 401) rfl (by first | omega | decide)
                  have hK := hK.put (n := 70) (k := 6) (v := 1) (by first | rfl | simp [inR])
                  have e4 : (u2 (u2 (u2 Ia0 (70) 6 (0)) (70) 5 (r16)) (70) 6 (1)) (70) 4 = Ia0 (70) 4 := (show (u2 (u2 (u2 Ia0 (70) 6 (0)) (70) 5 (r16)) (70) 6 (1)) (70) 4 = Ia0 (70) 4 from by simp [u2_v])
                  have e5 : (u2 (u2 (u2 Ia0 (70) 6 (0)) (70) 5 (r16)) (70) 6 (1)) (70) 5 = r16 := (show (u2 (u2 (u2 Ia0 (70) 6 (0)) (70) 5 (r16)) (70) 6 (1)) (70) 5 = r16 from by simp [u2_v])
                  have e6 : (u2 (u2 (u2 Ia0 (70) 6 (0)) (70) 5 (r16)) (70) 6 (1)) (70) 6 = 1 := (show (u2 (u2 (u2 Ia0 (70) 6 (0)) (70) 5 (r16)) (70) 6 (1)) (70) 6 = 1 from by simp [u2_v])
                  have e4q := congrArg Int32.toInt e4
                  have e6q := congrArg Int32.toInt e6
                  have hxq := xr16
                  have e4j : (u2 Ia0 (70) 6 (0)) 70 4 = Ia0 70 4 := by simp [u2_v]
                  rw [hTx, e4j, hq4] at hxq
                  have hsg := sgv_c (TC I) (skp (TC I) (I 70 4).toNatClampNeg)
                  rw [← hxq] at hsg
                  have ht := tk_S (T := TC I) (q := skp (TC I) (I 70 4).toNatClampNeg) (by rw [← hq4]; omega) (by rw [← hq4]; omega) (by rw [← hq4]; omega)
                  have hl2 : tkn (TC I) (skp (TC I) (I 70 4).toNatClampNeg) = 1 := by
                    clear htx hs0
                    unfold sgs at hsg
                    rw [ht.2, if_neg (by omega)]
                  exact m_vret hx hb hr hlocks hM hS (Nat.le_of_ble_eq_true rfl) (Nat.le_of_ble_eq_true rfl) ⟨_, _, rfl, hI, hK, ⟨by omega, by rw [e4]; exact hq4, by rw [ht.1, e5]; exact hxq, by rw [hl2, e6]; rfl⟩⟩ dX4_readToken_201
                · have hc22 := c22
                  have q22 := q_eq hc22
                  refine lv_iconst (v := (2)) hx hb dX4_readToken_193 (by decide) ?_
                  refine lv_goto (tgt := 198) hx hb dX4_readToken_194 (by decide) ?_
                  refine m_puti (70) 6 hx hb hts hown hE oc4 hM hS (hG.1 70 (by decide)) rfl (by decide) rfl rfl rfl rfl tb_324 dX4_readToken_198 (fun H locs I24 eI24 hM hS => ?_)
                  subst eI24
                  have hI := hI.put (n := 70) (k := 6) (v := 2) (lo := 0) (hi := 401) rfl (by first | omega | decide)
                  have hK := hK.put (n := 70) (k := 6) (v := 2) (by first | rfl | simp [inR])
                  have e4 : (u2 (u2 (u2 Ia0 (70) 6 (0)) (70) 5 (r16)) (70) 6 (2)) (70) 4 = Ia0 (70) 4 := (show (u2 (u2 (u2 Ia0 (70) 6 (0)) (70) 5 (r16)) (70) 6 (2)) (70) 4 = Ia0 (70) 4 from by simp [u2_v])
                  have e5 : (u2 (u2 (u2 Ia0 (70) 6 (0)) (70) 5 (r16)) (70) 6 (2)) (70) 5 = r16 := (show (u2 (u2 (u2 Ia0 (70) 6 (0)) (70) 5 (r16)) (70) 6 (2)) (70) 5 = r16 from by simp [u2_v])
                  have e6 : (u2 (u2 (u2 Ia0 (70) 6 (0)) (70) 5 (r16)) (70) 6 (2)) (70) 6 = 2 := (show (u2 (u2 (u2 Ia0 (70) 6 (0)) (70) 5 (r16)) (70) 6 (2)) (70) 6 = 2 from by simp [u2_v])
                  have e4q := congrArg Int32.toInt e4
                  have e6q := congrArg Int32.toInt e6
                  have hxq := xr16
                  have e4j : (u2 Ia0 (70) 6 (0)) 70 4 = Ia0 70 4 := by simp [u2_v]
                  rw [hTx, e4j, hq4] at hxq
                  have hsg := sgv_c (TC I) (skp (TC I) (I 70 4).toNatClampNeg)
                  rw [← hxq] at hsg
                  have ht := tk_S (T := TC I) (q := skp (TC I) (I 70 4).toNatClampNeg) (by rw [← hq4]; omega) (by rw [← hq4]; omega) (by rw [← hq4]; omega)
                  have hl2 : tkn (TC I) (skp (TC I) (I 70 4).toNatClampNeg) = 2 := by
                    clear htx hs0
                    unfold sgs at hsg
                    rw [ht.2, if_pos (by omega)]
                  exact m_vret hx hb hr hlocks hM hS (Nat.le_of_ble_eq_true rfl) (Nat.le_of_ble_eq_true rfl) ⟨_, _, rfl, hI, hK, ⟨by omega, by rw [e4]; exact hq4, by rw [ht.1, e5]; exact hxq, by rw [hl2, e6]; rfl⟩⟩ dX4_readToken_201
            · have hc15 := c15
              have q15 := xr14.t hc15
              have e4 : (u2 Ia0 (70) 6 (0)) (70) 4 = Ia0 (70) 4 := (show (u2 Ia0 (70) 6 (0)) (70) 4 = Ia0 (70) 4 from by simp [u2_v])
              have e6 : (u2 Ia0 (70) 6 (0)) (70) 6 = 0 := (show (u2 Ia0 (70) 6 (0)) (70) 6 = 0 from by simp [u2_v])
              have loop98 : ∀ (n : Nat)  (Ia98 : MI) (La98 : ML) (H : Heap) (locs : List Loc) (ls : Array Slot), INV Ia98 → Kp [] [(70, 4), (70, 5), (70, 6)] I Ia98 → ((Ia98 70 4).toInt < 400) → ((Ia98 70 4).toNatClampNeg = skp (TC I) (I 70 4).toNatClampNeg) → ((Ia98 70 6).toNatClampNeg + rnl ltr (TC I) (skp (TC I) (I 70 4).toNatClampNeg + (Ia98 70 6).toNatClampNeg) = rnl ltr (TC I) (skp (TC I) (I 70 4).toNatClampNeg)) → (401 - (Ia98 70 6).toInt).toNat < n → Mem D A ad ns Ia98 La98 G H → va_S A s.heap H locs → lv_has ls 1 [(0, .ref (ad (70)))] → W p l e ({ frames := 6, cells := 0, slots := 0, locals := 127 } : Room) s m args below meth c H locs 0 0 (MQ below (va_Qv (fun u => ∃ I2 L2, u = (ad, ns, I2, L2, G) ∧ INV I2 ∧ Kp [] [(70, 4), (70, 5), (70, 6)] I I2 ∧ (((I2 70 6).toInt = 0 ∨ (I2 70 4).toInt < 400) ∧ RTX I I2)) (BM D A) A) args s 0 0 A) (F0 m 98 ls []) := by
                intro n
                induction n with
                | zero =>
                  intro  Ia98 La98 H locs ls hI hK hp4 hq98 hn98 hmu
                  exact absurd hmu (Nat.not_lt_zero _)
                | succ n ih98 =>
                  intro  Ia98 La98 H locs ls hI hK hp4 hq98 hn98 hmu98 hM hS hl
                  refine lv_aload_n hx hb dX4_readToken_98 rfl (lv_at hl 0 rfl) ?_
                  refine lv_aload_n hx hb dX4_readToken_99 rfl (lv_at hl 0 rfl) ?_
                  refine m_geti (70) 4 hx hb hts hown hE oc4 hM (hG.1 70 (by decide)) rfl (by decide) rfl tb_322 dX4_readToken_100 ?_
                  have g25 := hI.get (70) 4 (lo := 0) (hi := 801) rfl
                  refine lv_aload_n hx hb dX4_readToken_103 rfl (lv_at hl 0 rfl) ?_
                  refine m_geti (70) 6 hx hb hts hown hE oc4 hM (hG.1 70 (by decide)) rfl (by decide) rfl tb_324 dX4_readToken_104 ?_
                  have g26 := hI.get (70) 6 (lo := 0) (hi := 401) rfl
                  refine lv_iadd hx hb dX4_readToken_107 ?_
                  refine lv_topi (fun v27 ev27 => ?_)
                  have tv27 := a_add ev27 (by omega) (by omega)
                  refine m_calli (m_runV (70) (As := [.int (v27)]) (rest := []) hx hb hml hown hts hE hM hS hA ce_X4_byteAt tb_577 (V_X4_byteAt_h l D A ad ns Ia98 La98 G (v27) hG hI (by first | omega | decide)) rfl rfl ⟨Nat.le_of_ble_eq_true rfl, Nat.le_of_ble_eq_true rfl⟩ (hG.1 70 (by decide)) rfl rfl (by decide) rfl hl.1 rfl (Nat.le_of_ble_eq_true rfl) dX4_readToken_108 ⟨Nat.le_of_ble_eq_true rfl, Nat.le_of_ble_eq_true rfl⟩) hS (fun r28 u H locs hw hM hS => ?_)
                  obtain ⟨rfl, xr28⟩ := hw
                  have hM : Mem D A ad ns Ia98 La98 G H := hM
                  have btr28 : (r28).toInt = TC I (v27).toNatClampNeg := (xr28.1).trans (congrFun (TC_of (hK.getA 71 rfl) (hK.get 70 3 rfl)) _)
                  have bir28 : (v27).toNatClampNeg = (Ia98 (70) 4).toNatClampNeg + (Ia98 (70) 6).toNatClampNeg := by have z1 := tn (i := v27) (by omega); have z2 := tn (i := Ia98 (70) 4) (by omega); have z3 := tn (i := Ia98 (70) 6) (by omega); omega
                  rw [bir28] at btr28
                  refine m_calli (m_runS (As := [.int (r28)]) (rest := []) hx hb hml hown hts hE hM hS hA ce_X4_isLetter tb_588 (V_X4_isLetter l D A ad ns Ia98 La98 G (r28) hI) rfl rfl ⟨Nat.le_of_ble_eq_true rfl, Nat.le_of_ble_eq_true rfl⟩  rfl hl.1 rfl (Nat.le_of_ble_eq_true rfl) dX4_readToken_111 ⟨Nat.le_of_ble_eq_true rfl, Nat.le_of_ble_eq_true rfl⟩) hS (fun r29 u H locs hw hM hS => ?_)
                  obtain ⟨rfl, xr29⟩ := hw
                  have hM : Mem D A ad ns Ia98 La98 G H := hM
                  have yr29 := bo01 xr29
                  refine lv_if_eq (tgt := 140) hx hb dX4_readToken_114 (by decide) (fun c30 => ?_) (fun c30 => ?_)
                  · have hc30 := c30
                    have q30 := xr29.f hc30
                    refine lv_aload_n hx hb dX4_readToken_140 rfl (lv_at hl 0 rfl) ?_
                    refine lv_aload_n hx hb dX4_readToken_141 rfl (lv_at hl 0 rfl) ?_
                    refine m_geti (70) 6 hx hb hts hown hE oc4 hM (hG.1 70 (by decide)) rfl (by decide) rfl tb_324 dX4_readToken_142 ?_
                    refine lv_iconst (v := (1)) hx hb dX4_readToken_145 (by decide) ?_
                    refine lv_icmp_ne (tgt := 156) hx hb dX4_readToken_146 (by decide) (fun c31 => ?_) (fun c31 => ?_)
                    · have hc31 := c31
                      have q31 := q_ne hc31
                      refine lv_aload_n hx hb dX4_readToken_156 rfl (lv_at hl 0 rfl) ?_
                      have hz := rnl_n (P := ltr) (T := TC I) (p := skp (TC I) (I 70 4).toNatClampNeg + (Ia98 70 6).toNatClampNeg) (ltr_f (by rw [← hq98]; omega))
                      have hk8 := hn98
                      rw [hz] at hk8
                      have z9 := tn (i := Ia98 70 6) (by omega)
                      have hTx : TC Ia98 = TC I := TC_of (hK.getA 71 rfl) (hK.get 70 3 rfl)
                      have hrl9 : (Ia98 70 6).toInt = (rnl ltr (TC Ia98) (Ia98 70 4).toNatClampNeg : Int) := by rw [hTx, hq98]; omega
                      refine m_calli (m_runV (70) (As := []) (rest := [.ref (ad (70))]) hx hb hml hown hts hE hM hS hA ce_X4_wordHere tb_595 (V_X4_wordHere_h l D A ad ns Ia98 La98 G hG hI hrl9) rfl rfl ⟨Nat.le_of_ble_eq_true rfl, Nat.le_of_ble_eq_true rfl⟩ (hG.1 70 (by decide)) rfl rfl (by decide) rfl hl.1 rfl (Nat.le_of_ble_eq_true rfl) dX4_readToken_157 ⟨Nat.le_of_ble_eq_true rfl, Nat.le_of_ble_eq_true rfl⟩) hS (fun r32 u H locs hw hM hS => ?_)
                      obtain ⟨rfl, xr32⟩ := hw
                      have hM : Mem D A ad ns Ia98 La98 G H := hM
                      refine m_puti (70) 5 hx hb hts hown hE oc4 hM hS (hG.1 70 (by decide)) rfl (by decide) rfl rfl rfl rfl tb_323 dX4_readToken_160 (fun H locs I33 eI33 hM hS => ?_)
                      subst eI33
                      have hI := hI.putF (n := 70) (k := 5) (v := r32) rfl
                      have hK := hK.put (n := 70) (k := 5) (v := r32) (by first | rfl | simp [inR])
                      refine lv_goto (tgt := 201) hx hb dX4_readToken_163 (by decide) ?_
                      have e4 : (u2 Ia98 (70) 5 (r32)) (70) 4 = Ia98 (70) 4 := (show (u2 Ia98 (70) 5 (r32)) (70) 4 = Ia98 (70) 4 from by simp [u2_v])
                      have e5 : (u2 Ia98 (70) 5 (r32)) (70) 5 = r32 := (show (u2 Ia98 (70) 5 (r32)) (70) 5 = r32 from by simp [u2_v])
                      have e6 : (u2 Ia98 (70) 5 (r32)) (70) 6 = Ia98 (70) 6 := (show (u2 Ia98 (70) 5 (r32)) (70) 6 = Ia98 (70) 6 from by simp [u2_v])
                      have e4q := congrArg Int32.toInt e4
                      have e6q := congrArg Int32.toInt e6
                      have ht := tk_L (T := TC I) (q := skp (TC I) (I 70 4).toNatClampNeg) (by rw [← hq4]; omega)
                      have hxq := xr32
                      rw [hTx, hq98] at hxq
                      exact m_vret hx hb hr hlocks hM hS (Nat.le_of_ble_eq_true rfl) (Nat.le_of_ble_eq_true rfl) ⟨_, _, rfl, hI, hK, ⟨by omega, by rw [e4]; exact hq98, by rw [ht.1, e5, if_neg (by omega)]; exact hxq, by rw [ht.2, e6]; omega⟩⟩ dX4_readToken_201
                    · have hc31 := c31
                      have q31 := q_eq hc31
                      refine lv_aload_n hx hb dX4_readToken_149 rfl (lv_at hl 0 rfl) ?_
                      have hz := rnl_n (P := ltr) (T := TC I) (p := skp (TC I) (I 70 4).toNatClampNeg + (Ia98 70 6).toNatClampNeg) (ltr_f (by rw [← hq98]; omega))
                      have hk8 := hn98
                      rw [hz] at hk8
                      have z9 := tn (i := Ia98 70 6) (by omega)
                      have hTx : TC Ia98 = TC I := TC_of (hK.getA 71 rfl) (hK.get 70 3 rfl)
                      have hrl9 : (Ia98 70 6).toInt = (rnl ltr (TC Ia98) (Ia98 70 4).toNatClampNeg : Int) := by rw [hTx, hq98]; omega
                      refine m_calli (m_runV (70) (As := []) (rest := [.ref (ad (70))]) hx hb hml hown hts hE hM hS hA ce_X4_yardHere tb_591 (V_X4_yardHere_h l D A ad ns Ia98 La98 G hG hI) rfl rfl ⟨Nat.le_of_ble_eq_true rfl, Nat.le_of_ble_eq_true rfl⟩ (hG.1 70 (by decide)) rfl rfl (by decide) rfl hl.1 rfl (Nat.le_of_ble_eq_true rfl) dX4_readToken_150 ⟨Nat.le_of_ble_eq_true rfl, Nat.le_of_ble_eq_true rfl⟩) hS (fun r34 u H locs hw hM hS => ?_)
                      obtain ⟨rfl, xr34⟩ := hw
                      have hM : Mem D A ad ns Ia98 La98 G H := hM
                      refine lv_goto (tgt := 160) hx hb dX4_readToken_153 (by decide) ?_
                      refine m_puti (70) 5 hx hb hts hown hE oc4 hM hS (hG.1 70 (by decide)) rfl (by decide) rfl rfl rfl rfl tb_323 dX4_readToken_160 (fun H locs I35 eI35 hM hS => ?_)
                      subst eI35
                      have hI := hI.putF (n := 70) (k := 5) (v := r34) rfl
                      have hK := hK.put (n := 70) (k := 5) (v := r34) (by first | rfl | simp [inR])
                      refine lv_goto (tgt := 201) hx hb dX4_readToken_163 (by decide) ?_
                      have e4 : (u2 Ia98 (70) 5 (r34)) (70) 4 = Ia98 (70) 4 := (show (u2 Ia98 (70) 5 (r34)) (70) 4 = Ia98 (70) 4 from by simp [u2_v])
                      have e5 : (u2 Ia98 (70) 5 (r34)) (70) 5 = r34 := (show (u2 Ia98 (70) 5 (r34)) (70) 5 = r34 from by simp [u2_v])
                      have e6 : (u2 Ia98 (70) 5 (r34)) (70) 6 = Ia98 (70) 6 := (show (u2 Ia98 (70) 5 (r34)) (70) 6 = Ia98 (70) 6 from by simp [u2_v])
                      have e4q := congrArg Int32.toInt e4
                      have e6q := congrArg Int32.toInt e6
                      have ht := tk_L (T := TC I) (q := skp (TC I) (I 70 4).toNatClampNeg) (by rw [← hq4]; omega)
                      have hxq := xr34
                      unfold YDX at hxq
                      rw [hTx, hq98] at hxq
                      exact m_vret hx hb hr hlocks hM hS (Nat.le_of_ble_eq_true rfl) (Nat.le_of_ble_eq_true rfl) ⟨_, _, rfl, hI, hK, ⟨by omega, by rw [e4]; exact hq98, by rw [ht.1, e5, if_pos (by omega)]; by_cases hh : TC I (skp (TC I) (I 70 4).toNatClampNeg) < 105; rw [if_pos hh]; omega; rw [if_neg hh]; omega, by rw [ht.2, e6]; omega⟩⟩ dX4_readToken_201
                  · have hc30 := c30
                    have q30 := xr29.t hc30
                    refine lv_aload_n hx hb dX4_readToken_117 rfl (lv_at hl 0 rfl) ?_
                    refine m_geti (70) 6 hx hb hts hown hE oc4 hM (hG.1 70 (by decide)) rfl (by decide) rfl tb_324 dX4_readToken_118 ?_
                    refine lv_sipush (v := (400)) hx hb dX4_readToken_121 (by decide) ?_
                    refine lv_icmp_ge (tgt := 140) hx hb dX4_readToken_124 (by decide) (fun c36 => ?_) (fun c36 => ?_)
                    · have hc36 := c36
                      have q36 := q_le hc36
                      refine lv_aload_n hx hb dX4_readToken_140 rfl (lv_at hl 0 rfl) ?_
                      refine lv_aload_n hx hb dX4_readToken_141 rfl (lv_at hl 0 rfl) ?_
                      refine m_geti (70) 6 hx hb hts hown hE oc4 hM (hG.1 70 (by decide)) rfl (by decide) rfl tb_324 dX4_readToken_142 ?_
                      refine lv_iconst (v := (1)) hx hb dX4_readToken_145 (by decide) ?_
                      refine lv_icmp_ne (tgt := 156) hx hb dX4_readToken_146 (by decide) (fun c37 => ?_) (fun c37 => ?_)
                      · have hc37 := c37
                        have q37 := q_ne hc37
                        refine lv_aload_n hx hb dX4_readToken_156 rfl (lv_at hl 0 rfl) ?_
                        have hz := rnl_e (P := ltr) (T := TC I) (p := skp (TC I) (I 70 4).toNatClampNeg + (Ia98 70 6).toNatClampNeg) (by have z2 := tn (i := Ia98 70 6) (by omega); omega)
                        have hk8 := hn98
                        rw [hz] at hk8
                        have z9 := tn (i := Ia98 70 6) (by omega)
                        have hTx : TC Ia98 = TC I := TC_of (hK.getA 71 rfl) (hK.get 70 3 rfl)
                        have hrl9 : (Ia98 70 6).toInt = (rnl ltr (TC Ia98) (Ia98 70 4).toNatClampNeg : Int) := by rw [hTx, hq98]; omega
                        refine m_calli (m_runV (70) (As := []) (rest := [.ref (ad (70))]) hx hb hml hown hts hE hM hS hA ce_X4_wordHere tb_595 (V_X4_wordHere_h l D A ad ns Ia98 La98 G hG hI hrl9) rfl rfl ⟨Nat.le_of_ble_eq_true rfl, Nat.le_of_ble_eq_true rfl⟩ (hG.1 70 (by decide)) rfl rfl (by decide) rfl hl.1 rfl (Nat.le_of_ble_eq_true rfl) dX4_readToken_157 ⟨Nat.le_of_ble_eq_true rfl, Nat.le_of_ble_eq_true rfl⟩) hS (fun r38 u H locs hw hM hS => ?_)
                        obtain ⟨rfl, xr38⟩ := hw
                        have hM : Mem D A ad ns Ia98 La98 G H := hM
                        refine m_puti (70) 5 hx hb hts hown hE oc4 hM hS (hG.1 70 (by decide)) rfl (by decide) rfl rfl rfl rfl tb_323 dX4_readToken_160 (fun H locs I39 eI39 hM hS => ?_)
                        subst eI39
                        have hI := hI.putF (n := 70) (k := 5) (v := r38) rfl
                        have hK := hK.put (n := 70) (k := 5) (v := r38) (by first | rfl | simp [inR])
                        refine lv_goto (tgt := 201) hx hb dX4_readToken_163 (by decide) ?_
                        have e4 : (u2 Ia98 (70) 5 (r38)) (70) 4 = Ia98 (70) 4 := (show (u2 Ia98 (70) 5 (r38)) (70) 4 = Ia98 (70) 4 from by simp [u2_v])
                        have e5 : (u2 Ia98 (70) 5 (r38)) (70) 5 = r38 := (show (u2 Ia98 (70) 5 (r38)) (70) 5 = r38 from by simp [u2_v])
                        have e6 : (u2 Ia98 (70) 5 (r38)) (70) 6 = Ia98 (70) 6 := (show (u2 Ia98 (70) 5 (r38)) (70) 6 = Ia98 (70) 6 from by simp [u2_v])
                        have e4q := congrArg Int32.toInt e4
                        have e6q := congrArg Int32.toInt e6
                        have ht := tk_L (T := TC I) (q := skp (TC I) (I 70 4).toNatClampNeg) (by rw [← hq4]; omega)
                        have hxq := xr38
                        rw [hTx, hq98] at hxq
                        exact m_vret hx hb hr hlocks hM hS (Nat.le_of_ble_eq_true rfl) (Nat.le_of_ble_eq_true rfl) ⟨_, _, rfl, hI, hK, ⟨by omega, by rw [e4]; exact hq98, by rw [ht.1, e5, if_neg (by omega)]; exact hxq, by rw [ht.2, e6]; omega⟩⟩ dX4_readToken_201
                      · have hc37 := c37
                        have q37 := q_eq hc37
                        refine lv_aload_n hx hb dX4_readToken_149 rfl (lv_at hl 0 rfl) ?_
                        have hz := rnl_e (P := ltr) (T := TC I) (p := skp (TC I) (I 70 4).toNatClampNeg + (Ia98 70 6).toNatClampNeg) (by have z2 := tn (i := Ia98 70 6) (by omega); omega)
                        have hk8 := hn98
                        rw [hz] at hk8
                        have z9 := tn (i := Ia98 70 6) (by omega)
                        have hTx : TC Ia98 = TC I := TC_of (hK.getA 71 rfl) (hK.get 70 3 rfl)
                        have hrl9 : (Ia98 70 6).toInt = (rnl ltr (TC Ia98) (Ia98 70 4).toNatClampNeg : Int) := by rw [hTx, hq98]; omega
                        refine m_calli (m_runV (70) (As := []) (rest := [.ref (ad (70))]) hx hb hml hown hts hE hM hS hA ce_X4_yardHere tb_591 (V_X4_yardHere_h l D A ad ns Ia98 La98 G hG hI) rfl rfl ⟨Nat.le_of_ble_eq_true rfl, Nat.le_of_ble_eq_true rfl⟩ (hG.1 70 (by decide)) rfl rfl (by decide) rfl hl.1 rfl (Nat.le_of_ble_eq_true rfl) dX4_readToken_150 ⟨Nat.le_of_ble_eq_true rfl, Nat.le_of_ble_eq_true rfl⟩) hS (fun r40 u H locs hw hM hS => ?_)
                        obtain ⟨rfl, xr40⟩ := hw
                        have hM : Mem D A ad ns Ia98 La98 G H := hM
                        refine lv_goto (tgt := 160) hx hb dX4_readToken_153 (by decide) ?_
                        refine m_puti (70) 5 hx hb hts hown hE oc4 hM hS (hG.1 70 (by decide)) rfl (by decide) rfl rfl rfl rfl tb_323 dX4_readToken_160 (fun H locs I41 eI41 hM hS => ?_)
                        subst eI41
                        have hI := hI.putF (n := 70) (k := 5) (v := r40) rfl
                        have hK := hK.put (n := 70) (k := 5) (v := r40) (by first | rfl | simp [inR])
                        refine lv_goto (tgt := 201) hx hb dX4_readToken_163 (by decide) ?_
                        have e4 : (u2 Ia98 (70) 5 (r40)) (70) 4 = Ia98 (70) 4 := (show (u2 Ia98 (70) 5 (r40)) (70) 4 = Ia98 (70) 4 from by simp [u2_v])
                        have e5 : (u2 Ia98 (70) 5 (r40)) (70) 5 = r40 := (show (u2 Ia98 (70) 5 (r40)) (70) 5 = r40 from by simp [u2_v])
                        have e6 : (u2 Ia98 (70) 5 (r40)) (70) 6 = Ia98 (70) 6 := (show (u2 Ia98 (70) 5 (r40)) (70) 6 = Ia98 (70) 6 from by simp [u2_v])
                        have e4q := congrArg Int32.toInt e4
                        have e6q := congrArg Int32.toInt e6
                        have ht := tk_L (T := TC I) (q := skp (TC I) (I 70 4).toNatClampNeg) (by rw [← hq4]; omega)
                        have hxq := xr40
                        unfold YDX at hxq
                        rw [hTx, hq98] at hxq
                        exact m_vret hx hb hr hlocks hM hS (Nat.le_of_ble_eq_true rfl) (Nat.le_of_ble_eq_true rfl) ⟨_, _, rfl, hI, hK, ⟨by omega, by rw [e4]; exact hq98, by rw [ht.1, e5, if_pos (by omega)]; by_cases hh : TC I (skp (TC I) (I 70 4).toNatClampNeg) < 105; rw [if_pos hh]; omega; rw [if_neg hh]; omega, by rw [ht.2, e6]; omega⟩⟩ dX4_readToken_201
                    · have hc36 := c36
                      have q36 := q_nle hc36
                      refine lv_aload_n hx hb dX4_readToken_127 rfl (lv_at hl 0 rfl) ?_
                      refine lv_dup hx hb dX4_readToken_128 rfl ?_
                      refine m_geti (70) 6 hx hb hts hown hE oc4 hM (hG.1 70 (by decide)) rfl (by decide) rfl tb_324 dX4_readToken_129 ?_
                      refine lv_iconst (v := (1)) hx hb dX4_readToken_132 (by decide) ?_
                      refine lv_iadd hx hb dX4_readToken_133 ?_
                      refine lv_topi (fun v42 ev42 => ?_)
                      have tv42 := a_add ev42 (by omega) (by omega)
                      refine m_puti (70) 6 hx hb hts hown hE oc4 hM hS (hG.1 70 (by decide)) rfl (by decide) rfl rfl rfl rfl tb_324 dX4_readToken_134 (fun H locs I43 eI43 hM hS => ?_)
                      subst eI43
                      have hI := hI.put (n := 70) (k := 6) (v := v42) (lo := 0) (hi := 401) rfl (by first | omega | decide)
                      have hK := hK.put (n := 70) (k := 6) (v := v42) (by first | rfl | simp [inR])
                      refine lv_goto (tgt := 98) hx hb dX4_readToken_137 (by decide) ?_
                      have tr706 : ((u2 Ia98 (70) 6 (v42)) (70) 6).toInt = (v42 : Int32).toInt := congrArg Int32.toInt ((show (u2 Ia98 (70) 6 (v42)) (70) 6 = v42 from by simp [u2_v]))
                      have tr704 : ((u2 Ia98 (70) 6 (v42)) (70) 4).toInt = (Ia98 (70) 4 : Int32).toInt := congrArg Int32.toInt ((show (u2 Ia98 (70) 6 (v42)) (70) 4 = Ia98 (70) 4 from by simp [u2_v]))
                      have e4 : (u2 Ia98 (70) 6 (v42)) (70) 4 = Ia98 (70) 4 := (show (u2 Ia98 (70) 6 (v42)) (70) 4 = Ia98 (70) 4 from by simp [u2_v])
                      have e6 : (u2 Ia98 (70) 6 (v42)) (70) 6 = v42 := (show (u2 Ia98 (70) 6 (v42)) (70) 6 = v42 from by simp [u2_v])
                      have z6 : (v42).toNatClampNeg = (Ia98 70 6).toNatClampNeg + 1 := by have z1 := tn (i := v42) (by omega); have z2 := tn (i := Ia98 70 6) (by omega); omega
                      have hd6 := rnl_y (P := ltr) (T := TC I) (okt_lt hT (p := skp (TC I) (I 70 4).toNatClampNeg + (Ia98 70 6).toNatClampNeg) (by rw [← hq98]; omega)) (ltr_t (by rw [← hq98]; omega))
                      exact ih98  (u2 Ia98 (70) 6 (v42)) La98 _ _ ls hI hK (by rw [e4]; omega) (by rw [e4]; exact hq98) (by rw [e6, z6]; rw [show skp (TC I) (I 70 4).toNatClampNeg + ((Ia98 70 6).toNatClampNeg + 1) = skp (TC I) (I 70 4).toNatClampNeg + (Ia98 70 6).toNatClampNeg + 1 from rfl]; omega) (by omega) hM hS (lv_sub hl [0] rfl)
              exact loop98 (_ + 1)  (u2 Ia0 (70) 6 (0)) La0 _ _ ls hI hK (by rw [e4]; omega) (by rw [e4]; exact hq4) (by rw [e6]; show 0 + rnl ltr (TC I) (skp (TC I) (I 70 4).toNatClampNeg + 0) = _; rw [Nat.add_zero, Nat.zero_add]) (Nat.lt_succ_self _) hM hS (lv_sub hl [0] rfl)
          · have hc11 := c11
            have q11 := xr10.t hc11
            refine lv_aload_n hx hb dX4_readToken_77 rfl (lv_at hl 0 rfl) ?_
            have hK0 := hK
            refine m_callv (m_runV (70) (As := []) (rest := []) hx hb hml hown hts hE hM hS hA ce_X4_readNumber tb_584 (V_X4_readNumber_h l D A ad ns (u2 Ia0 (70) 6 (0)) La0 G hG hI (by rw [u2_self]; exact k0)) rfl rfl ⟨Nat.le_of_ble_eq_true rfl, Nat.le_of_ble_eq_true rfl⟩ (hG.1 70 (by decide)) rfl rfl (by decide) rfl hl.1 rfl (Nat.le_of_ble_eq_true rfl) dX4_readToken_78 ⟨Nat.le_of_ble_eq_true rfl, Nat.le_of_ble_eq_true rfl⟩) hS (fun u H locs hw hM hS => ?_)
            obtain ⟨I44, L45, rfl, hI, hkI44, xI44⟩ := hw
            have hM : Mem D A ad ns I44 L45 G H := hM
            have hK := hK.trans hkI44 rfl
            refine lv_goto (tgt := 201) hx hb dX4_readToken_81 (by decide) ?_
            have e4 : I44 (70) 4 = Ia0 (70) 4 := ((hkI44.get (70) 4 rfl)).trans (show (u2 Ia0 (70) 6 (0)) (70) 4 = Ia0 (70) 4 from by simp [u2_v])
            have e5 : I44 (70) 5 = I44 (70) 5 := rfl
            have e6 : I44 (70) 6 = I44 (70) 6 := rfl
            have e4q := congrArg Int32.toInt e4
            have e6q := congrArg Int32.toInt e6
            have hTx : TC (u2 Ia0 (70) 6 (0)) = TC I := TC_of (hK0.getA 71 rfl) (hK0.get 70 3 rfl)
            have hxq := xI44
            unfold RNX at hxq
            have e4j : (u2 Ia0 (70) 6 (0)) 70 4 = Ia0 70 4 := by simp [u2_v]
            rw [hTx, e4j, hq4] at hxq
            have ht := tk_D (T := TC I) (q := skp (TC I) (I 70 4).toNatClampNeg) (by rw [← hq4]; omega)
            exact m_vret hx hb hr hlocks hM hS (Nat.le_of_ble_eq_true rfl) (Nat.le_of_ble_eq_true rfl) ⟨_, _, rfl, hI, hK, ⟨by omega, by rw [e4]; exact hq4, by rw [ht.1]; exact hxq.2, by rw [ht.2]; exact hxq.1⟩⟩ dX4_readToken_201
        · have hc7 := c7
          have q7 := q_nlt hc7
          refine lv_aload_n hx hb dX4_readToken_54 rfl (lv_at hl 0 rfl) ?_
          refine lv_bipush (v := (-45)) hx hb dX4_readToken_55 (by decide) ?_
          refine m_puti (70) 5 hx hb hts hown hE oc4 hM hS (hG.1 70 (by decide)) rfl (by decide) rfl rfl rfl rfl tb_323 dX4_readToken_57 (fun H locs I46 eI46 hM hS => ?_)
          subst eI46
          have hI := hI.putF (n := 70) (k := 5) (v := (-45 : Int32)) rfl
          have hK := hK.put (n := 70) (k := 5) (v := (-45 : Int32)) (by first | rfl | simp [inR])
          refine lv_goto (tgt := 201) hx hb dX4_readToken_60 (by decide) ?_
          have e4 : (u2 (u2 Ia0 (70) 6 (0)) (70) 5 ((-45 : Int32))) (70) 4 = Ia0 (70) 4 := (show (u2 (u2 Ia0 (70) 6 (0)) (70) 5 ((-45 : Int32))) (70) 4 = Ia0 (70) 4 from by simp [u2_v])
          have e5 : (u2 (u2 Ia0 (70) 6 (0)) (70) 5 ((-45 : Int32))) (70) 5 = (-45 : Int32) := (show (u2 (u2 Ia0 (70) 6 (0)) (70) 5 ((-45 : Int32))) (70) 5 = (-45 : Int32) from by simp [u2_v])
          have e6 : (u2 (u2 Ia0 (70) 6 (0)) (70) 5 ((-45 : Int32))) (70) 6 = 0 := (show (u2 (u2 Ia0 (70) 6 (0)) (70) 5 ((-45 : Int32))) (70) 6 = 0 from by simp [u2_v])
          have e4q := congrArg Int32.toInt e4
          have e6q := congrArg Int32.toInt e6
          have ht := tk_E (T := TC I) (q := skp (TC I) (I 70 4).toNatClampNeg) (by rw [← hq4]; omega)
          exact m_vret hx hb hr hlocks hM hS (Nat.le_of_ble_eq_true rfl) (Nat.le_of_ble_eq_true rfl) ⟨_, _, rfl, hI, hK, ⟨by omega, by rw [e4]; exact hq4, by rw [e5, ht.1]; exact km45, by rw [e6, ht.2]; rfl⟩⟩ dX4_readToken_201
      · have hc3 := c3
        have q3 := q_nle hc3
        refine lv_aload_n hx hb dX4_readToken_11 rfl (lv_at hl 0 rfl) ?_
        refine m_getr (70) 0 (71) hx hb hts hown hE oc4 hM (hG.1 70 (by decide)) rfl (by decide) rfl (hG.2 (70, 0, 71) (by decide)) (by decide) tb_318 dX4_readToken_12 ?_
        refine lv_aload_n hx hb dX4_readToken_15 rfl (lv_at hl 0 rfl) ?_
        refine m_geti (70) 4 hx hb hts hown hE oc4 hM (hG.1 70 (by decide)) rfl (by decide) rfl tb_322 dX4_readToken_16 ?_
        refine m_bald (71) hx hb hE hM (hG.1 71 (by decide)) rfl (vp_in_iff.mpr (by omega)) dX4_readToken_19 ?_
        have g47 := hI.get (71) ((Ia0 (70) 4).toNatClampNeg) (lo := -128) (hi := 127) rfl
        have hb8 := b8_or (hI.get 71 (Ia0 (70) 4).toNatClampNeg (lo := -128) (hi := 127) rfl)
        refine lv_bipush (v := (32)) hx hb dX4_readToken_20 (by decide) ?_
        refine lv_icmp_ne (tgt := 38) hx hb dX4_readToken_22 (by decide) (fun c48 => ?_) (fun c48 => ?_)
        · have hc48 := c48
          have q48 := q_ne hc48
          refine lv_aload_n hx hb dX4_readToken_38 rfl (lv_at hl 0 rfl) ?_
          refine lv_iconst (v := (0)) hx hb dX4_readToken_39 (by decide) ?_
          refine m_puti (70) 6 hx hb hts hown hE oc4 hM hS (hG.1 70 (by decide)) rfl (by decide) rfl rfl rfl rfl tb_324 dX4_readToken_40 (fun H locs I49 eI49 hM hS => ?_)
          have htx : TC I (Ia0 70 4).toNatClampNeg = b8 (Ia0 71 (Ia0 70 4).toNatClampNeg) := (congrFun (TC_of (I := I) (I2 := Ia0) h71 h703) _).symm.trans (TXT_y (by have z1 := tn (i := Ia0 70 4) (by omega); omega))
          have hq4 : (Ia0 70 4).toNatClampNeg = skp (TC I) (I 70 4).toNatClampNeg := by rw [← hs0]; exact (skp_n (by omega)).symm
          subst eI49
          have hI := hI.put (n := 70) (k := 6) (v := 0) (lo := 0) (hi := 401) rfl (by first | omega | decide)
          have hK := hK.put (n := 70) (k := 6) (v := 0) (by first | rfl | simp [inR])
          refine lv_aload_n hx hb dX4_readToken_43 rfl (lv_at hl 0 rfl) ?_
          refine m_geti (70) 4 hx hb hts hown hE oc4 hM (hG.1 70 (by decide)) rfl (by decide) rfl tb_322 dX4_readToken_44 ?_
          have z50 : (u2 Ia0 (70) 6 (0)) (70) 4 = Ia0 (70) 4 := (show (u2 Ia0 (70) 6 (0)) (70) 4 = Ia0 (70) 4 from by simp [u2_v])
          rw [z50]
          refine lv_aload_n hx hb dX4_readToken_47 rfl (lv_at hl 0 rfl) ?_
          refine m_geti (70) 3 hx hb hts hown hE oc4 hM (hG.1 70 (by decide)) rfl (by decide) rfl tb_321 dX4_readToken_48 ?_
          have z51 : (u2 Ia0 (70) 6 (0)) (70) 3 = Ia0 (70) 3 := (show (u2 Ia0 (70) 6 (0)) (70) 3 = Ia0 (70) 3 from by simp [u2_v])
          rw [z51]
          refine lv_icmp_lt (tgt := 63) hx hb dX4_readToken_51 (by decide) (fun c52 => ?_) (fun c52 => ?_)
          · have hc52 := c52
            have q52 := q_lt hc52
            refine lv_aload_n hx hb dX4_readToken_63 rfl (lv_at hl 0 rfl) ?_
            refine lv_aload_n hx hb dX4_readToken_64 rfl (lv_at hl 0 rfl) ?_
            refine m_geti (70) 4 hx hb hts hown hE oc4 hM (hG.1 70 (by decide)) rfl (by decide) rfl tb_322 dX4_readToken_65 ?_
            have z53 : (u2 Ia0 (70) 6 (0)) (70) 4 = Ia0 (70) 4 := (show (u2 Ia0 (70) 6 (0)) (70) 4 = Ia0 (70) 4 from by simp [u2_v])
            rw [z53]
            refine m_calli (m_runV (70) (As := [.int (Ia0 (70) 4)]) (rest := []) hx hb hml hown hts hE hM hS hA ce_X4_byteAt tb_577 (V_X4_byteAt_h l D A ad ns (u2 Ia0 (70) 6 (0)) La0 G (Ia0 (70) 4) hG hI (by first | omega | decide)) rfl rfl ⟨Nat.le_of_ble_eq_true rfl, Nat.le_of_ble_eq_true rfl⟩ (hG.1 70 (by decide)) rfl rfl (by decide) rfl hl.1 rfl (Nat.le_of_ble_eq_true rfl) dX4_readToken_68 ⟨Nat.le_of_ble_eq_true rfl, Nat.le_of_ble_eq_true rfl⟩) hS (fun r54 u H locs hw hM hS => ?_)
            obtain ⟨rfl, xr54⟩ := hw
            have hM : Mem D A ad ns (u2 Ia0 (70) 6 (0)) La0 G H := hM
            have btr54 : (r54).toInt = TC I (Ia0 (70) 4).toNatClampNeg := (xr54.1).trans (congrFun (TC_of (hK.getA 71 rfl) (hK.get 70 3 rfl)) _)
            refine m_calli (m_runS (As := [.int (r54)]) (rest := []) hx hb hml hown hts hE hM hS hA ce_X4_isDigit tb_581 (V_X4_isDigit l D A ad ns (u2 Ia0 (70) 6 (0)) La0 G (r54) hI) rfl rfl ⟨Nat.le_of_ble_eq_true rfl, Nat.le_of_ble_eq_true rfl⟩  rfl hl.1 rfl (Nat.le_of_ble_eq_true rfl) dX4_readToken_71 ⟨Nat.le_of_ble_eq_true rfl, Nat.le_of_ble_eq_true rfl⟩) hS (fun r55 u H locs hw hM hS => ?_)
            obtain ⟨rfl, xr55⟩ := hw
            have hM : Mem D A ad ns (u2 Ia0 (70) 6 (0)) La0 G H := hM
            have yr55 := bo01 xr55
            refine lv_if_eq (tgt := 84) hx hb dX4_readToken_74 (by decide) (fun c56 => ?_) (fun c56 => ?_)
            · have hc56 := c56
              have q56 := xr55.f hc56
              refine lv_aload_n hx hb dX4_readToken_84 rfl (lv_at hl 0 rfl) ?_
              refine lv_aload_n hx hb dX4_readToken_85 rfl (lv_at hl 0 rfl) ?_
              refine m_geti (70) 4 hx hb hts hown hE oc4 hM (hG.1 70 (by decide)) rfl (by decide) rfl tb_322 dX4_readToken_86 ?_
              have z57 : (u2 Ia0 (70) 6 (0)) (70) 4 = Ia0 (70) 4 := (show (u2 Ia0 (70) 6 (0)) (70) 4 = Ia0 (70) 4 from by simp [u2_v])
              rw [z57]
              refine m_calli (m_runV (70) (As := [.int (Ia0 (70) 4)]) (rest := []) hx hb hml hown hts hE hM hS hA ce_X4_byteAt tb_577 (V_X4_byteAt_h l D A ad ns (u2 Ia0 (70) 6 (0)) La0 G (Ia0 (70) 4) hG hI (by first | omega | decide)) rfl rfl ⟨Nat.le_of_ble_eq_true rfl, Nat.le_of_ble_eq_true rfl⟩ (hG.1 70 (by decide)) rfl rfl (by decide) rfl hl.1 rfl (Nat.le_of_ble_eq_true rfl) dX4_readToken_89 ⟨Nat.le_of_ble_eq_true rfl, Nat.le_of_ble_eq_true rfl⟩) hS (fun r58 u H locs hw hM hS => ?_)
              obtain ⟨rfl, xr58⟩ := hw
              have hM : Mem D A ad ns (u2 Ia0 (70) 6 (0)) La0 G H := hM
              have btr58 : (r58).toInt = TC I (Ia0 (70) 4).toNatClampNeg := (xr58.1).trans (congrFun (TC_of (hK.getA 71 rfl) (hK.get 70 3 rfl)) _)
              refine m_calli (m_runS (As := [.int (r58)]) (rest := []) hx hb hml hown hts hE hM hS hA ce_X4_isLetter tb_588 (V_X4_isLetter l D A ad ns (u2 Ia0 (70) 6 (0)) La0 G (r58) hI) rfl rfl ⟨Nat.le_of_ble_eq_true rfl, Nat.le_of_ble_eq_true rfl⟩  rfl hl.1 rfl (Nat.le_of_ble_eq_true rfl) dX4_readToken_92 ⟨Nat.le_of_ble_eq_true rfl, Nat.le_of_ble_eq_true rfl⟩) hS (fun r59 u H locs hw hM hS => ?_)
              obtain ⟨rfl, xr59⟩ := hw
              have hM : Mem D A ad ns (u2 Ia0 (70) 6 (0)) La0 G H := hM
              have yr59 := bo01 xr59
              refine lv_if_eq (tgt := 166) hx hb dX4_readToken_95 (by decide) (fun c60 => ?_) (fun c60 => ?_)
              · have hc60 := c60
                have q60 := xr59.f hc60
                refine lv_aload_n hx hb dX4_readToken_166 rfl (lv_at hl 0 rfl) ?_
                refine lv_aload_n hx hb dX4_readToken_167 rfl (lv_at hl 0 rfl) ?_
                have hTx : TC (u2 Ia0 (70) 6 (0)) = TC I := TC_of (hK.getA 71 rfl) (hK.get 70 3 rfl)
                refine m_calli (m_runV (70) (As := []) (rest := [.ref (ad (70))]) hx hb hml hown hts hE hM hS hA ce_X4_signHere tb_661 (V_X4_signHere_h l D A ad ns (u2 Ia0 (70) 6 (0)) La0 G hG hI) rfl rfl ⟨Nat.le_of_ble_eq_true rfl, Nat.le_of_ble_eq_true rfl⟩ (hG.1 70 (by decide)) rfl rfl (by decide) rfl hl.1 rfl (Nat.le_of_ble_eq_true rfl) dX4_readToken_168 ⟨Nat.le_of_ble_eq_true rfl, Nat.le_of_ble_eq_true rfl⟩) hS (fun r61 u H locs hw hM hS => ?_)
                obtain ⟨rfl, xr61⟩ := hw
                have hM : Mem D A ad ns (u2 Ia0 (70) 6 (0)) La0 G H := hM
                refine m_puti (70) 5 hx hb hts hown hE oc4 hM hS (hG.1 70 (by decide)) rfl (by decide) rfl rfl rfl rfl tb_323 dX4_readToken_171 (fun H locs I62 eI62 hM hS => ?_)
                subst eI62
                have hI := hI.putF (n := 70) (k := 5) (v := r61) rfl
                have hK := hK.put (n := 70) (k := 5) (v := r61) (by first | rfl | simp [inR])
                refine lv_aload_n hx hb dX4_readToken_174 rfl (lv_at hl 0 rfl) ?_
                refine lv_aload_n hx hb dX4_readToken_175 rfl (lv_at hl 0 rfl) ?_
                refine m_geti (70) 5 hx hb hts hown hE oc4 hM (hG.1 70 (by decide)) rfl (by decide) rfl tb_323 dX4_readToken_176 ?_
                have z63 : (u2 (u2 Ia0 (70) 6 (0)) (70) 5 (r61)) (70) 5 = r61 := (show (u2 (u2 Ia0 (70) 6 (0)) (70) 5 (r61)) (70) 5 = r61 from by simp [u2_v])
                rw [z63]
                refine lv_bipush (v := (-20)) hx hb dX4_readToken_179 (by decide) ?_
                refine lv_icmp_eq (tgt := 193) hx hb dX4_readToken_181 (by decide) (fun c64 => ?_) (fun c64 => ?_)
                · have hc64 := c64
                  have q64 := q_eq hc64
                  refine lv_iconst (v := (2)) hx hb dX4_readToken_193 (by decide) ?_
                  refine lv_goto (tgt := 198) hx hb dX4_readToken_194 (by decide) ?_
                  refine m_puti (70) 6 hx hb hts hown hE oc4 hM hS (hG.1 70 (by decide)) rfl (by decide) rfl rfl rfl rfl tb_324 dX4_readToken_198 (fun H locs I65 eI65 hM hS => ?_)
                  subst eI65
                  have hI := hI.put (n := 70) (k := 6) (v := 2) (lo := 0) (hi := 401) rfl (by first | omega | decide)
                  have hK := hK.put (n := 70) (k := 6) (v := 2) (by first | rfl | simp [inR])
                  have e4 : (u2 (u2 (u2 Ia0 (70) 6 (0)) (70) 5 (r61)) (70) 6 (2)) (70) 4 = Ia0 (70) 4 := (show (u2 (u2 (u2 Ia0 (70) 6 (0)) (70) 5 (r61)) (70) 6 (2)) (70) 4 = Ia0 (70) 4 from by simp [u2_v])
                  have e5 : (u2 (u2 (u2 Ia0 (70) 6 (0)) (70) 5 (r61)) (70) 6 (2)) (70) 5 = r61 := (show (u2 (u2 (u2 Ia0 (70) 6 (0)) (70) 5 (r61)) (70) 6 (2)) (70) 5 = r61 from by simp [u2_v])
                  have e6 : (u2 (u2 (u2 Ia0 (70) 6 (0)) (70) 5 (r61)) (70) 6 (2)) (70) 6 = 2 := (show (u2 (u2 (u2 Ia0 (70) 6 (0)) (70) 5 (r61)) (70) 6 (2)) (70) 6 = 2 from by simp [u2_v])
                  have e4q := congrArg Int32.toInt e4
                  have e6q := congrArg Int32.toInt e6
                  have hxq := xr61
                  have e4j : (u2 Ia0 (70) 6 (0)) 70 4 = Ia0 70 4 := by simp [u2_v]
                  rw [hTx, e4j, hq4] at hxq
                  have hsg := sgv_c (TC I) (skp (TC I) (I 70 4).toNatClampNeg)
                  rw [← hxq] at hsg
                  have ht := tk_S (T := TC I) (q := skp (TC I) (I 70 4).toNatClampNeg) (by rw [← hq4]; omega) (by rw [← hq4]; omega) (by rw [← hq4]; omega)
                  have hl2 : tkn (TC I) (skp (TC I) (I 70 4).toNatClampNeg) = 2 := by
                    clear hb8 htx hs0
                    unfold sgs at hsg
                    rw [ht.2, if_pos (by omega)]
                  exact m_vret hx hb hr hlocks hM hS (Nat.le_of_ble_eq_true rfl) (Nat.le_of_ble_eq_true rfl) ⟨_, _, rfl, hI, hK, ⟨by omega, by rw [e4]; exact hq4, by rw [ht.1, e5]; exact hxq, by rw [hl2, e6]; rfl⟩⟩ dX4_readToken_201
                · have hc64 := c64
                  have q64 := q_ne hc64
                  refine lv_aload_n hx hb dX4_readToken_184 rfl (lv_at hl 0 rfl) ?_
                  refine m_geti (70) 5 hx hb hts hown hE oc4 hM (hG.1 70 (by decide)) rfl (by decide) rfl tb_323 dX4_readToken_185 ?_
                  have z66 : (u2 (u2 Ia0 (70) 6 (0)) (70) 5 (r61)) (70) 5 = r61 := (show (u2 (u2 Ia0 (70) 6 (0)) (70) 5 (r61)) (70) 5 = r61 from by simp [u2_v])
                  rw [z66]
                  refine lv_bipush (v := (-22)) hx hb dX4_readToken_188 (by decide) ?_
                  refine lv_icmp_ne (tgt := 197) hx hb dX4_readToken_190 (by decide) (fun c67 => ?_) (fun c67 => ?_)
                  · have hc67 := c67
                    have q67 := q_ne hc67
                    refine lv_iconst (v := (1)) hx hb dX4_readToken_197 (by decide) ?_
                    refine m_puti (70) 6 hx hb hts hown hE oc4 hM hS (hG.1 70 (by decide)) rfl (by decide) rfl rfl rfl rfl tb_324 dX4_readToken_198 (fun H locs I68 eI68 hM hS => ?_)
                    subst eI68
                    have hI := hI.put (n := 70) (k := 6) (v := 1) (lo := 0) (hi := 401) rfl (by first | omega | decide)
                    have hK := hK.put (n := 70) (k := 6) (v := 1) (by first | rfl | simp [inR])
                    have e4 : (u2 (u2 (u2 Ia0 (70) 6 (0)) (70) 5 (r61)) (70) 6 (1)) (70) 4 = Ia0 (70) 4 := (show (u2 (u2 (u2 Ia0 (70) 6 (0)) (70) 5 (r61)) (70) 6 (1)) (70) 4 = Ia0 (70) 4 from by simp [u2_v])
                    have e5 : (u2 (u2 (u2 Ia0 (70) 6 (0)) (70) 5 (r61)) (70) 6 (1)) (70) 5 = r61 := (show (u2 (u2 (u2 Ia0 (70) 6 (0)) (70) 5 (r61)) (70) 6 (1)) (70) 5 = r61 from by simp [u2_v])
                    have e6 : (u2 (u2 (u2 Ia0 (70) 6 (0)) (70) 5 (r61)) (70) 6 (1)) (70) 6 = 1 := (show (u2 (u2 (u2 Ia0 (70) 6 (0)) (70) 5 (r61)) (70) 6 (1)) (70) 6 = 1 from by simp [u2_v])
                    have e4q := congrArg Int32.toInt e4
                    have e6q := congrArg Int32.toInt e6
                    have hxq := xr61
                    have e4j : (u2 Ia0 (70) 6 (0)) 70 4 = Ia0 70 4 := by simp [u2_v]
                    rw [hTx, e4j, hq4] at hxq
                    have hsg := sgv_c (TC I) (skp (TC I) (I 70 4).toNatClampNeg)
                    rw [← hxq] at hsg
                    have ht := tk_S (T := TC I) (q := skp (TC I) (I 70 4).toNatClampNeg) (by rw [← hq4]; omega) (by rw [← hq4]; omega) (by rw [← hq4]; omega)
                    have hl2 : tkn (TC I) (skp (TC I) (I 70 4).toNatClampNeg) = 1 := by
                      clear hb8 htx hs0
                      unfold sgs at hsg
                      rw [ht.2, if_neg (by omega)]
                    exact m_vret hx hb hr hlocks hM hS (Nat.le_of_ble_eq_true rfl) (Nat.le_of_ble_eq_true rfl) ⟨_, _, rfl, hI, hK, ⟨by omega, by rw [e4]; exact hq4, by rw [ht.1, e5]; exact hxq, by rw [hl2, e6]; rfl⟩⟩ dX4_readToken_201
                  · have hc67 := c67
                    have q67 := q_eq hc67
                    refine lv_iconst (v := (2)) hx hb dX4_readToken_193 (by decide) ?_
                    refine lv_goto (tgt := 198) hx hb dX4_readToken_194 (by decide) ?_
                    refine m_puti (70) 6 hx hb hts hown hE oc4 hM hS (hG.1 70 (by decide)) rfl (by decide) rfl rfl rfl rfl tb_324 dX4_readToken_198 (fun H locs I69 eI69 hM hS => ?_)
                    subst eI69
                    have hI := hI.put (n := 70) (k := 6) (v := 2) (lo := 0) (hi := 401) rfl (by first | omega | decide)
                    have hK := hK.put (n := 70) (k := 6) (v := 2) (by first | rfl | simp [inR])
                    have e4 : (u2 (u2 (u2 Ia0 (70) 6 (0)) (70) 5 (r61)) (70) 6 (2)) (70) 4 = Ia0 (70) 4 := (show (u2 (u2 (u2 Ia0 (70) 6 (0)) (70) 5 (r61)) (70) 6 (2)) (70) 4 = Ia0 (70) 4 from by simp [u2_v])
                    have e5 : (u2 (u2 (u2 Ia0 (70) 6 (0)) (70) 5 (r61)) (70) 6 (2)) (70) 5 = r61 := (show (u2 (u2 (u2 Ia0 (70) 6 (0)) (70) 5 (r61)) (70) 6 (2)) (70) 5 = r61 from by simp [u2_v])
                    have e6 : (u2 (u2 (u2 Ia0 (70) 6 (0)) (70) 5 (r61)) (70) 6 (2)) (70) 6 = 2 := (show (u2 (u2 (u2 Ia0 (70) 6 (0)) (70) 5 (r61)) (70) 6 (2)) (70) 6 = 2 from by simp [u2_v])
                    have e4q := congrArg Int32.toInt e4
                    have e6q := congrArg Int32.toInt e6
                    have hxq := xr61
                    have e4j : (u2 Ia0 (70) 6 (0)) 70 4 = Ia0 70 4 := by simp [u2_v]
                    rw [hTx, e4j, hq4] at hxq
                    have hsg := sgv_c (TC I) (skp (TC I) (I 70 4).toNatClampNeg)
                    rw [← hxq] at hsg
                    have ht := tk_S (T := TC I) (q := skp (TC I) (I 70 4).toNatClampNeg) (by rw [← hq4]; omega) (by rw [← hq4]; omega) (by rw [← hq4]; omega)
                    have hl2 : tkn (TC I) (skp (TC I) (I 70 4).toNatClampNeg) = 2 := by
                      clear hb8 htx hs0
                      unfold sgs at hsg
                      rw [ht.2, if_pos (by omega)]
                    exact m_vret hx hb hr hlocks hM hS (Nat.le_of_ble_eq_true rfl) (Nat.le_of_ble_eq_true rfl) ⟨_, _, rfl, hI, hK, ⟨by omega, by rw [e4]; exact hq4, by rw [ht.1, e5]; exact hxq, by rw [hl2, e6]; rfl⟩⟩ dX4_readToken_201
              · have hc60 := c60
                have q60 := xr59.t hc60
                have e4 : (u2 Ia0 (70) 6 (0)) (70) 4 = Ia0 (70) 4 := (show (u2 Ia0 (70) 6 (0)) (70) 4 = Ia0 (70) 4 from by simp [u2_v])
                have e6 : (u2 Ia0 (70) 6 (0)) (70) 6 = 0 := (show (u2 Ia0 (70) 6 (0)) (70) 6 = 0 from by simp [u2_v])
                have loop98 : ∀ (n : Nat)  (Ia98 : MI) (La98 : ML) (H : Heap) (locs : List Loc) (ls : Array Slot), INV Ia98 → Kp [] [(70, 4), (70, 5), (70, 6)] I Ia98 → ((Ia98 70 4).toInt < 400) → ((Ia98 70 4).toNatClampNeg = skp (TC I) (I 70 4).toNatClampNeg) → ((Ia98 70 6).toNatClampNeg + rnl ltr (TC I) (skp (TC I) (I 70 4).toNatClampNeg + (Ia98 70 6).toNatClampNeg) = rnl ltr (TC I) (skp (TC I) (I 70 4).toNatClampNeg)) → (401 - (Ia98 70 6).toInt).toNat < n → Mem D A ad ns Ia98 La98 G H → va_S A s.heap H locs → lv_has ls 1 [(0, .ref (ad (70)))] → W p l e ({ frames := 6, cells := 0, slots := 0, locals := 127 } : Room) s m args below meth c H locs 0 0 (MQ below (va_Qv (fun u => ∃ I2 L2, u = (ad, ns, I2, L2, G) ∧ INV I2 ∧ Kp [] [(70, 4), (70, 5), (70, 6)] I I2 ∧ (((I2 70 6).toInt = 0 ∨ (I2 70 4).toInt < 400) ∧ RTX I I2)) (BM D A) A) args s 0 0 A) (F0 m 98 ls []) := by
                  intro n
                  induction n with
                  | zero =>
                    intro  Ia98 La98 H locs ls hI hK hp4 hq98 hn98 hmu
                    exact absurd hmu (Nat.not_lt_zero _)
                  | succ n ih98 =>
                    intro  Ia98 La98 H locs ls hI hK hp4 hq98 hn98 hmu98 hM hS hl
                    refine lv_aload_n hx hb dX4_readToken_98 rfl (lv_at hl 0 rfl) ?_
                    refine lv_aload_n hx hb dX4_readToken_99 rfl (lv_at hl 0 rfl) ?_
                    refine m_geti (70) 4 hx hb hts hown hE oc4 hM (hG.1 70 (by decide)) rfl (by decide) rfl tb_322 dX4_readToken_100 ?_
                    have g70 := hI.get (70) 4 (lo := 0) (hi := 801) rfl
                    refine lv_aload_n hx hb dX4_readToken_103 rfl (lv_at hl 0 rfl) ?_
                    refine m_geti (70) 6 hx hb hts hown hE oc4 hM (hG.1 70 (by decide)) rfl (by decide) rfl tb_324 dX4_readToken_104 ?_
                    have g71 := hI.get (70) 6 (lo := 0) (hi := 401) rfl
                    refine lv_iadd hx hb dX4_readToken_107 ?_
                    refine lv_topi (fun v72 ev72 => ?_)
                    have tv72 := a_add ev72 (by omega) (by omega)
                    refine m_calli (m_runV (70) (As := [.int (v72)]) (rest := []) hx hb hml hown hts hE hM hS hA ce_X4_byteAt tb_577 (V_X4_byteAt_h l D A ad ns Ia98 La98 G (v72) hG hI (by first | omega | decide)) rfl rfl ⟨Nat.le_of_ble_eq_true rfl, Nat.le_of_ble_eq_true rfl⟩ (hG.1 70 (by decide)) rfl rfl (by decide) rfl hl.1 rfl (Nat.le_of_ble_eq_true rfl) dX4_readToken_108 ⟨Nat.le_of_ble_eq_true rfl, Nat.le_of_ble_eq_true rfl⟩) hS (fun r73 u H locs hw hM hS => ?_)
                    obtain ⟨rfl, xr73⟩ := hw
                    have hM : Mem D A ad ns Ia98 La98 G H := hM
                    have btr73 : (r73).toInt = TC I (v72).toNatClampNeg := (xr73.1).trans (congrFun (TC_of (hK.getA 71 rfl) (hK.get 70 3 rfl)) _)
                    have bir73 : (v72).toNatClampNeg = (Ia98 (70) 4).toNatClampNeg + (Ia98 (70) 6).toNatClampNeg := by have z1 := tn (i := v72) (by omega); have z2 := tn (i := Ia98 (70) 4) (by omega); have z3 := tn (i := Ia98 (70) 6) (by omega); omega
                    rw [bir73] at btr73
                    refine m_calli (m_runS (As := [.int (r73)]) (rest := []) hx hb hml hown hts hE hM hS hA ce_X4_isLetter tb_588 (V_X4_isLetter l D A ad ns Ia98 La98 G (r73) hI) rfl rfl ⟨Nat.le_of_ble_eq_true rfl, Nat.le_of_ble_eq_true rfl⟩  rfl hl.1 rfl (Nat.le_of_ble_eq_true rfl) dX4_readToken_111 ⟨Nat.le_of_ble_eq_true rfl, Nat.le_of_ble_eq_true rfl⟩) hS (fun r74 u H locs hw hM hS => ?_)
                    obtain ⟨rfl, xr74⟩ := hw
                    have hM : Mem D A ad ns Ia98 La98 G H := hM
                    have yr74 := bo01 xr74
                    refine lv_if_eq (tgt := 140) hx hb dX4_readToken_114 (by decide) (fun c75 => ?_) (fun c75 => ?_)
                    · have hc75 := c75
                      have q75 := xr74.f hc75
                      refine lv_aload_n hx hb dX4_readToken_140 rfl (lv_at hl 0 rfl) ?_
                      refine lv_aload_n hx hb dX4_readToken_141 rfl (lv_at hl 0 rfl) ?_
                      refine m_geti (70) 6 hx hb hts hown hE oc4 hM (hG.1 70 (by decide)) rfl (by decide) rfl tb_324 dX4_readToken_142 ?_
                      refine lv_iconst (v := (1)) hx hb dX4_readToken_145 (by decide) ?_
                      refine lv_icmp_ne (tgt := 156) hx hb dX4_readToken_146 (by decide) (fun c76 => ?_) (fun c76 => ?_)
                      · have hc76 := c76
                        have q76 := q_ne hc76
                        refine lv_aload_n hx hb dX4_readToken_156 rfl (lv_at hl 0 rfl) ?_
                        have hz := rnl_n (P := ltr) (T := TC I) (p := skp (TC I) (I 70 4).toNatClampNeg + (Ia98 70 6).toNatClampNeg) (ltr_f (by rw [← hq98]; omega))
                        have hk8 := hn98
                        rw [hz] at hk8
                        have z9 := tn (i := Ia98 70 6) (by omega)
                        have hTx : TC Ia98 = TC I := TC_of (hK.getA 71 rfl) (hK.get 70 3 rfl)
                        have hrl9 : (Ia98 70 6).toInt = (rnl ltr (TC Ia98) (Ia98 70 4).toNatClampNeg : Int) := by rw [hTx, hq98]; omega
                        refine m_calli (m_runV (70) (As := []) (rest := [.ref (ad (70))]) hx hb hml hown hts hE hM hS hA ce_X4_wordHere tb_595 (V_X4_wordHere_h l D A ad ns Ia98 La98 G hG hI hrl9) rfl rfl ⟨Nat.le_of_ble_eq_true rfl, Nat.le_of_ble_eq_true rfl⟩ (hG.1 70 (by decide)) rfl rfl (by decide) rfl hl.1 rfl (Nat.le_of_ble_eq_true rfl) dX4_readToken_157 ⟨Nat.le_of_ble_eq_true rfl, Nat.le_of_ble_eq_true rfl⟩) hS (fun r77 u H locs hw hM hS => ?_)
                        obtain ⟨rfl, xr77⟩ := hw
                        have hM : Mem D A ad ns Ia98 La98 G H := hM
                        refine m_puti (70) 5 hx hb hts hown hE oc4 hM hS (hG.1 70 (by decide)) rfl (by decide) rfl rfl rfl rfl tb_323 dX4_readToken_160 (fun H locs I78 eI78 hM hS => ?_)
                        subst eI78
                        have hI := hI.putF (n := 70) (k := 5) (v := r77) rfl
                        have hK := hK.put (n := 70) (k := 5) (v := r77) (by first | rfl | simp [inR])
                        refine lv_goto (tgt := 201) hx hb dX4_readToken_163 (by decide) ?_
                        have e4 : (u2 Ia98 (70) 5 (r77)) (70) 4 = Ia98 (70) 4 := (show (u2 Ia98 (70) 5 (r77)) (70) 4 = Ia98 (70) 4 from by simp [u2_v])
                        have e5 : (u2 Ia98 (70) 5 (r77)) (70) 5 = r77 := (show (u2 Ia98 (70) 5 (r77)) (70) 5 = r77 from by simp [u2_v])
                        have e6 : (u2 Ia98 (70) 5 (r77)) (70) 6 = Ia98 (70) 6 := (show (u2 Ia98 (70) 5 (r77)) (70) 6 = Ia98 (70) 6 from by simp [u2_v])
                        have e4q := congrArg Int32.toInt e4
                        have e6q := congrArg Int32.toInt e6
                        have ht := tk_L (T := TC I) (q := skp (TC I) (I 70 4).toNatClampNeg) (by rw [← hq4]; omega)
                        have hxq := xr77
                        rw [hTx, hq98] at hxq
                        exact m_vret hx hb hr hlocks hM hS (Nat.le_of_ble_eq_true rfl) (Nat.le_of_ble_eq_true rfl) ⟨_, _, rfl, hI, hK, ⟨by omega, by rw [e4]; exact hq98, by rw [ht.1, e5, if_neg (by omega)]; exact hxq, by rw [ht.2, e6]; omega⟩⟩ dX4_readToken_201
                      · have hc76 := c76
                        have q76 := q_eq hc76
                        refine lv_aload_n hx hb dX4_readToken_149 rfl (lv_at hl 0 rfl) ?_
                        have hz := rnl_n (P := ltr) (T := TC I) (p := skp (TC I) (I 70 4).toNatClampNeg + (Ia98 70 6).toNatClampNeg) (ltr_f (by rw [← hq98]; omega))
                        have hk8 := hn98
                        rw [hz] at hk8
                        have z9 := tn (i := Ia98 70 6) (by omega)
                        have hTx : TC Ia98 = TC I := TC_of (hK.getA 71 rfl) (hK.get 70 3 rfl)
                        have hrl9 : (Ia98 70 6).toInt = (rnl ltr (TC Ia98) (Ia98 70 4).toNatClampNeg : Int) := by rw [hTx, hq98]; omega
                        refine m_calli (m_runV (70) (As := []) (rest := [.ref (ad (70))]) hx hb hml hown hts hE hM hS hA ce_X4_yardHere tb_591 (V_X4_yardHere_h l D A ad ns Ia98 La98 G hG hI) rfl rfl ⟨Nat.le_of_ble_eq_true rfl, Nat.le_of_ble_eq_true rfl⟩ (hG.1 70 (by decide)) rfl rfl (by decide) rfl hl.1 rfl (Nat.le_of_ble_eq_true rfl) dX4_readToken_150 ⟨Nat.le_of_ble_eq_true rfl, Nat.le_of_ble_eq_true rfl⟩) hS (fun r79 u H locs hw hM hS => ?_)
                        obtain ⟨rfl, xr79⟩ := hw
                        have hM : Mem D A ad ns Ia98 La98 G H := hM
                        refine lv_goto (tgt := 160) hx hb dX4_readToken_153 (by decide) ?_
                        refine m_puti (70) 5 hx hb hts hown hE oc4 hM hS (hG.1 70 (by decide)) rfl (by decide) rfl rfl rfl rfl tb_323 dX4_readToken_160 (fun H locs I80 eI80 hM hS => ?_)
                        subst eI80
                        have hI := hI.putF (n := 70) (k := 5) (v := r79) rfl
                        have hK := hK.put (n := 70) (k := 5) (v := r79) (by first | rfl | simp [inR])
                        refine lv_goto (tgt := 201) hx hb dX4_readToken_163 (by decide) ?_
                        have e4 : (u2 Ia98 (70) 5 (r79)) (70) 4 = Ia98 (70) 4 := (show (u2 Ia98 (70) 5 (r79)) (70) 4 = Ia98 (70) 4 from by simp [u2_v])
                        have e5 : (u2 Ia98 (70) 5 (r79)) (70) 5 = r79 := (show (u2 Ia98 (70) 5 (r79)) (70) 5 = r79 from by simp [u2_v])
                        have e6 : (u2 Ia98 (70) 5 (r79)) (70) 6 = Ia98 (70) 6 := (show (u2 Ia98 (70) 5 (r79)) (70) 6 = Ia98 (70) 6 from by simp [u2_v])
                        have e4q := congrArg Int32.toInt e4
                        have e6q := congrArg Int32.toInt e6
                        have ht := tk_L (T := TC I) (q := skp (TC I) (I 70 4).toNatClampNeg) (by rw [← hq4]; omega)
                        have hxq := xr79
                        unfold YDX at hxq
                        rw [hTx, hq98] at hxq
                        exact m_vret hx hb hr hlocks hM hS (Nat.le_of_ble_eq_true rfl) (Nat.le_of_ble_eq_true rfl) ⟨_, _, rfl, hI, hK, ⟨by omega, by rw [e4]; exact hq98, by rw [ht.1, e5, if_pos (by omega)]; by_cases hh : TC I (skp (TC I) (I 70 4).toNatClampNeg) < 105; rw [if_pos hh]; omega; rw [if_neg hh]; omega, by rw [ht.2, e6]; omega⟩⟩ dX4_readToken_201
                    · have hc75 := c75
                      have q75 := xr74.t hc75
                      refine lv_aload_n hx hb dX4_readToken_117 rfl (lv_at hl 0 rfl) ?_
                      refine m_geti (70) 6 hx hb hts hown hE oc4 hM (hG.1 70 (by decide)) rfl (by decide) rfl tb_324 dX4_readToken_118 ?_
                      refine lv_sipush (v := (400)) hx hb dX4_readToken_121 (by decide) ?_
                      refine lv_icmp_ge (tgt := 140) hx hb dX4_readToken_124 (by decide) (fun c81 => ?_) (fun c81 => ?_)
                      · have hc81 := c81
                        have q81 := q_le hc81
                        refine lv_aload_n hx hb dX4_readToken_140 rfl (lv_at hl 0 rfl) ?_
                        refine lv_aload_n hx hb dX4_readToken_141 rfl (lv_at hl 0 rfl) ?_
                        refine m_geti (70) 6 hx hb hts hown hE oc4 hM (hG.1 70 (by decide)) rfl (by decide) rfl tb_324 dX4_readToken_142 ?_
                        refine lv_iconst (v := (1)) hx hb dX4_readToken_145 (by decide) ?_
                        refine lv_icmp_ne (tgt := 156) hx hb dX4_readToken_146 (by decide) (fun c82 => ?_) (fun c82 => ?_)
                        · have hc82 := c82
                          have q82 := q_ne hc82
                          refine lv_aload_n hx hb dX4_readToken_156 rfl (lv_at hl 0 rfl) ?_
                          have hz := rnl_e (P := ltr) (T := TC I) (p := skp (TC I) (I 70 4).toNatClampNeg + (Ia98 70 6).toNatClampNeg) (by have z2 := tn (i := Ia98 70 6) (by omega); omega)
                          have hk8 := hn98
                          rw [hz] at hk8
                          have z9 := tn (i := Ia98 70 6) (by omega)
                          have hTx : TC Ia98 = TC I := TC_of (hK.getA 71 rfl) (hK.get 70 3 rfl)
                          have hrl9 : (Ia98 70 6).toInt = (rnl ltr (TC Ia98) (Ia98 70 4).toNatClampNeg : Int) := by rw [hTx, hq98]; omega
                          refine m_calli (m_runV (70) (As := []) (rest := [.ref (ad (70))]) hx hb hml hown hts hE hM hS hA ce_X4_wordHere tb_595 (V_X4_wordHere_h l D A ad ns Ia98 La98 G hG hI hrl9) rfl rfl ⟨Nat.le_of_ble_eq_true rfl, Nat.le_of_ble_eq_true rfl⟩ (hG.1 70 (by decide)) rfl rfl (by decide) rfl hl.1 rfl (Nat.le_of_ble_eq_true rfl) dX4_readToken_157 ⟨Nat.le_of_ble_eq_true rfl, Nat.le_of_ble_eq_true rfl⟩) hS (fun r83 u H locs hw hM hS => ?_)
                          obtain ⟨rfl, xr83⟩ := hw
                          have hM : Mem D A ad ns Ia98 La98 G H := hM
                          refine m_puti (70) 5 hx hb hts hown hE oc4 hM hS (hG.1 70 (by decide)) rfl (by decide) rfl rfl rfl rfl tb_323 dX4_readToken_160 (fun H locs I84 eI84 hM hS => ?_)
                          subst eI84
                          have hI := hI.putF (n := 70) (k := 5) (v := r83) rfl
                          have hK := hK.put (n := 70) (k := 5) (v := r83) (by first | rfl | simp [inR])
                          refine lv_goto (tgt := 201) hx hb dX4_readToken_163 (by decide) ?_
                          have e4 : (u2 Ia98 (70) 5 (r83)) (70) 4 = Ia98 (70) 4 := (show (u2 Ia98 (70) 5 (r83)) (70) 4 = Ia98 (70) 4 from by simp [u2_v])
                          have e5 : (u2 Ia98 (70) 5 (r83)) (70) 5 = r83 := (show (u2 Ia98 (70) 5 (r83)) (70) 5 = r83 from by simp [u2_v])
                          have e6 : (u2 Ia98 (70) 5 (r83)) (70) 6 = Ia98 (70) 6 := (show (u2 Ia98 (70) 5 (r83)) (70) 6 = Ia98 (70) 6 from by simp [u2_v])
                          have e4q := congrArg Int32.toInt e4
                          have e6q := congrArg Int32.toInt e6
                          have ht := tk_L (T := TC I) (q := skp (TC I) (I 70 4).toNatClampNeg) (by rw [← hq4]; omega)
                          have hxq := xr83
                          rw [hTx, hq98] at hxq
                          exact m_vret hx hb hr hlocks hM hS (Nat.le_of_ble_eq_true rfl) (Nat.le_of_ble_eq_true rfl) ⟨_, _, rfl, hI, hK, ⟨by omega, by rw [e4]; exact hq98, by rw [ht.1, e5, if_neg (by omega)]; exact hxq, by rw [ht.2, e6]; omega⟩⟩ dX4_readToken_201
                        · have hc82 := c82
                          have q82 := q_eq hc82
                          refine lv_aload_n hx hb dX4_readToken_149 rfl (lv_at hl 0 rfl) ?_
                          have hz := rnl_e (P := ltr) (T := TC I) (p := skp (TC I) (I 70 4).toNatClampNeg + (Ia98 70 6).toNatClampNeg) (by have z2 := tn (i := Ia98 70 6) (by omega); omega)
                          have hk8 := hn98
                          rw [hz] at hk8
                          have z9 := tn (i := Ia98 70 6) (by omega)
                          have hTx : TC Ia98 = TC I := TC_of (hK.getA 71 rfl) (hK.get 70 3 rfl)
                          have hrl9 : (Ia98 70 6).toInt = (rnl ltr (TC Ia98) (Ia98 70 4).toNatClampNeg : Int) := by rw [hTx, hq98]; omega
                          refine m_calli (m_runV (70) (As := []) (rest := [.ref (ad (70))]) hx hb hml hown hts hE hM hS hA ce_X4_yardHere tb_591 (V_X4_yardHere_h l D A ad ns Ia98 La98 G hG hI) rfl rfl ⟨Nat.le_of_ble_eq_true rfl, Nat.le_of_ble_eq_true rfl⟩ (hG.1 70 (by decide)) rfl rfl (by decide) rfl hl.1 rfl (Nat.le_of_ble_eq_true rfl) dX4_readToken_150 ⟨Nat.le_of_ble_eq_true rfl, Nat.le_of_ble_eq_true rfl⟩) hS (fun r85 u H locs hw hM hS => ?_)
                          obtain ⟨rfl, xr85⟩ := hw
                          have hM : Mem D A ad ns Ia98 La98 G H := hM
                          refine lv_goto (tgt := 160) hx hb dX4_readToken_153 (by decide) ?_
                          refine m_puti (70) 5 hx hb hts hown hE oc4 hM hS (hG.1 70 (by decide)) rfl (by decide) rfl rfl rfl rfl tb_323 dX4_readToken_160 (fun H locs I86 eI86 hM hS => ?_)
                          subst eI86
                          have hI := hI.putF (n := 70) (k := 5) (v := r85) rfl
                          have hK := hK.put (n := 70) (k := 5) (v := r85) (by first | rfl | simp [inR])
                          refine lv_goto (tgt := 201) hx hb dX4_readToken_163 (by decide) ?_
                          have e4 : (u2 Ia98 (70) 5 (r85)) (70) 4 = Ia98 (70) 4 := (show (u2 Ia98 (70) 5 (r85)) (70) 4 = Ia98 (70) 4 from by simp [u2_v])
                          have e5 : (u2 Ia98 (70) 5 (r85)) (70) 5 = r85 := (show (u2 Ia98 (70) 5 (r85)) (70) 5 = r85 from by simp [u2_v])
                          have e6 : (u2 Ia98 (70) 5 (r85)) (70) 6 = Ia98 (70) 6 := (show (u2 Ia98 (70) 5 (r85)) (70) 6 = Ia98 (70) 6 from by simp [u2_v])
                          have e4q := congrArg Int32.toInt e4
                          have e6q := congrArg Int32.toInt e6
                          have ht := tk_L (T := TC I) (q := skp (TC I) (I 70 4).toNatClampNeg) (by rw [← hq4]; omega)
                          have hxq := xr85
                          unfold YDX at hxq
                          rw [hTx, hq98] at hxq
                          exact m_vret hx hb hr hlocks hM hS (Nat.le_of_ble_eq_true rfl) (Nat.le_of_ble_eq_true rfl) ⟨_, _, rfl, hI, hK, ⟨by omega, by rw [e4]; exact hq98, by rw [ht.1, e5, if_pos (by omega)]; by_cases hh : TC I (skp (TC I) (I 70 4).toNatClampNeg) < 105; rw [if_pos hh]; omega; rw [if_neg hh]; omega, by rw [ht.2, e6]; omega⟩⟩ dX4_readToken_201
                      · have hc81 := c81
                        have q81 := q_nle hc81
                        refine lv_aload_n hx hb dX4_readToken_127 rfl (lv_at hl 0 rfl) ?_
                        refine lv_dup hx hb dX4_readToken_128 rfl ?_
                        refine m_geti (70) 6 hx hb hts hown hE oc4 hM (hG.1 70 (by decide)) rfl (by decide) rfl tb_324 dX4_readToken_129 ?_
                        refine lv_iconst (v := (1)) hx hb dX4_readToken_132 (by decide) ?_
                        refine lv_iadd hx hb dX4_readToken_133 ?_
                        refine lv_topi (fun v87 ev87 => ?_)
                        have tv87 := a_add ev87 (by omega) (by omega)
                        refine m_puti (70) 6 hx hb hts hown hE oc4 hM hS (hG.1 70 (by decide)) rfl (by decide) rfl rfl rfl rfl tb_324 dX4_readToken_134 (fun H locs I88 eI88 hM hS => ?_)
                        subst eI88
                        have hI := hI.put (n := 70) (k := 6) (v := v87) (lo := 0) (hi := 401) rfl (by first | omega | decide)
                        have hK := hK.put (n := 70) (k := 6) (v := v87) (by first | rfl | simp [inR])
                        refine lv_goto (tgt := 98) hx hb dX4_readToken_137 (by decide) ?_
                        have tr706 : ((u2 Ia98 (70) 6 (v87)) (70) 6).toInt = (v87 : Int32).toInt := congrArg Int32.toInt ((show (u2 Ia98 (70) 6 (v87)) (70) 6 = v87 from by simp [u2_v]))
                        have tr704 : ((u2 Ia98 (70) 6 (v87)) (70) 4).toInt = (Ia98 (70) 4 : Int32).toInt := congrArg Int32.toInt ((show (u2 Ia98 (70) 6 (v87)) (70) 4 = Ia98 (70) 4 from by simp [u2_v]))
                        have e4 : (u2 Ia98 (70) 6 (v87)) (70) 4 = Ia98 (70) 4 := (show (u2 Ia98 (70) 6 (v87)) (70) 4 = Ia98 (70) 4 from by simp [u2_v])
                        have e6 : (u2 Ia98 (70) 6 (v87)) (70) 6 = v87 := (show (u2 Ia98 (70) 6 (v87)) (70) 6 = v87 from by simp [u2_v])
                        have z6 : (v87).toNatClampNeg = (Ia98 70 6).toNatClampNeg + 1 := by have z1 := tn (i := v87) (by omega); have z2 := tn (i := Ia98 70 6) (by omega); omega
                        have hd6 := rnl_y (P := ltr) (T := TC I) (okt_lt hT (p := skp (TC I) (I 70 4).toNatClampNeg + (Ia98 70 6).toNatClampNeg) (by rw [← hq98]; omega)) (ltr_t (by rw [← hq98]; omega))
                        exact ih98  (u2 Ia98 (70) 6 (v87)) La98 _ _ ls hI hK (by rw [e4]; omega) (by rw [e4]; exact hq98) (by rw [e6, z6]; rw [show skp (TC I) (I 70 4).toNatClampNeg + ((Ia98 70 6).toNatClampNeg + 1) = skp (TC I) (I 70 4).toNatClampNeg + (Ia98 70 6).toNatClampNeg + 1 from rfl]; omega) (by omega) hM hS (lv_sub hl [0] rfl)
                exact loop98 (_ + 1)  (u2 Ia0 (70) 6 (0)) La0 _ _ ls hI hK (by rw [e4]; omega) (by rw [e4]; exact hq4) (by rw [e6]; show 0 + rnl ltr (TC I) (skp (TC I) (I 70 4).toNatClampNeg + 0) = _; rw [Nat.add_zero, Nat.zero_add]) (Nat.lt_succ_self _) hM hS (lv_sub hl [0] rfl)
            · have hc56 := c56
              have q56 := xr55.t hc56
              refine lv_aload_n hx hb dX4_readToken_77 rfl (lv_at hl 0 rfl) ?_
              have hK0 := hK
              refine m_callv (m_runV (70) (As := []) (rest := []) hx hb hml hown hts hE hM hS hA ce_X4_readNumber tb_584 (V_X4_readNumber_h l D A ad ns (u2 Ia0 (70) 6 (0)) La0 G hG hI (by rw [u2_self]; exact k0)) rfl rfl ⟨Nat.le_of_ble_eq_true rfl, Nat.le_of_ble_eq_true rfl⟩ (hG.1 70 (by decide)) rfl rfl (by decide) rfl hl.1 rfl (Nat.le_of_ble_eq_true rfl) dX4_readToken_78 ⟨Nat.le_of_ble_eq_true rfl, Nat.le_of_ble_eq_true rfl⟩) hS (fun u H locs hw hM hS => ?_)
              obtain ⟨I89, L90, rfl, hI, hkI89, xI89⟩ := hw
              have hM : Mem D A ad ns I89 L90 G H := hM
              have hK := hK.trans hkI89 rfl
              refine lv_goto (tgt := 201) hx hb dX4_readToken_81 (by decide) ?_
              have e4 : I89 (70) 4 = Ia0 (70) 4 := ((hkI89.get (70) 4 rfl)).trans (show (u2 Ia0 (70) 6 (0)) (70) 4 = Ia0 (70) 4 from by simp [u2_v])
              have e5 : I89 (70) 5 = I89 (70) 5 := rfl
              have e6 : I89 (70) 6 = I89 (70) 6 := rfl
              have e4q := congrArg Int32.toInt e4
              have e6q := congrArg Int32.toInt e6
              have hTx : TC (u2 Ia0 (70) 6 (0)) = TC I := TC_of (hK0.getA 71 rfl) (hK0.get 70 3 rfl)
              have hxq := xI89
              unfold RNX at hxq
              have e4j : (u2 Ia0 (70) 6 (0)) 70 4 = Ia0 70 4 := by simp [u2_v]
              rw [hTx, e4j, hq4] at hxq
              have ht := tk_D (T := TC I) (q := skp (TC I) (I 70 4).toNatClampNeg) (by rw [← hq4]; omega)
              exact m_vret hx hb hr hlocks hM hS (Nat.le_of_ble_eq_true rfl) (Nat.le_of_ble_eq_true rfl) ⟨_, _, rfl, hI, hK, ⟨by omega, by rw [e4]; exact hq4, by rw [ht.1]; exact hxq.2, by rw [ht.2]; exact hxq.1⟩⟩ dX4_readToken_201
          · have hc52 := c52
            have q52 := q_nlt hc52
            refine lv_aload_n hx hb dX4_readToken_54 rfl (lv_at hl 0 rfl) ?_
            refine lv_bipush (v := (-45)) hx hb dX4_readToken_55 (by decide) ?_
            refine m_puti (70) 5 hx hb hts hown hE oc4 hM hS (hG.1 70 (by decide)) rfl (by decide) rfl rfl rfl rfl tb_323 dX4_readToken_57 (fun H locs I91 eI91 hM hS => ?_)
            subst eI91
            have hI := hI.putF (n := 70) (k := 5) (v := (-45 : Int32)) rfl
            have hK := hK.put (n := 70) (k := 5) (v := (-45 : Int32)) (by first | rfl | simp [inR])
            refine lv_goto (tgt := 201) hx hb dX4_readToken_60 (by decide) ?_
            have e4 : (u2 (u2 Ia0 (70) 6 (0)) (70) 5 ((-45 : Int32))) (70) 4 = Ia0 (70) 4 := (show (u2 (u2 Ia0 (70) 6 (0)) (70) 5 ((-45 : Int32))) (70) 4 = Ia0 (70) 4 from by simp [u2_v])
            have e5 : (u2 (u2 Ia0 (70) 6 (0)) (70) 5 ((-45 : Int32))) (70) 5 = (-45 : Int32) := (show (u2 (u2 Ia0 (70) 6 (0)) (70) 5 ((-45 : Int32))) (70) 5 = (-45 : Int32) from by simp [u2_v])
            have e6 : (u2 (u2 Ia0 (70) 6 (0)) (70) 5 ((-45 : Int32))) (70) 6 = 0 := (show (u2 (u2 Ia0 (70) 6 (0)) (70) 5 ((-45 : Int32))) (70) 6 = 0 from by simp [u2_v])
            have e4q := congrArg Int32.toInt e4
            have e6q := congrArg Int32.toInt e6
            have ht := tk_E (T := TC I) (q := skp (TC I) (I 70 4).toNatClampNeg) (by rw [← hq4]; omega)
            exact m_vret hx hb hr hlocks hM hS (Nat.le_of_ble_eq_true rfl) (Nat.le_of_ble_eq_true rfl) ⟨_, _, rfl, hI, hK, ⟨by omega, by rw [e4]; exact hq4, by rw [e5, ht.1]; exact km45, by rw [e6, ht.2]; rfl⟩⟩ dX4_readToken_201
        · have hc48 := c48
          have q48 := q_eq hc48
          refine lv_aload_n hx hb dX4_readToken_25 rfl (lv_at hl 0 rfl) ?_
          refine lv_dup hx hb dX4_readToken_26 rfl ?_
          refine m_geti (70) 4 hx hb hts hown hE oc4 hM (hG.1 70 (by decide)) rfl (by decide) rfl tb_322 dX4_readToken_27 ?_
          refine lv_iconst (v := (1)) hx hb dX4_readToken_30 (by decide) ?_
          refine lv_iadd hx hb dX4_readToken_31 ?_
          refine lv_topi (fun v92 ev92 => ?_)
          have tv92 := a_add ev92 (by omega) (by omega)
          refine m_puti (70) 4 hx hb hts hown hE oc4 hM hS (hG.1 70 (by decide)) rfl (by decide) rfl rfl rfl rfl tb_322 dX4_readToken_32 (fun H locs I93 eI93 hM hS => ?_)
          subst eI93
          have hI := hI.put (n := 70) (k := 4) (v := v92) (lo := 0) (hi := 801) rfl (by first | omega | decide)
          have hK := hK.put (n := 70) (k := 4) (v := v92) (by first | rfl | simp [inR])
          refine lv_goto (tgt := 0) hx hb dX4_readToken_35 (by decide) ?_
          have tr704 : ((u2 Ia0 (70) 4 (v92)) (70) 4).toInt = (v92 : Int32).toInt := congrArg Int32.toInt ((show (u2 Ia0 (70) 4 (v92)) (70) 4 = v92 from by simp [u2_v]))
          have htx : TC I (Ia0 70 4).toNatClampNeg = b8 (Ia0 71 (Ia0 70 4).toNatClampNeg) := (congrFun (TC_of (I := I) (I2 := Ia0) h71 h703) _).symm.trans (TXT_y (by have z1 := tn (i := Ia0 70 4) (by omega); omega))
          have e4 : (u2 Ia0 (70) 4 (v92)) (70) 4 = v92 := (show (u2 Ia0 (70) 4 (v92)) (70) 4 = v92 from by simp [u2_v])
          exact ih0  (u2 Ia0 (70) 4 (v92)) La0 _ _ ls hI hK (by rw [e4, show (v92).toNatClampNeg = (Ia0 70 4).toNatClampNeg + 1 from by have z1 := tn (i := v92) (by omega); have z2 := tn (i := Ia0 70 4) (by omega); omega, skp_y hT (by omega)]; exact hs0) (by omega) hM hS (lv_sub hl [0] rfl)
  exact loop0 (_ + 1)  I L _ _ ls hI hK rfl (Nat.lt_succ_self _) hM hS (lv_sub hl [0] rfl)
