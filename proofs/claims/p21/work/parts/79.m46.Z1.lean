set_option maxHeartbeats 4000000 in
set_option maxRecDepth 20000 in
theorem V_X2_addToday_y (l : Launch) (D : va_G) (A : Nat → Prop) (ad : Nat → Nat) (ns : List Nat) (I : MI) (L : ML) (G : MG) (hG : SGC ns G) (hI : INV I) : Met l yX2_addToday (wd yX2_addToday cX2_addToday 2 none) ({ frames := 0, cells := 0, slots := 0, locals := 0 }) (va_Pc [.ref (ad (20))] (PM D A ad ns I L G)) (va_Qv (fun u => ∃ I2 L2, u = (ad, ns, I2, L2, G) ∧ INV I2 ∧ Kp [(21, 22)] [] I I2 ∧ (∀ j : Nat, j < 8 → I2 21 j = I 21 j + I 11 j)) (BM D A) A) 0 0 A := by
  refine m_ofW (by decide) (Nat.le_of_ble_eq_true rfl) ?_
  intro p e s m below meth c ls args hC hE hM hA hS hl
  obtain ⟨hx, hb, hml, hown, hts, hr, hlocks, hin⟩ := hC
  have k0 : (0 : Int32).toInt = 0 := by decide
  have k8 : (8 : Int32).toInt = 8 := by decide
  have hK : Kp [(21, 22)] [] I I := Kp.rf
  have hl : lv_has ls 2 [(0, .ref (ad (20)))] := hl
  refine lv_iconst (v := (0)) hx hb dX2_addToday_0 (by decide) ?_
  refine lv_istore_n (lv' := [(1, .int (0)), (0, .ref (ad (20)))]) hx hb dX2_addToday_1 rfl hl (by decide) rfl (fun ls hl => ?_)
  have loop2 : ∀ (n : Nat) (x1_2 : Int32) (Ia2 : MI) (La2 : ML) (H : Heap) (locs : List Loc) (ls : Array Slot), INV Ia2 → Kp [(21, 22)] [] I Ia2 → (0 ≤ x1_2.toInt ∧ x1_2.toInt ≤ 8) → (Ia2 11 = I 11) → (∀ j : Nat, j < 8 → Ia2 21 j = if j < (x1_2).toNatClampNeg then I 21 j + I 11 j else I 21 j) → (8 - x1_2.toInt).toNat < n → Mem D A ad ns Ia2 La2 G H → va_S A s.heap H locs → lv_has ls 2 [(1, .int (x1_2)), (0, .ref (ad (20)))] → W p l e ({ frames := 0, cells := 0, slots := 0, locals := 0 } : Room) s m args below meth c H locs 0 0 (MQ below (va_Qv (fun u => ∃ I2 L2, u = (ad, ns, I2, L2, G) ∧ INV I2 ∧ Kp [(21, 22)] [] I I2 ∧ (∀ j : Nat, j < 8 → I2 21 j = I 21 j + I 11 j)) (BM D A) A) args s 0 0 A) (F0 m 2 ls []) := by
    intro n
    induction n with
    | zero =>
      intro x1_2 Ia2 La2 H locs ls hI hK hr1_2 h112 hg2 hmu
      exact absurd hmu (Nat.not_lt_zero _)
    | succ n ih2 =>
      intro x1_2 Ia2 La2 H locs ls hI hK hr1_2 h112 hg2 hmu2 hM hS hl
      refine lv_iload_n hx hb dX2_addToday_2 rfl (lv_at hl 0 rfl) ?_
      refine lv_bipush (v := (8)) hx hb dX2_addToday_3 (by decide) ?_
      refine lv_icmp_ge (tgt := 32) hx hb dX2_addToday_5 (by decide) (fun c1 => ?_) (fun c1 => ?_)
      · have hc1 := c1
        have q1 := q_le hc1
        exact m_vret hx hb hr hlocks hM hS (Nat.le_of_ble_eq_true rfl) (Nat.le_of_ble_eq_true rfl) ⟨_, _, rfl, hI, hK, (fun j hj => by rw [hg2 j hj, if_pos (by have zz := tn (i := x1_2) (by omega); omega)])⟩ dX2_addToday_32
      · have hc1 := c1
        have q1 := q_nle hc1
        refine lv_aload_n hx hb dX2_addToday_8 rfl (lv_at hl 1 rfl) ?_
        refine m_getr (20) 1 (21) hx hb hts hown hE oc2 hM (hG.1 20 (by decide)) rfl (by decide) rfl (hG.2 (20, 1, 21) (by decide)) (by decide) tb_186 dX2_addToday_9 ?_
        refine lv_iload_n hx hb dX2_addToday_12 rfl (lv_at hl 0 rfl) ?_
        refine lv_dup2_11 hx hb dX2_addToday_13 rfl rfl ?_
        refine m_iald (21) hx hb hE hM (hG.1 21 (by decide)) rfl (vp_in_iff.mpr (by omega)) dX2_addToday_14 ?_
        refine lv_aload_n hx hb dX2_addToday_15 rfl (lv_at hl 1 rfl) ?_
        refine m_getr (20) 0 (10) hx hb hts hown hE oc2 hM (hG.1 20 (by decide)) rfl (by decide) rfl (hG.2 (20, 0, 10) (by decide)) (by decide) tb_185 dX2_addToday_16 ?_
        refine m_getr (10) 0 (11) hx hb hts hown hE oc1 hM (hG.1 10 (by decide)) rfl (by decide) rfl (hG.2 (10, 0, 11) (by decide)) (by decide) tb_132 dX2_addToday_19 ?_
        refine lv_iload_n hx hb dX2_addToday_22 rfl (lv_at hl 0 rfl) ?_
        refine m_iald (11) hx hb hE hM (hG.1 11 (by decide)) rfl (vp_in_iff.mpr (by omega)) dX2_addToday_23 ?_
        refine lv_iadd hx hb dX2_addToday_24 ?_
        refine lv_topi (fun v2 ev2 => ?_)
        refine m_iast (21) hx hb hE hM hS (hG.1 21 (by decide)) rfl (vp_in_iff.mpr (by omega)) dX2_addToday_25 (fun H locs I3 eI3 hM hS => ?_)
        subst eI3
        have hI := hI.putF (n := 21) (k := ((x1_2).toNatClampNeg)) (v := v2) rfl
        have hK := hK.put (n := 21) (k := ((x1_2).toNatClampNeg)) (v := v2) (by first | rfl | simp [inR])
        obtain ⟨v4, ev4⟩ : ∃ z : Int32, z = x1_2 + Int32.ofInt (1) := ⟨_, rfl⟩
        have tv4 := a_inc ev4 (by decide) (by omega) (by omega)
        refine lv_iinc (v := v4) (lv' := [(1, .int (v4)), (0, .ref (ad (20)))]) hx hb dX2_addToday_26 hl (k := 0) rfl ev4.symm (by decide) rfl (fun ls hl => ?_)
        refine lv_goto (tgt := 2) hx hb dX2_addToday_29 (by decide) ?_
        exact ih2 (v4) (u2 Ia2 (21) ((x1_2).toNatClampNeg) (v2)) La2 _ _ ls hI hK (by first | omega | decide) (by rw [u2_ne _ _ _ (by decide)]; exact h112) (fun j hj => by have z1 := tn (i := x1_2) (by omega); have z2 := tn (i := v4) (by omega); rw [show (v4).toNatClampNeg = (x1_2).toNatClampNeg + 1 from by omega, u2_v]; by_cases hq : j = (x1_2).toNatClampNeg; (rw [if_pos ⟨rfl, hq⟩, if_pos (by omega), ev2, hg2 _ (by omega), if_neg (by omega), h112, hq]); (rw [if_neg (fun z => hq z.2), hg2 j hj]; by_cases hz : j < (x1_2).toNatClampNeg; rw [if_pos hz, if_pos (by omega)]; rw [if_neg hz, if_neg (by omega)])) (by omega) hM hS (lv_sub hl [0, 1] rfl)
  exact loop2 (_ + 1) (0) I L _ _ ls hI hK (by first | omega | decide) rfl (fun j hj => by rw [show (0 : Int32).toNatClampNeg = 0 from rfl, if_neg (fun z => absurd z (Nat.not_lt_zero j))]) (Nat.lt_succ_self _) hM hS (lv_sub hl [0, 1] rfl)
set_option maxHeartbeats 4000000 in
set_option maxRecDepth 20000 in
theorem V_X2_turnMirrors_100_y (l : Launch) (D : va_G) (A : Nat → Prop) (ad : Nat → Nat) (ns : List Nat) (I : MI) (L : ML) (G : MG) (w : Nat) (hG : SGC ns G) (hI : INV I) (hW : LOK ns G w) (hbg : 0 < (I 100 0).toInt) (hRK : RKw (cF 100 I)) (hLF : LWF (lawC w I)) : Met l yX2_turnMirrors (wd yX2_turnMirrors cX2_turnMirrors 8 none) ({ frames := 5, cells := 0, slots := 0, locals := 119 }) (va_Pc [.ref (ad (20)), .ref (ad (100)), .ref (ad (w))] (PM D A ad ns I L G)) (va_Qv (fun u => ∃ I2 L2, u = (ad, ns, I2, L2, G) ∧ INV I2 ∧ Kp [(107, 108)] [] I I2 ∧ (EqV (trV (cF 100 I) (I 20 3) (I 21) (lawC w I)) (cF 100 I2))) (BM D A) A) 0 0 A := by
  refine m_ofW (by decide) (Nat.le_of_ble_eq_true rfl) ?_
  intro p e s m below meth c ls args hC hE hM hA hS hl
  obtain ⟨hx, hb, hml, hown, hts, hr, hlocks, hin⟩ := hC
  have k0 : (0 : Int32).toInt = 0 := by decide
  have k1 : (1 : Int32).toInt = 1 := by decide
  have kl7 : (7 : Int64).toInt = 7 := by decide
  have kl0 : (0 : Int64).toInt = 0 := rfl
  have kl1 : (1 : Int64).toInt = 1 := rfl
  have hl5 : 0 ≤ (I w 5).toInt ∧ (I w 5).toInt ≤ 12 := hLF.1
  have h20 := hI.get 20 3 (lo := 0) (hi := 23) rfl
  have gm8 := hI.get 100 8 (lo := 0) (hi := 24) rfl
  have g5m := hI.get 100 5 (lo := 0) (hi := 11) rfl
  have h8n : ((cF 100 I) 1 8).toNatClampNeg ≤ 24 := by show (I 100 8).toNatClampNeg ≤ 24; have z := tn (i := I 100 8) (by omega); omega
  have hOKm : 0 ≤ ((cF 100 I) 1 5).toInt ∧ ((cF 100 I) 1 5).toInt ≤ 11 := g5m
  have hK : Kp [(107, 108)] [] I I := Kp.rf
  have hl : lv_has ls 8 [(0, .ref (ad (20))), (1, .ref (ad (100))), (2, .ref (ad (w)))] := hl
  refine lv_iconst (v := (0)) hx hb dX2_turnMirrors_0 (by decide) ?_
  refine lv_istore_n (lv' := [(3, .int (0)), (0, .ref (ad (20))), (1, .ref (ad (100))), (2, .ref (ad (w)))]) hx hb dX2_turnMirrors_1 rfl hl (by decide) rfl (fun ls hl => ?_)
  refine lv_iconst (v := (0)) hx hb dX2_turnMirrors_2 (by decide) ?_
  refine lv_istore (lv' := [(4, .int (0)), (3, .int (0)), (0, .ref (ad (20))), (1, .ref (ad (100))), (2, .ref (ad (w)))]) hx hb dX2_turnMirrors_3 hl (by decide) rfl (fun ls hl => ?_)
  have loop5 : ∀ (n : Nat) (x4_5 : Int32) (x3_5 : Int32) (Ia5 : MI) (La5 : ML) (H : Heap) (locs : List Loc) (ls : Array Slot), INV Ia5 → Kp [(107, 108)] [] I Ia5 → (0 ≤ x4_5.toInt ∧ x4_5.toInt ≤ 12) → ((x4_5).toInt ≤ (I w 5).toInt) → (TMX (cF 100 I) (I 20 3) (I 21) (lawC w I) (x4_5).toNatClampNeg 100 Ia5 x3_5) → (12 - x4_5.toInt).toNat < n → Mem D A ad ns Ia5 La5 G H → va_S A s.heap H locs → lv_has ls 8 [(4, .int (x4_5)), (3, .int (x3_5)), (0, .ref (ad (20))), (1, .ref (ad (100))), (2, .ref (ad (w)))] → W p l e ({ frames := 5, cells := 0, slots := 0, locals := 119 } : Room) s m args below meth c H locs 0 0 (MQ below (va_Qv (fun u => ∃ I2 L2, u = (ad, ns, I2, L2, G) ∧ INV I2 ∧ Kp [(107, 108)] [] I I2 ∧ (EqV (trV (cF 100 I) (I 20 3) (I 21) (lawC w I)) (cF 100 I2))) (BM D A) A) args s 0 0 A) (F0 m 5 ls []) := by
    intro n
    induction n with
    | zero =>
      intro x4_5 x3_5 Ia5 La5 H locs ls hI hK hr4_5 hle5 hT5 hmu
      exact absurd hmu (Nat.not_lt_zero _)
    | succ n ih5 =>
      intro x4_5 x3_5 Ia5 La5 H locs ls hI hK hr4_5 hle5 hT5 hmu5 hM hS hl
      have hLc := lawC_kp hW.1 hK (by decide) (by decide)
      have hLFa := hLF.eq hLc
      have hRa : RKw (cF 100 Ia5) := (RKw.tA hRK).eq hT5.1
      have hm8 : ((cF 100 I) 1 8).toNatClampNeg = (Ia5 100 8).toNatClampNeg := congrArg Int32.toNatClampNeg (hK.get 100 8 rfl).symm
      have hbg5 : 0 < (Ia5 100 0).toInt := by rw [hK.get 100 0 rfl]; exact hbg
      have gm85 := hI.get 100 8 (lo := 0) (hi := 24) rfl
      have tm85 := tn (i := Ia5 100 8) (by omega)
      have gc5 : 0 ≤ (Ia5 w 5).toInt ∧ (Ia5 w 5).toInt ≤ 12 := hLFa.1
      refine lv_iload hx hb dX2_turnMirrors_5 (lv_at hl 0 rfl) ?_
      refine lv_aload_n hx hb dX2_turnMirrors_7 rfl (lv_at hl 4 rfl) ?_
      refine m_geti (w) 5 hx hb hts hown hE oc3 hM hW.l (kW _ hW.1).1 (by decide) rfl tb_380 dX2_turnMirrors_8 ?_
      have g1 := hI.get (w) 5 (lo := 0) (hi := 12) (rgw0 hW.1).1
      refine lv_icmp_ge (tgt := 102) hx hb dX2_turnMirrors_11 (by decide) (fun c2 => ?_) (fun c2 => ?_)
      · have hc2 := c2
        have q2 := q_le hc2
        exact m_vret hx hb hr hlocks hM hS (Nat.le_of_ble_eq_true rfl) (Nat.le_of_ble_eq_true rfl) ⟨_, _, rfl, hI, hK, (hT5.fin (by show (x4_5).toNatClampNeg = (I w 5).toNatClampNeg; exact congrArg Int32.toNatClampNeg (Int32.toInt_inj.mp (by have z5 := congrArg Int32.toInt (congrFun (hLc 0 (by decide)) 5); have z6 : (Ia5 w 5).toInt = (I w 5).toInt := z5; omega))))⟩ dX2_turnMirrors_102
      · have hc2 := c2
        have q2 := q_nle hc2
        have z4 := tn (i := x4_5) (by omega)
        have hin5 : (x4_5).toNatClampNeg < (Ia5 w 5).toNatClampNeg := by have z5 := tn (i := Ia5 w 5) (by omega); omega
        have hlx := hLFa.x hin5
        have hb6 := hlx.2.1
        refine lv_aload_n hx hb dX2_turnMirrors_14 rfl (lv_at hl 4 rfl) ?_
        refine m_getr (w) 1 (w + 2) hx hb hts hown hE oc3 hM hW.l (kW _ hW.1).1 (by decide) rfl (hW.2.2 1 (by decide)) (by have := lbw hW.1; omega) tb_372 dX2_turnMirrors_15 ?_
        refine lv_iload hx hb dX2_turnMirrors_18 (lv_at hl 0 rfl) ?_
        refine m_iald (w + 2) hx hb hE hM (hW.2.1 2 (by decide)) (kW _ hW.1).2.2.1 (vp_in_iff.mpr (by omega)) dX2_turnMirrors_20 ?_
        have hm23 : 0 ≤ (Ia5 (w + 2) (x4_5).toNatClampNeg).toInt ∧ (Ia5 (w + 2) (x4_5).toNatClampNeg).toInt ≤ 23 := hlx.1
        have tm := tn (i := Ia5 (w + 2) (x4_5).toNatClampNeg) hm23.1
        have hm24 : (Ia5 (w + 2) (x4_5).toNatClampNeg).toNatClampNeg < 24 := by omega
        have hmL : (Ia5 (w + 2) (x4_5).toNatClampNeg).toNatClampNeg = (lawC w I 2 (x4_5).toNatClampNeg).toNatClampNeg := congrArg Int32.toNatClampNeg (congrFun (hLc 2 (by decide)) _)
        refine lv_istore (lv' := [(5, .int (Ia5 (w + 2) (x4_5).toNatClampNeg)), (4, .int (x4_5)), (3, .int (x3_5)), (0, .ref (ad (20))), (1, .ref (ad (100))), (2, .ref (ad (w)))]) hx hb dX2_turnMirrors_21 hl (by decide) rfl (fun ls hl => ?_)
        refine lv_aload_n hx hb dX2_turnMirrors_23 rfl (lv_at hl 4 rfl) ?_
        refine lv_iload hx hb dX2_turnMirrors_24 (lv_at hl 0 rfl) ?_
        refine m_calli (m_runV (100) (As := [.int (Ia5 (w + 2) (x4_5).toNatClampNeg)]) (rest := []) hx hb hml hown hts hE hM hS hA ce_X8_hasMirror tb_753 (V_X8_hasMirror_100 l D A ad ns Ia5 La5 G (Ia5 (w + 2) (x4_5).toNatClampNeg) hG hI) rfl rfl ⟨Nat.le_of_ble_eq_true rfl, Nat.le_of_ble_eq_true rfl⟩ (hG.1 100 (by decide)) rfl rfl (by decide) rfl hl.1 rfl (Nat.le_of_ble_eq_true rfl) dX2_turnMirrors_26 ⟨Nat.le_of_ble_eq_true rfl, Nat.le_of_ble_eq_true rfl⟩) hS (fun r3 u H locs hw hM hS => ?_)
        obtain ⟨rfl, xr3⟩ := hw
        have hM : Mem D A ad ns Ia5 La5 G H := hM
        have yr3 := bo01 xr3
        have g4 := hI.get 100 8 (lo := 0) (hi := 24) rfl
        refine lv_if_eq (tgt := 96) hx hb dX2_turnMirrors_29 (by decide) (fun c5 => ?_) (fun c5 => ?_)
        · have hc5 := c5
          have q5 := xr3.f hc5
          obtain ⟨v6, ev6⟩ : ∃ z : Int32, z = x4_5 + Int32.ofInt (1) := ⟨_, rfl⟩
          have tv6 := a_inc ev6 (by decide) (by omega) (by omega)
          refine lv_iinc (v := v6) (lv' := [(4, .int (v6)), (5, .int (Ia5 (w + 2) (x4_5).toNatClampNeg)), (3, .int (x3_5)), (0, .ref (ad (20))), (1, .ref (ad (100))), (2, .ref (ad (w)))]) hx hb dX2_turnMirrors_96 hl (k := 1) rfl ev6.symm (by decide) rfl (fun ls hl => ?_)
          refine lv_goto (tgt := 5) hx hb dX2_turnMirrors_99 (by decide) ?_
          exact ih5 (v6) (x3_5) Ia5 La5 _ _ ls hI hK (by first | omega | decide) (by have z5 := congrArg Int32.toInt (congrFun (hLc 0 (by decide)) 5); have z6 : (Ia5 w 5).toInt = (I w 5).toInt := z5; omega) (by rw [show (v6).toNatClampNeg = (x4_5).toNatClampNeg + 1 from by have z := tn (i := v6) (by omega); have z2 := tn (i := x4_5) (by omega); omega]; exact TMX.skip (hT5.of (show cF 100 Ia5 = cF 100 Ia5 from by rw [show Ia5 = Ia5 from rfl])) (fun k hk hk2 h0 hf => by have z1 := hf.1; rw [hm8] at hk2; omega) h8n) (by omega) hM hS (lv_sub hl [0, 2, 3, 4, 5] rfl)
        · have hc5 := c5
          have q5 := xr3.t hc5
          refine lv_iload_n hx hb dX2_turnMirrors_32 rfl (lv_at hl 2 rfl) ?_
          refine lv_iload hx hb dX2_turnMirrors_33 (lv_at hl 0 rfl) ?_
          refine lv_ishr hx hb dX2_turnMirrors_35 ?_
          refine lv_topi (fun v7 ev7 => ?_)
          refine lv_iconst (v := (1)) hx hb dX2_turnMirrors_36 (by decide) ?_
          refine lv_iand hx hb dX2_turnMirrors_37 ?_
          refine lv_topi (fun v8 ev8 => ?_)
          have tv8 := a_and (c := 1) ev8 (by decide) (by decide)
          refine lv_if_ne (tgt := 96) hx hb dX2_turnMirrors_38 (by decide) (fun c9 => ?_) (fun c9 => ?_)
          · have hc9 := c9
            have q9 := q_ne hc9
            obtain ⟨v10, ev10⟩ : ∃ z : Int32, z = x4_5 + Int32.ofInt (1) := ⟨_, rfl⟩
            have tv10 := a_inc ev10 (by decide) (by omega) (by omega)
            refine lv_iinc (v := v10) (lv' := [(4, .int (v10)), (5, .int (Ia5 (w + 2) (x4_5).toNatClampNeg)), (3, .int (x3_5)), (0, .ref (ad (20))), (1, .ref (ad (100))), (2, .ref (ad (w)))]) hx hb dX2_turnMirrors_96 hl (k := 1) rfl ev10.symm (by decide) rfl (fun ls hl => ?_)
            refine lv_goto (tgt := 5) hx hb dX2_turnMirrors_99 (by decide) ?_
            exact ih5 (v10) (x3_5) Ia5 La5 _ _ ls hI hK (by first | omega | decide) (by have z5 := congrArg Int32.toInt (congrFun (hLc 0 (by decide)) 5); have z6 : (Ia5 w 5).toInt = (I w 5).toInt := z5; omega) (by rw [show (v10).toNatClampNeg = (x4_5).toNatClampNeg + 1 from by have z := tn (i := v10) (by omega); have z2 := tn (i := x4_5) (by omega); omega]; exact TMX.skip (hT5.of (show cF 100 Ia5 = cF 100 Ia5 from by rw [show Ia5 = Ia5 from rfl])) (fun k hk hk2 h0 hf => by have z1 : k = (Ia5 (w + 2) (x4_5).toNatClampNeg).toNatClampNeg := hf.1.symm.trans hmL.symm; have z0 : v8 = 1 := Int32.toInt_inj.mp (by rw [show (1 : Int32).toInt = 1 from by decide]; omega); have z3 := z0; rw [ev8, ev7] at z3; have z2 : bitA x3_5 k := (by rw [z1]; exact (bit_t (s := x3_5) (m := Ia5 (w + 2) (x4_5).toNatClampNeg) (by omega) (by omega)).mp z3); exact ((hT5.2 k hk).mp z2).2 h0) h8n) (by omega) hM hS (lv_sub hl [0, 2, 3, 4, 5] rfl)
          · have hc9 := c9
            have q9 := q_eq hc9
            have hbit : ¬ bitA x3_5 (Ia5 (w + 2) (x4_5).toNatClampNeg).toNatClampNeg := fun zb => by have z1 := (bit_t (s := x3_5) (m := Ia5 (w + 2) (x4_5).toNatClampNeg) (by omega) (by omega)).mpr zb; have z2 := congrArg Int32.toInt z1; rw [show (1 : Int32).toInt = 1 from by decide] at z2; have z3 : v8 = _ := ev8; rw [ev7] at z3; rw [← z3] at z2; omega
            have hnone := hT5.bit hm24 hbit (by rw [hm8]; omega)
            have hHE := hT5.he hnone hm24 (by omega) (by omega) (hK.get 20 3 rfl) (hK.getA 21 rfl) hOKm
            have hHF := HOLD.fir hlx hLc hmL hHE
            refine lv_aload_n hx hb dX2_turnMirrors_41 rfl (lv_at hl 3 rfl) ?_
            refine lv_aload_n hx hb dX2_turnMirrors_42 rfl (lv_at hl 4 rfl) ?_
            refine lv_aload_n hx hb dX2_turnMirrors_43 rfl (lv_at hl 5 rfl) ?_
            refine lv_iload hx hb dX2_turnMirrors_44 (lv_at hl 1 rfl) ?_
            refine m_calli (m_runV (20) (As := [.ref (ad (100)), .ref (ad (w)), .int (x4_5)]) (rest := []) hx hb hml hown hts hE hM hS hA ce_X2_holds tb_754 (V_X2_holds_100_v l D A ad ns Ia5 La5 G (w) (x4_5) hG hI hW hlx (by first | omega | decide)) rfl rfl ⟨Nat.le_of_ble_eq_true rfl, Nat.le_of_ble_eq_true rfl⟩ (hG.1 20 (by decide)) rfl rfl (by decide) rfl hl.1 rfl (Nat.le_of_ble_eq_true rfl) dX2_turnMirrors_46 ⟨Nat.le_of_ble_eq_true rfl, Nat.le_of_ble_eq_true rfl⟩) hS (fun r11 u H locs hw hM hS => ?_)
            obtain ⟨I12, L13, rfl, hI, hkI12, xr11⟩ := hw
            have hM : Mem D A ad ns I12 L13 G H := hM
            have hK := hK.trans hkI12 rfl
            have yr11 := bo01 xr11
            refine lv_if_eq (tgt := 96) hx hb dX2_turnMirrors_49 (by decide) (fun c14 => ?_) (fun c14 => ?_)
            · have hc14 := c14
              have q14 := xr11.f hc14
              obtain ⟨v15, ev15⟩ : ∃ z : Int32, z = x4_5 + Int32.ofInt (1) := ⟨_, rfl⟩
              have tv15 := a_inc ev15 (by decide) (by omega) (by omega)
              refine lv_iinc (v := v15) (lv' := [(4, .int (v15)), (5, .int (Ia5 (w + 2) (x4_5).toNatClampNeg)), (3, .int (x3_5)), (0, .ref (ad (20))), (1, .ref (ad (100))), (2, .ref (ad (w)))]) hx hb dX2_turnMirrors_96 hl (k := 1) rfl ev15.symm (by decide) rfl (fun ls hl => ?_)
              refine lv_goto (tgt := 5) hx hb dX2_turnMirrors_99 (by decide) ?_
              exact ih5 (v15) (x3_5) I12 L13 _ _ ls hI hK (by first | omega | decide) (by have z5 := congrArg Int32.toInt (congrFun (hLc 0 (by decide)) 5); have z6 : (Ia5 w 5).toInt = (I w 5).toInt := z5; omega) (by rw [show (v15).toNatClampNeg = (x4_5).toNatClampNeg + 1 from by have z := tn (i := v15) (by omega); have z2 := tn (i := x4_5) (by omega); omega]; exact TMX.skip (hT5.of (show cF 100 I12 = cF 100 Ia5 from by rw [show I12 = Ia5 from ((funext fun n => funext fun k => hkI12 n k rfl rfl : I12 = _).trans rfl)])) (fun k hk hk2 h0 hf => by have z1 : k = (Ia5 (w + 2) (x4_5).toNatClampNeg).toNatClampNeg := hf.1.symm.trans hmL.symm; rw [z1] at hf; exact q14 (hHF.1.mpr hf)) h8n) (by omega) hM hS (lv_sub hl [0, 2, 3, 4, 5] rfl)
            · have hc14 := c14
              have q14 := xr11.t hc14
              refine lv_aload_n hx hb dX2_turnMirrors_52 rfl (lv_at hl 3 rfl) ?_
              refine lv_aload_n hx hb dX2_turnMirrors_53 rfl (lv_at hl 4 rfl) ?_
              refine lv_aload_n hx hb dX2_turnMirrors_54 rfl (lv_at hl 5 rfl) ?_
              refine lv_aload_n hx hb dX2_turnMirrors_55 rfl (lv_at hl 5 rfl) ?_
              refine m_getr (w) 2 (w + 3) hx hb hts hown hE oc3 hM hW.l (kW _ hW.1).1 (by decide) rfl (hW.2.2 2 (by decide)) (by have := lbw hW.1; omega) tb_374 dX2_turnMirrors_56 ?_
              refine lv_iload hx hb dX2_turnMirrors_59 (lv_at hl 1 rfl) ?_
              refine m_iald (w + 3) hx hb hE hM (hW.2.1 3 (by decide)) (kW _ hW.1).2.2.2.1 (vp_in_iff.mpr (by omega)) dX2_turnMirrors_61 ?_
              have g16 := hI.get (w + 3) ((x4_5).toNatClampNeg) (lo := 0) (hi := 400) (rgw3 hW.1 _)
              have z17 : I12 (w + 3) (x4_5).toNatClampNeg = Ia5 (w + 3) ((x4_5).toNatClampNeg) := (hkI12.getW (w + 3) ((x4_5).toNatClampNeg) (by decide) (by decide) (by have := lbw hW.1; omega))
              rw [z17] at g16 ⊢
              refine lv_aload_n hx hb dX2_turnMirrors_62 rfl (lv_at hl 5 rfl) ?_
              refine m_getr (w) 3 (w + 4) hx hb hts hown hE oc3 hM hW.l (kW _ hW.1).1 (by decide) rfl (hW.2.2 3 (by decide)) (by have := lbw hW.1; omega) tb_376 dX2_turnMirrors_63 ?_
              refine lv_iload hx hb dX2_turnMirrors_66 (lv_at hl 1 rfl) ?_
              refine m_iald (w + 4) hx hb hE hM (hW.2.1 4 (by decide)) (kW _ hW.1).2.2.2.2.1 (vp_in_iff.mpr (by omega)) dX2_turnMirrors_68 ?_
              have g18 := hI.get (w + 4) ((x4_5).toNatClampNeg) (lo := 0) (hi := 400) (rgw4 hW.1 _)
              have z19 : I12 (w + 4) (x4_5).toNatClampNeg = Ia5 (w + 4) ((x4_5).toNatClampNeg) := (hkI12.getW (w + 4) ((x4_5).toNatClampNeg) (by decide) (by decide) (by have := lbw hW.1; omega))
              rw [z19] at g18 ⊢
              refine lv_iload hx hb dX2_turnMirrors_69 (lv_at hl 0 rfl) ?_
              refine m_calll (m_runV (20) (As := [.ref (ad (100)), .ref (ad (w)), .int (Ia5 (w + 3) ((x4_5).toNatClampNeg)), .int (Ia5 (w + 4) ((x4_5).toNatClampNeg)), .int (Ia5 (w + 2) (x4_5).toNatClampNeg)]) (rest := []) hx hb hml hown hts hE hM hS hA ce_X2_valueOf tb_758 (V_X2_valueOf_100_v l D A ad ns I12 L13 G false (w) (Ia5 (w + 3) ((x4_5).toNatClampNeg)) (Ia5 (w + 4) ((x4_5).toNatClampNeg)) (Ia5 (w + 2) (x4_5).toNatClampNeg) hG hI hW (by omega) (by rw [((funext fun n => funext fun k => hkI12 n k rfl rfl : I12 = _).trans rfl)]; exact hlx.2.2.1.1) (by rw [((funext fun n => funext fun k => hkI12 n k rfl rfl : I12 = _).trans rfl)]; exact hlx.2.2.1.2) (by first | omega | decide) (by first | omega | decide) (by first | omega | decide)) rfl rfl ⟨Nat.le_of_ble_eq_true rfl, Nat.le_of_ble_eq_true rfl⟩ (hG.1 20 (by decide)) rfl rfl (by decide) rfl hl.1 rfl (Nat.le_of_ble_eq_true rfl) dX2_turnMirrors_71 ⟨Nat.le_of_ble_eq_true rfl, Nat.le_of_ble_eq_true rfl⟩) hS (fun r20 u H locs hw hM hS => ?_)
              obtain ⟨I21, L22, rfl, hI, hkI21, xr20⟩ := hw
              have hM : Mem D A ad ns I21 L22 G H := hM
              have hK := hK.trans hkI21 rfl
              have xs := xr20
              rw [show I12 = Ia5 from ((funext fun n => funext fun k => hkI12 n k rfl rfl : I12 = _).trans rfl)] at xs
              have hsv : r20 = vsV (cF 100 I) (I 20 3) (I 21) (lawC w I) (Ia5 (w + 2) (x4_5).toNatClampNeg).toNatClampNeg (x4_5).toNatClampNeg := hHF.2 _ xs
              refine lv_lstore (lv' := [(6, .long (r20)), (5, .int (Ia5 (w + 2) (x4_5).toNatClampNeg)), (4, .int (x4_5)), (3, .int (x3_5)), (0, .ref (ad (20))), (1, .ref (ad (100))), (2, .ref (ad (w)))]) hx hb dX2_turnMirrors_74 hl (by decide) rfl (fun ls hl => ?_)
              refine lv_aload_n hx hb dX2_turnMirrors_76 rfl (lv_at hl 5 rfl) ?_
              refine lv_iload hx hb dX2_turnMirrors_77 (lv_at hl 1 rfl) ?_
              refine lv_lload hx hb dX2_turnMirrors_79 (lv_at hl 0 rfl) ?_
              refine lv_ldc2 (v := (7)) hx hb hown (hts _ tb_787) dX2_turnMirrors_81 ?_
              refine lv_land hx hb dX2_turnMirrors_84 ?_
              refine lv_topl (fun v23 ev23 => ?_)
              refine lv_l2i hx hb dX2_turnMirrors_85 rfl ?_
              refine lv_topi (fun v24 ev24 => ?_)
              have h7 := i7 r20
              have hto7 : 0 ≤ (v24).toInt ∧ (v24).toInt ≤ 7 := by rw [ev24, ev23]; exact h7.2
              have hto : (v24).toInt = (vsV (cF 100 I) (I 20 3) (I 21) (lawC w I) (Ia5 (w + 2) (x4_5).toNatClampNeg).toNatClampNeg (x4_5).toNatClampNeg &&& 7).toInt := by rw [ev24, ev23, ← h7.1, hsv]
              refine m_callv (m_runV (100) (As := [.int (Ia5 (w + 2) (x4_5).toNatClampNeg), .int (v24)]) (rest := []) hx hb hml hown hts hE hM hS hA ce_X8_turnTowards tb_788 (V_X8_turnTowards_100_v l D A ad ns I21 L22 G (Ia5 (w + 2) (x4_5).toNatClampNeg) (v24) hG hI (by rw [((funext fun n => funext fun k => hkI21 n k rfl rfl : I21 = _).trans ((funext fun n => funext fun k => hkI12 n k rfl rfl : I12 = _).trans rfl))]; exact (hRa.2.2.2.1 (Ia5 (w + 2) (x4_5).toNatClampNeg).toNatClampNeg hm24).1) (by rw [((funext fun n => funext fun k => hkI21 n k rfl rfl : I21 = _).trans ((funext fun n => funext fun k => hkI12 n k rfl rfl : I12 = _).trans rfl))]; exact (hRa.2.2.2.1 (Ia5 (w + 2) (x4_5).toNatClampNeg).toNatClampNeg hm24).2.2.2.1) (by first | omega | decide) (by first | omega | decide)) rfl rfl ⟨Nat.le_of_ble_eq_true rfl, Nat.le_of_ble_eq_true rfl⟩ (hG.1 100 (by decide)) rfl rfl (by decide) rfl hl.1 rfl (Nat.le_of_ble_eq_true rfl) dX2_turnMirrors_86 ⟨Nat.le_of_ble_eq_true rfl, Nat.le_of_ble_eq_true rfl⟩) hS (fun u H locs hw hM hS => ?_)
              obtain ⟨I25, L26, rfl, hI, hkI25, xI25⟩ := hw
              have hM : Mem D A ad ns I25 L26 G H := hM
              have hK := hK.trans hkI25 rfl
              have xt := xI25
              rw [show I21 = Ia5 from ((funext fun n => funext fun k => hkI21 n k rfl rfl : I21 = _).trans ((funext fun n => funext fun k => hkI12 n k rfl rfl : I12 = _).trans rfl))] at xt
              refine lv_iload_n hx hb dX2_turnMirrors_89 rfl (lv_at hl 3 rfl) ?_
              refine lv_iconst (v := (1)) hx hb dX2_turnMirrors_90 (by decide) ?_
              refine lv_iload hx hb dX2_turnMirrors_91 (lv_at hl 1 rfl) ?_
              refine lv_ishl hx hb dX2_turnMirrors_93 ?_
              refine lv_topi (fun v27 ev27 => ?_)
              refine lv_ior hx hb dX2_turnMirrors_94 ?_
              refine lv_topi (fun v28 ev28 => ?_)
              refine lv_istore_n (lv' := [(3, .int (v28)), (6, .long (r20)), (5, .int (Ia5 (w + 2) (x4_5).toNatClampNeg)), (4, .int (x4_5)), (0, .ref (ad (20))), (1, .ref (ad (100))), (2, .ref (ad (w)))]) hx hb dX2_turnMirrors_95 rfl hl (by decide) rfl (fun ls hl => ?_)
              obtain ⟨v29, ev29⟩ : ∃ z : Int32, z = x4_5 + Int32.ofInt (1) := ⟨_, rfl⟩
              have tv29 := a_inc ev29 (by decide) (by omega) (by omega)
              refine lv_iinc (v := v29) (lv' := [(4, .int (v29)), (3, .int (v28)), (6, .long (r20)), (5, .int (Ia5 (w + 2) (x4_5).toNatClampNeg)), (0, .ref (ad (20))), (1, .ref (ad (100))), (2, .ref (ad (w)))]) hx hb dX2_turnMirrors_96 hl (k := 3) rfl ev29.symm (by decide) rfl (fun ls hl => ?_)
              refine lv_goto (tgt := 5) hx hb dX2_turnMirrors_99 (by decide) ?_
              exact ih5 (v29) (v28) I25 L26 _ _ ls hI hK (by first | omega | decide) (by have z5 := congrArg Int32.toInt (congrFun (hLc 0 (by decide)) 5); have z6 : (Ia5 w 5).toInt = (I w 5).toInt := z5; omega) (by rw [show (v29).toNatClampNeg = (x4_5).toNatClampNeg + 1 from by have z := tn (i := v29) (by omega); have z2 := tn (i := x4_5) (by omega); omega]; exact TMX.turn hT5 (by rw [hm8]; omega) hm24 hnone (hHF.1.mp q14) hto xt ⟨rfl, by omega, by omega⟩ (by rw [ev28, ev27])) (by omega) hM hS (lv_sub hl [0, 1, 4, 5, 6] rfl)
  exact loop5 (_ + 1) (0) (0) I L _ _ ls hI hK (by first | omega | decide) (by omega) (TMX.z EqV.rf) (Nat.lt_succ_self _) hM hS (lv_sub hl [0, 1, 2, 3, 4] rfl)
set_option maxHeartbeats 4000000 in
set_option maxRecDepth 20000 in
theorem V_X8_endDay_100_y (l : Launch) (D : va_G) (A : Nat → Prop) (ad : Nat → Nat) (ns : List Nat) (I : MI) (L : ML) (G : MG) (hG : SGC ns G) (hI : INV I) : Met l yX8_endDay (wd yX8_endDay cX8_endDay 3 none) ({ frames := 1, cells := 0, slots := 0, locals := 23 }) (va_Pc [.ref (ad (100)), .ref (ad (21))] (PM D A ad ns I L G)) (va_Qv (fun u => ∃ I2 L2, u = (ad, ns, I2, L2, G) ∧ INV I2 ∧ Kp [(107, 109)] [(100, 6)] I I2 ∧ (EqV (edS ((cF 100 I), I 21)) (cF 100 I2))) (BM D A) A) 0 0 A := by
  refine m_ofW (by decide) (Nat.le_of_ble_eq_true rfl) ?_
  intro p e s m below meth c ls args hC hE hM hA hS hl
  obtain ⟨hx, hb, hml, hown, hts, hr, hlocks, hin⟩ := hC
  have k0 : (0 : Int32).toInt = 0 := by decide
  have k1 : (1 : Int32).toInt = 1 := by decide
  have k7 : (7 : Int32).toInt = 7 := by decide
  have k1000 : (1000 : Int32).toInt = 1000 := by decide
  have hK : Kp [(107, 109)] [(100, 6)] I I := Kp.rf
  have hl : lv_has ls 3 [(0, .ref (ad (100))), (1, .ref (ad (21)))] := hl
  refine lv_iconst (v := (0)) hx hb dX8_endDay_0 (by decide) ?_
  refine lv_istore_n (lv' := [(2, .int (0)), (0, .ref (ad (100))), (1, .ref (ad (21)))]) hx hb dX8_endDay_1 rfl hl (by decide) rfl (fun ls hl => ?_)
  have loop2 : ∀ (n : Nat) (x2_2 : Int32) (Ia2 : MI) (La2 : ML) (H : Heap) (locs : List Loc) (ls : Array Slot), INV Ia2 → Kp [(107, 109)] [(100, 6)] I Ia2 → (0 ≤ x2_2.toInt ∧ x2_2.toInt ≤ 24) → (EqV (e14 (cF 100 I) (x2_2).toNatClampNeg) (cF 100 Ia2)) → ((x2_2).toInt ≤ (Ia2 100 8).toInt) → (Ia2 100 6 = I 100 6) → (24 - x2_2.toInt).toNat < n → Mem D A ad ns Ia2 La2 G H → va_S A s.heap H locs → lv_has ls 3 [(2, .int (x2_2)), (0, .ref (ad (100))), (1, .ref (ad (21)))] → W p l e ({ frames := 1, cells := 0, slots := 0, locals := 23 } : Room) s m args below meth c H locs 0 0 (MQ below (va_Qv (fun u => ∃ I2 L2, u = (ad, ns, I2, L2, G) ∧ INV I2 ∧ Kp [(107, 109)] [(100, 6)] I I2 ∧ (EqV (edS ((cF 100 I), I 21)) (cF 100 I2))) (BM D A) A) args s 0 0 A) (F0 m 2 ls []) := by
    intro n
    induction n with
    | zero =>
      intro x2_2 Ia2 La2 H locs ls hI hK hr2_2 hv2 hle2 h62 hmu
      exact absurd hmu (Nat.not_lt_zero _)
    | succ n ih2 =>
      intro x2_2 Ia2 La2 H locs ls hI hK hr2_2 hv2 hle2 h62 hmu2 hM hS hl
      have hK2 := hK
      have h82 : Ia2 100 8 = I 100 8 := hK.get 100 8 rfl
      have g82 := hI.get 100 8 (lo := 0) (hi := 24) rfl
      refine lv_iload_n hx hb dX8_endDay_2 rfl (lv_at hl 0 rfl) ?_
      refine lv_aload_n hx hb dX8_endDay_3 rfl (lv_at hl 1 rfl) ?_
      refine m_geti (100) 8 hx hb hts hown hE oc8 hM (hG.1 100 (by decide)) rfl (by decide) rfl tb_59 dX8_endDay_4 ?_
      have g1 := hI.get (100) 8 (lo := 0) (hi := 24) rfl
      refine lv_icmp_ge (tgt := 41) hx hb dX8_endDay_7 (by decide) (fun c2 => ?_) (fun c2 => ?_)
      · have hc2 := c2
        have q2 := q_le hc2
        refine lv_iconst (v := (0)) hx hb dX8_endDay_41 (by decide) ?_
        refine lv_istore_n (lv' := [(2, .int (0)), (0, .ref (ad (100))), (1, .ref (ad (21)))]) hx hb dX8_endDay_42 rfl hl (by decide) rfl (fun ls hl => ?_)
        have loop43 : ∀ (n : Nat) (x2_43 : Int32) (Ia43 : MI) (La43 : ML) (H : Heap) (locs : List Loc) (ls : Array Slot), INV Ia43 → Kp [(107, 109)] [(100, 6)] I Ia43 → (0 ≤ x2_43.toInt ∧ x2_43.toInt ≤ 8) → (EqV (e23 (e14 (cF 100 I) (x2_2).toNatClampNeg) (I 21) (x2_43).toNatClampNeg) (cF 100 Ia43)) → ((x2_43).toInt ≤ (Ia43 100 9).toInt) → (Ia43 100 6 = I 100 6) → (8 - x2_43.toInt).toNat < n → Mem D A ad ns Ia43 La43 G H → va_S A s.heap H locs → lv_has ls 3 [(2, .int (x2_43)), (0, .ref (ad (100))), (1, .ref (ad (21)))] → W p l e ({ frames := 1, cells := 0, slots := 0, locals := 23 } : Room) s m args below meth c H locs 0 0 (MQ below (va_Qv (fun u => ∃ I2 L2, u = (ad, ns, I2, L2, G) ∧ INV I2 ∧ Kp [(107, 109)] [(100, 6)] I I2 ∧ (EqV (edS ((cF 100 I), I 21)) (cF 100 I2))) (BM D A) A) args s 0 0 A) (F0 m 43 ls []) := by
          intro n
          induction n with
          | zero =>
            intro x2_43 Ia43 La43 H locs ls hI hK hr2_43 hv43 hle43 h643 hmu
            exact absurd hmu (Nat.not_lt_zero _)
          | succ n ih43 =>
            intro x2_43 Ia43 La43 H locs ls hI hK hr2_43 hv43 hle43 h643 hmu43 hM hS hl
            have hK43 := hK
            have h2143 : Ia43 21 = I 21 := hK.getA 21 rfl
            have g943 := hI.get 100 9 (lo := 0) (hi := 8) rfl
            refine lv_iload_n hx hb dX8_endDay_43 rfl (lv_at hl 0 rfl) ?_
            refine lv_aload_n hx hb dX8_endDay_44 rfl (lv_at hl 1 rfl) ?_
            refine m_geti (100) 9 hx hb hts hown hE oc8 hM (hG.1 100 (by decide)) rfl (by decide) rfl tb_63 dX8_endDay_45 ?_
            have g3 := hI.get (100) 9 (lo := 0) (hi := 8) rfl
            refine lv_icmp_ge (tgt := 66) hx hb dX8_endDay_48 (by decide) (fun c4 => ?_) (fun c4 => ?_)
            · have hc4 := c4
              have q4 := q_le hc4
              refine lv_aload_n hx hb dX8_endDay_66 rfl (lv_at hl 1 rfl) ?_
              refine lv_dup hx hb dX8_endDay_67 rfl ?_
              refine m_geti (100) 6 hx hb hts hown hE oc8 hM (hG.1 100 (by decide)) rfl (by decide) rfl tb_54 dX8_endDay_68 ?_
              refine lv_iconst (v := (1)) hx hb dX8_endDay_71 (by decide) ?_
              refine lv_iadd hx hb dX8_endDay_72 ?_
              refine lv_topi (fun v5 ev5 => ?_)
              refine m_puti (100) 6 hx hb hts hown hE oc8 hM hS (hG.1 100 (by decide)) rfl (by decide) rfl rfl rfl rfl tb_54 dX8_endDay_73 (fun H locs I6 eI6 hM hS => ?_)
              subst eI6
              have hI := hI.putF (n := 100) (k := 6) (v := v5) rfl
              have hK := hK.put (n := 100) (k := 6) (v := v5) (by first | rfl | simp [inR])
              have h8n : (x2_2).toNatClampNeg = ((cF 100 I) 1 8).toNatClampNeg := by show _ = (I 100 8).toNatClampNeg; rw [← h82]; exact congrArg Int32.toNatClampNeg (Int32.toInt_inj.mp (by omega))
              have h9n : (x2_43).toNatClampNeg = ((cF 100 I) 1 9).toNatClampNeg := by show _ = (I 100 9).toNatClampNeg; rw [← hK43.get 100 9 rfl]; exact congrArg Int32.toNatClampNeg (Int32.toInt_inj.mp (by omega))
              have h6n : v5 = (cF 100 I) 1 6 + 1 := by show _ = I 100 6 + 1; rw [← h643]; exact ev5
              exact m_vret hx hb hr hlocks hM hS (Nat.le_of_ble_eq_true rfl) (Nat.le_of_ble_eq_true rfl) ⟨_, _, rfl, hI, hK, (by have h1 := hv43.st (cF_sc (b := 100) (n := 6) (k := 6) (v := v5) (by decide)); rw [ed_fin h8n h9n h6n] at h1; exact h1)⟩ dX8_endDay_76
            · have hc4 := c4
              have q4 := q_nle hc4
              refine lv_aload_n hx hb dX8_endDay_51 rfl (lv_at hl 1 rfl) ?_
              refine lv_iload_n hx hb dX8_endDay_52 rfl (lv_at hl 0 rfl) ?_
              refine lv_iconst (v := (0)) hx hb dX8_endDay_53 (by decide) ?_
              refine lv_aload_n hx hb dX8_endDay_54 rfl (lv_at hl 2 rfl) ?_
              refine lv_iload_n hx hb dX8_endDay_55 rfl (lv_at hl 0 rfl) ?_
              refine m_iald (21) hx hb hE hM (hG.1 21 (by decide)) rfl (vp_in_iff.mpr (by omega)) dX8_endDay_56 ?_
              refine m_callv (m_runV (100) (As := [.int (x2_43), .int (0), .int (Ia43 (21) (x2_43).toNatClampNeg)]) (rest := []) hx hb hml hown hts hE hM hS hA ce_X8_setYard tb_529 (V_X8_setYard_100_t l D A ad ns Ia43 La43 G (x2_43) (0) (Ia43 (21) (x2_43).toNatClampNeg) hG hI (by first | omega | decide) (by first | omega | decide)) rfl rfl ⟨Nat.le_of_ble_eq_true rfl, Nat.le_of_ble_eq_true rfl⟩ (hG.1 100 (by decide)) rfl rfl (by decide) rfl hl.1 rfl (Nat.le_of_ble_eq_true rfl) dX8_endDay_57 ⟨Nat.le_of_ble_eq_true rfl, Nat.le_of_ble_eq_true rfl⟩) hS (fun u H locs hw hM hS => ?_)
              obtain ⟨I7, L8, rfl, hI, hkI7, xI7⟩ := hw
              have hM : Mem D A ad ns I7 L8 G H := hM
              have hK := hK.trans hkI7 rfl
              obtain ⟨v9, ev9⟩ : ∃ z : Int32, z = x2_43 + Int32.ofInt (1) := ⟨_, rfl⟩
              have tv9 := a_inc ev9 (by decide) (by omega) (by omega)
              refine lv_iinc (v := v9) (lv' := [(2, .int (v9)), (0, .ref (ad (100))), (1, .ref (ad (21)))]) hx hb dX8_endDay_60 hl (k := 0) rfl ev9.symm (by decide) rfl (fun ls hl => ?_)
              refine lv_goto (tgt := 43) hx hb dX8_endDay_63 (by decide) ?_
              exact ih43 (v9) I7 L8 _ _ ls hI hK (by first | omega | decide) (by rw [show (v9).toNatClampNeg = (x2_43).toNatClampNeg + 1 from (by have z1 := tn (i := v9) (by omega); have z2 := tn (i := x2_43) (by omega); omega)]; exact e23_step hv43 xI7 (by rw [h2143])) (by rw [(hkI7.get (100) 9 rfl)]; omega) (((hkI7.get (100) 6 rfl)).trans h643) (by omega) hM hS (lv_sub hl [0, 1, 2] rfl)
        exact loop43 (_ + 1) (0) Ia2 La2 _ _ ls hI hK (by first | omega | decide) (by rw [show (0 : Int32).toNatClampNeg = 0 from rfl, e23_0]; exact hv2) (by have := hI.get 100 9 (lo := 0) (hi := 8) rfl; omega) h62 (Nat.lt_succ_self _) hM hS (lv_sub hl [0, 1, 2] rfl)
      · have hc2 := c2
        have q2 := q_nle hc2
        refine lv_aload_n hx hb dX8_endDay_10 rfl (lv_at hl 1 rfl) ?_
        refine lv_iload_n hx hb dX8_endDay_11 rfl (lv_at hl 0 rfl) ?_
        refine lv_bipush (v := (7)) hx hb dX8_endDay_12 (by decide) ?_
        refine lv_aload_n hx hb dX8_endDay_14 rfl (lv_at hl 1 rfl) ?_
        refine lv_iload_n hx hb dX8_endDay_15 rfl (lv_at hl 0 rfl) ?_
        refine lv_bipush (v := (7)) hx hb dX8_endDay_16 (by decide) ?_
        refine m_calli (m_runV (100) (As := [.int (x2_2), .int (7)]) (rest := [.int (7), .int (x2_2), .ref (ad (100))]) hx hb hml hown hts hE hM hS hA ce_X8_ofMirror tb_792 (V_X8_ofMirror_100_l l D A ad ns Ia2 La2 G (x2_2) (7) hG hI (by first | omega | decide) (by first | omega | decide)) rfl rfl ⟨Nat.le_of_ble_eq_true rfl, Nat.le_of_ble_eq_true rfl⟩ (hG.1 100 (by decide)) rfl rfl (by decide) rfl hl.1 rfl (Nat.le_of_ble_eq_true rfl) dX8_endDay_18 ⟨Nat.le_of_ble_eq_true rfl, Nat.le_of_ble_eq_true rfl⟩) hS (fun r10 u H locs hw hM hS => ?_)
        obtain ⟨rfl, xr10⟩ := hw
        have hM : Mem D A ad ns Ia2 La2 G H := hM
        rw [show (7 : Int32).toNatClampNeg = 7 from rfl, show 24 * 7 = 168 from rfl] at xr10
        refine lv_aload_n hx hb dX8_endDay_21 rfl (lv_at hl 1 rfl) ?_
        refine m_geti (100) 7 hx hb hts hown hE oc8 hM (hG.1 100 (by decide)) rfl (by decide) rfl tb_57 dX8_endDay_22 ?_
        refine lv_iadd hx hb dX8_endDay_25 ?_
        refine lv_topi (fun v11 ev11 => ?_)
        refine lv_sipush (v := (1000)) hx hb dX8_endDay_26 (by decide) ?_
        refine va_mmin hx hb (hml.trans hl.1.symm) hown (hts _ tb_793) (hts _ tb_794) (hts _ tb_18) (hts _ tb_795) (Nat.le_of_ble_eq_true rfl) (Nat.le_of_ble_eq_true rfl) (Nat.le_of_ble_eq_true rfl) (Nat.le_of_ble_eq_true rfl) dX8_endDay_29 ?_
        refine lv_topi (fun v12 ev12 => ?_)
        have tv12 := a_min ev12
        refine m_callv (m_runV (100) (As := [.int (x2_2), .int (7), .int (v12)]) (rest := []) hx hb hml hown hts hE hM hS hA ce_X8_setMirror tb_499 (V_X8_setMirror_100_t l D A ad ns Ia2 La2 G (x2_2) (7) (v12) hG hI (by first | omega | decide) (by first | omega | decide)) rfl rfl ⟨Nat.le_of_ble_eq_true rfl, Nat.le_of_ble_eq_true rfl⟩ (hG.1 100 (by decide)) rfl rfl (by decide) rfl hl.1 rfl (Nat.le_of_ble_eq_true rfl) dX8_endDay_32 ⟨Nat.le_of_ble_eq_true rfl, Nat.le_of_ble_eq_true rfl⟩) hS (fun u H locs hw hM hS => ?_)
        obtain ⟨I13, L14, rfl, hI, hkI13, xI13⟩ := hw
        have hM : Mem D A ad ns I13 L14 G H := hM
        have hK := hK.trans hkI13 rfl
        obtain ⟨v15, ev15⟩ : ∃ z : Int32, z = x2_2 + Int32.ofInt (1) := ⟨_, rfl⟩
        have tv15 := a_inc ev15 (by decide) (by omega) (by omega)
        refine lv_iinc (v := v15) (lv' := [(2, .int (v15)), (0, .ref (ad (100))), (1, .ref (ad (21)))]) hx hb dX8_endDay_35 hl (k := 0) rfl ev15.symm (by decide) rfl (fun ls hl => ?_)
        refine lv_goto (tgt := 2) hx hb dX8_endDay_38 (by decide) ?_
        exact ih2 (v15) I13 L14 _ _ ls hI hK (by first | omega | decide) (by rw [show (v15).toNatClampNeg = (x2_2).toNatClampNeg + 1 from (by have z1 := tn (i := v15) (by omega); have z2 := tn (i := x2_2) (by omega); omega)]; exact e14_step hv2 xI13 (by rw [show (cF 100 I) 14 (x2_2).toNatClampNeg = r10 from ((xr10.trans (hv2 14 (x2_2).toNatClampNeg (by decide) (by decide) (show (x2_2).toNatClampNeg < 24 by have z := tn (i := x2_2) (by omega); omega))).trans e14_at).symm, show (cF 100 I) 1 7 = Ia2 100 7 from (hK2.get 100 7 rfl).symm]; unfold dst; rw [← ev11, ev12]; by_cases hq : 1000 < v11; (rw [if_pos hq, if_pos (by have hz := q_lt hq; rw [show (1000 : Int32).toInt = 1000 from by decide] at hz; exact hz)]); (rw [if_neg hq, if_neg (fun z => hq (Int32.lt_iff_toInt_lt.mpr (by rw [show (1000 : Int32).toInt = 1000 from by decide]; exact z)))]))) (by rw [(hkI13.get (100) 8 rfl)]; omega) (((hkI13.get (100) 6 rfl)).trans h62) (by omega) hM hS (lv_sub hl [0, 1, 2] rfl)
  exact loop2 (_ + 1) (0) I L _ _ ls hI hK (by first | omega | decide) (by rw [show (0 : Int32).toNatClampNeg = 0 from rfl, e14_0]; exact EqV.rf) (by have := hI.get 100 8 (lo := 0) (hi := 24) rfl; omega) rfl (Nat.lt_succ_self _) hM hS (lv_sub hl [0, 1, 2] rfl)
set_option maxHeartbeats 4000000 in
set_option maxRecDepth 20000 in
theorem V_X8_metCount_100_y (l : Launch) (D : va_G) (A : Nat → Prop) (ad : Nat → Nat) (ns : List Nat) (I : MI) (L : ML) (G : MG) (hG : SGC ns G) (hI : INV I) : Met l yX8_metCount (wd yX8_metCount cX8_metCount 3 (some .int)) ({ frames := 1, cells := 0, slots := 0, locals := 22 }) (va_Pc [.ref (ad (100))] (PM D A ad ns I L G)) (va_Qi (fun r u => u = (ad, ns, I, L, G) ∧ (r = metV (cF 100 I))) (BM D A) A) 0 0 A := by
  refine m_ofW (by decide) (Nat.le_of_ble_eq_true rfl) ?_
  intro p e s m below meth c ls args hC hE hM hA hS hl
  obtain ⟨hx, hb, hml, hown, hts, hr, hlocks, hin⟩ := hC
  have k0 : (0 : Int32).toInt = 0 := by decide
  have k1 : (1 : Int32).toInt = 1 := by decide
  have hl : lv_has ls 3 [(0, .ref (ad (100)))] := hl
  refine lv_iconst (v := (0)) hx hb dX8_metCount_0 (by decide) ?_
  refine lv_istore_n (lv' := [(1, .int (0)), (0, .ref (ad (100)))]) hx hb dX8_metCount_1 rfl hl (by decide) rfl (fun ls hl => ?_)
  refine lv_iconst (v := (0)) hx hb dX8_metCount_2 (by decide) ?_
  refine lv_istore_n (lv' := [(2, .int (0)), (1, .int (0)), (0, .ref (ad (100)))]) hx hb dX8_metCount_3 rfl hl (by decide) rfl (fun ls hl => ?_)
  have loop4 : ∀ (n : Nat) (x2_4 : Int32) (x1_4 : Int32) (H : Heap) (locs : List Loc) (ls : Array Slot), (0 ≤ x2_4.toInt ∧ x2_4.toInt ≤ 8) → ((x2_4).toInt ≤ (I 100 9).toInt) → (x1_4 = metN (cF 100 I) (x2_4).toNatClampNeg) → (8 - x2_4.toInt).toNat < n → Mem D A ad ns I L G H → va_S A s.heap H locs → lv_has ls 3 [(2, .int (x2_4)), (1, .int (x1_4)), (0, .ref (ad (100)))] → W p l e ({ frames := 1, cells := 0, slots := 0, locals := 22 } : Room) s m args below meth c H locs 0 0 (MQ below (va_Qi (fun r u => u = (ad, ns, I, L, G) ∧ (r = metV (cF 100 I))) (BM D A) A) args s 0 0 A) (F0 m 4 ls []) := by
    intro n
    induction n with
    | zero =>
      intro x2_4 x1_4 H locs ls hr2_4 hle4 hs4 hmu
      exact absurd hmu (Nat.not_lt_zero _)
    | succ n ih4 =>
      intro x2_4 x1_4 H locs ls hr2_4 hle4 hs4 hmu4 hM hS hl
      refine lv_iload_n hx hb dX8_metCount_4 rfl (lv_at hl 0 rfl) ?_
      refine lv_aload_n hx hb dX8_metCount_5 rfl (lv_at hl 2 rfl) ?_
      refine m_geti (100) 9 hx hb hts hown hE oc8 hM (hG.1 100 (by decide)) rfl (by decide) rfl tb_63 dX8_metCount_6 ?_
      have g1 := hI.get (100) 9 (lo := 0) (hi := 8) rfl
      refine lv_icmp_ge (tgt := 36) hx hb dX8_metCount_9 (by decide) (fun c2 => ?_) (fun c2 => ?_)
      · have hc2 := c2
        have q2 := q_le hc2
        refine lv_iload_n hx hb dX8_metCount_36 rfl (lv_at hl 1 rfl) ?_
        exact m_iret hx hb hr hlocks hM hS (Nat.le_of_ble_eq_true rfl) (Nat.le_of_ble_eq_true rfl) ⟨rfl, (by rw [hs4]; unfold metV; rw [show (x2_4).toNatClampNeg = (cF 100 I 1 9).toNatClampNeg from congrArg Int32.toNatClampNeg (Int32.toInt_inj.mp (show (x2_4).toInt = (I 100 9).toInt by omega))])⟩ dX8_metCount_37
      · have hc2 := c2
        have q2 := q_nle hc2
        refine lv_aload_n hx hb dX8_metCount_12 rfl (lv_at hl 2 rfl) ?_
        refine lv_iload_n hx hb dX8_metCount_13 rfl (lv_at hl 0 rfl) ?_
        refine lv_iconst (v := (0)) hx hb dX8_metCount_14 (by decide) ?_
        refine m_calli (m_runV (100) (As := [.int (x2_4), .int (0)]) (rest := []) hx hb hml hown hts hE hM hS hA ce_X8_ofYard tb_884 (V_X8_ofYard_100_l l D A ad ns I L G (x2_4) (0) hG hI (by first | omega | decide) (by first | omega | decide)) rfl rfl ⟨Nat.le_of_ble_eq_true rfl, Nat.le_of_ble_eq_true rfl⟩ (hG.1 100 (by decide)) rfl rfl (by decide) rfl hl.1 rfl (Nat.le_of_ble_eq_true rfl) dX8_metCount_15 ⟨Nat.le_of_ble_eq_true rfl, Nat.le_of_ble_eq_true rfl⟩) hS (fun r3 u H locs hw hM hS => ?_)
        obtain ⟨rfl, xr3⟩ := hw
        have hM : Mem D A ad ns I L G H := hM
        rw [show (0 : Int32).toNatClampNeg = 0 from rfl, show 8 * 0 = 0 from rfl] at xr3
        refine lv_aload_n hx hb dX8_metCount_18 rfl (lv_at hl 2 rfl) ?_
        refine lv_iload_n hx hb dX8_metCount_19 rfl (lv_at hl 0 rfl) ?_
        refine lv_iconst (v := (1)) hx hb dX8_metCount_20 (by decide) ?_
        refine m_calli (m_runV (100) (As := [.int (x2_4), .int (1)]) (rest := [.int (r3)]) hx hb hml hown hts hE hM hS hA ce_X8_ofYard tb_884 (V_X8_ofYard_100_l l D A ad ns I L G (x2_4) (1) hG hI (by first | omega | decide) (by first | omega | decide)) rfl rfl ⟨Nat.le_of_ble_eq_true rfl, Nat.le_of_ble_eq_true rfl⟩ (hG.1 100 (by decide)) rfl rfl (by decide) rfl hl.1 rfl (Nat.le_of_ble_eq_true rfl) dX8_metCount_21 ⟨Nat.le_of_ble_eq_true rfl, Nat.le_of_ble_eq_true rfl⟩) hS (fun r4 u H locs hw hM hS => ?_)
        obtain ⟨rfl, xr4⟩ := hw
        have hM : Mem D A ad ns I L G H := hM
        rw [show (1 : Int32).toNatClampNeg = 1 from rfl, show 8 * 1 = 8 from rfl] at xr4
        refine lv_icmp_lt (tgt := 30) hx hb dX8_metCount_24 (by decide) (fun c5 => ?_) (fun c5 => ?_)
        · have hc5 := c5
          have q5 := q_lt hc5
          obtain ⟨v6, ev6⟩ : ∃ z : Int32, z = x2_4 + Int32.ofInt (1) := ⟨_, rfl⟩
          have tv6 := a_inc ev6 (by decide) (by omega) (by omega)
          refine lv_iinc (v := v6) (lv' := [(2, .int (v6)), (1, .int (x1_4)), (0, .ref (ad (100)))]) hx hb dX8_metCount_30 hl (k := 0) rfl ev6.symm (by decide) rfl (fun ls hl => ?_)
          refine lv_goto (tgt := 4) hx hb dX8_metCount_33 (by decide) ?_
          exact ih4 (v6) (x1_4) _ _ ls (by first | omega | decide) (by have := hI.get 100 9 (lo := 0) (hi := 8) rfl; omega) (by have y1 : (cF 100 I 23 (x2_4).toNatClampNeg).toInt = (r3).toInt := congrArg Int32.toInt (show I 108 (0 + (x2_4).toNatClampNeg) = r3 from by rw [xr3]); have y2 : (cF 100 I 22 (x2_4).toNatClampNeg).toInt = (r4).toInt := congrArg Int32.toInt (show I 108 (8 + (x2_4).toNatClampNeg) = r4 from by rw [xr4]); rw [show (v6).toNatClampNeg = (x2_4).toNatClampNeg + 1 from by have z := tn (i := x2_4) (by omega); have z2 := tn (i := v6) (by omega); omega, metN_n (by omega)]; exact hs4) (by omega) hM hS (lv_sub hl [0, 1, 2] rfl)
        · have hc5 := c5
          have q5 := q_nlt hc5
          obtain ⟨v7, ev7⟩ : ∃ z : Int32, z = x1_4 + Int32.ofInt (1) := ⟨_, rfl⟩
          refine lv_iinc (v := v7) (lv' := [(1, .int (v7)), (2, .int (x2_4)), (0, .ref (ad (100)))]) hx hb dX8_metCount_27 hl (k := 1) rfl ev7.symm (by decide) rfl (fun ls hl => ?_)
          obtain ⟨v8, ev8⟩ : ∃ z : Int32, z = x2_4 + Int32.ofInt (1) := ⟨_, rfl⟩
          have tv8 := a_inc ev8 (by decide) (by omega) (by omega)
          refine lv_iinc (v := v8) (lv' := [(2, .int (v8)), (1, .int (v7)), (0, .ref (ad (100)))]) hx hb dX8_metCount_30 hl (k := 1) rfl ev8.symm (by decide) rfl (fun ls hl => ?_)
          refine lv_goto (tgt := 4) hx hb dX8_metCount_33 (by decide) ?_
          exact ih4 (v8) (v7) _ _ ls (by first | omega | decide) (by have := hI.get 100 9 (lo := 0) (hi := 8) rfl; omega) (by have y1 : (cF 100 I 23 (x2_4).toNatClampNeg).toInt = (r3).toInt := congrArg Int32.toInt (show I 108 (0 + (x2_4).toNatClampNeg) = r3 from by rw [xr3]); have y2 : (cF 100 I 22 (x2_4).toNatClampNeg).toInt = (r4).toInt := congrArg Int32.toInt (show I 108 (8 + (x2_4).toNatClampNeg) = r4 from by rw [xr4]); rw [show (v8).toNatClampNeg = (x2_4).toNatClampNeg + 1 from by have z := tn (i := x2_4) (by omega); have z2 := tn (i := v8) (by omega); omega, metN_y (by omega), ev7, hs4]; rfl) (by omega) hM hS (lv_sub hl [0, 1, 2] rfl)
  exact loop4 (_ + 1) (0) (0) _ _ ls (by first | omega | decide) (by have := hI.get 100 9 (lo := 0) (hi := 8) rfl; omega) rfl (Nat.lt_succ_self _) hM hS (lv_sub hl [0, 1, 2] rfl)
set_option maxHeartbeats 4000000 in
set_option maxRecDepth 20000 in
theorem V_X2_turnMirrors_110_y (l : Launch) (D : va_G) (A : Nat → Prop) (ad : Nat → Nat) (ns : List Nat) (I : MI) (L : ML) (G : MG) (w : Nat) (hG : SGC ns G) (hI : INV I) (hW : LOK ns G w) (hbg : 0 < (I 110 0).toInt) (hRK : RKw (cF 110 I)) (hLF : LWF (lawC w I)) : Met l yX2_turnMirrors (wd yX2_turnMirrors cX2_turnMirrors 8 none) ({ frames := 5, cells := 0, slots := 0, locals := 119 }) (va_Pc [.ref (ad (20)), .ref (ad (110)), .ref (ad (w))] (PM D A ad ns I L G)) (va_Qv (fun u => ∃ I2 L2, u = (ad, ns, I2, L2, G) ∧ INV I2 ∧ Kp [(117, 118)] [] I I2 ∧ (EqV (trV (cF 110 I) (I 20 3) (I 21) (lawC w I)) (cF 110 I2))) (BM D A) A) 0 0 A := by
  refine m_ofW (by decide) (Nat.le_of_ble_eq_true rfl) ?_
  intro p e s m below meth c ls args hC hE hM hA hS hl
  obtain ⟨hx, hb, hml, hown, hts, hr, hlocks, hin⟩ := hC
  have k0 : (0 : Int32).toInt = 0 := by decide
  have k1 : (1 : Int32).toInt = 1 := by decide
  have kl7 : (7 : Int64).toInt = 7 := by decide
  have kl0 : (0 : Int64).toInt = 0 := rfl
  have kl1 : (1 : Int64).toInt = 1 := rfl
  have hl5 : 0 ≤ (I w 5).toInt ∧ (I w 5).toInt ≤ 12 := hLF.1
  have h20 := hI.get 20 3 (lo := 0) (hi := 23) rfl
  have gm8 := hI.get 110 8 (lo := 0) (hi := 24) rfl
  have g5m := hI.get 110 5 (lo := 0) (hi := 11) rfl
  have h8n : ((cF 110 I) 1 8).toNatClampNeg ≤ 24 := by show (I 110 8).toNatClampNeg ≤ 24; have z := tn (i := I 110 8) (by omega); omega
  have hOKm : 0 ≤ ((cF 110 I) 1 5).toInt ∧ ((cF 110 I) 1 5).toInt ≤ 11 := g5m
  have hK : Kp [(117, 118)] [] I I := Kp.rf
  have hl : lv_has ls 8 [(0, .ref (ad (20))), (1, .ref (ad (110))), (2, .ref (ad (w)))] := hl
  refine lv_iconst (v := (0)) hx hb dX2_turnMirrors_0 (by decide) ?_
  refine lv_istore_n (lv' := [(3, .int (0)), (0, .ref (ad (20))), (1, .ref (ad (110))), (2, .ref (ad (w)))]) hx hb dX2_turnMirrors_1 rfl hl (by decide) rfl (fun ls hl => ?_)
  refine lv_iconst (v := (0)) hx hb dX2_turnMirrors_2 (by decide) ?_
  refine lv_istore (lv' := [(4, .int (0)), (3, .int (0)), (0, .ref (ad (20))), (1, .ref (ad (110))), (2, .ref (ad (w)))]) hx hb dX2_turnMirrors_3 hl (by decide) rfl (fun ls hl => ?_)
  have loop5 : ∀ (n : Nat) (x4_5 : Int32) (x3_5 : Int32) (Ia5 : MI) (La5 : ML) (H : Heap) (locs : List Loc) (ls : Array Slot), INV Ia5 → Kp [(117, 118)] [] I Ia5 → (0 ≤ x4_5.toInt ∧ x4_5.toInt ≤ 12) → ((x4_5).toInt ≤ (I w 5).toInt) → (TMX (cF 110 I) (I 20 3) (I 21) (lawC w I) (x4_5).toNatClampNeg 110 Ia5 x3_5) → (12 - x4_5.toInt).toNat < n → Mem D A ad ns Ia5 La5 G H → va_S A s.heap H locs → lv_has ls 8 [(4, .int (x4_5)), (3, .int (x3_5)), (0, .ref (ad (20))), (1, .ref (ad (110))), (2, .ref (ad (w)))] → W p l e ({ frames := 5, cells := 0, slots := 0, locals := 119 } : Room) s m args below meth c H locs 0 0 (MQ below (va_Qv (fun u => ∃ I2 L2, u = (ad, ns, I2, L2, G) ∧ INV I2 ∧ Kp [(117, 118)] [] I I2 ∧ (EqV (trV (cF 110 I) (I 20 3) (I 21) (lawC w I)) (cF 110 I2))) (BM D A) A) args s 0 0 A) (F0 m 5 ls []) := by
    intro n
    induction n with
    | zero =>
      intro x4_5 x3_5 Ia5 La5 H locs ls hI hK hr4_5 hle5 hT5 hmu
      exact absurd hmu (Nat.not_lt_zero _)
    | succ n ih5 =>
      intro x4_5 x3_5 Ia5 La5 H locs ls hI hK hr4_5 hle5 hT5 hmu5 hM hS hl
      have hLc := lawC_kp hW.1 hK (by decide) (by decide)
      have hLFa := hLF.eq hLc
      have hRa : RKw (cF 110 Ia5) := (RKw.tA hRK).eq hT5.1
      have hm8 : ((cF 110 I) 1 8).toNatClampNeg = (Ia5 110 8).toNatClampNeg := congrArg Int32.toNatClampNeg (hK.get 110 8 rfl).symm
      have hbg5 : 0 < (Ia5 110 0).toInt := by rw [hK.get 110 0 rfl]; exact hbg
      have gm85 := hI.get 110 8 (lo := 0) (hi := 24) rfl
      have tm85 := tn (i := Ia5 110 8) (by omega)
      have gc5 : 0 ≤ (Ia5 w 5).toInt ∧ (Ia5 w 5).toInt ≤ 12 := hLFa.1
      refine lv_iload hx hb dX2_turnMirrors_5 (lv_at hl 0 rfl) ?_
      refine lv_aload_n hx hb dX2_turnMirrors_7 rfl (lv_at hl 4 rfl) ?_
      refine m_geti (w) 5 hx hb hts hown hE oc3 hM hW.l (kW _ hW.1).1 (by decide) rfl tb_380 dX2_turnMirrors_8 ?_
      have g1 := hI.get (w) 5 (lo := 0) (hi := 12) (rgw0 hW.1).1
      refine lv_icmp_ge (tgt := 102) hx hb dX2_turnMirrors_11 (by decide) (fun c2 => ?_) (fun c2 => ?_)
      · have hc2 := c2
        have q2 := q_le hc2
        exact m_vret hx hb hr hlocks hM hS (Nat.le_of_ble_eq_true rfl) (Nat.le_of_ble_eq_true rfl) ⟨_, _, rfl, hI, hK, (hT5.fin (by show (x4_5).toNatClampNeg = (I w 5).toNatClampNeg; exact congrArg Int32.toNatClampNeg (Int32.toInt_inj.mp (by have z5 := congrArg Int32.toInt (congrFun (hLc 0 (by decide)) 5); have z6 : (Ia5 w 5).toInt = (I w 5).toInt := z5; omega))))⟩ dX2_turnMirrors_102
      · have hc2 := c2
        have q2 := q_nle hc2
        have z4 := tn (i := x4_5) (by omega)
        have hin5 : (x4_5).toNatClampNeg < (Ia5 w 5).toNatClampNeg := by have z5 := tn (i := Ia5 w 5) (by omega); omega
        have hlx := hLFa.x hin5
        have hb6 := hlx.2.1
        refine lv_aload_n hx hb dX2_turnMirrors_14 rfl (lv_at hl 4 rfl) ?_
        refine m_getr (w) 1 (w + 2) hx hb hts hown hE oc3 hM hW.l (kW _ hW.1).1 (by decide) rfl (hW.2.2 1 (by decide)) (by have := lbw hW.1; omega) tb_372 dX2_turnMirrors_15 ?_
        refine lv_iload hx hb dX2_turnMirrors_18 (lv_at hl 0 rfl) ?_
        refine m_iald (w + 2) hx hb hE hM (hW.2.1 2 (by decide)) (kW _ hW.1).2.2.1 (vp_in_iff.mpr (by omega)) dX2_turnMirrors_20 ?_
        have hm23 : 0 ≤ (Ia5 (w + 2) (x4_5).toNatClampNeg).toInt ∧ (Ia5 (w + 2) (x4_5).toNatClampNeg).toInt ≤ 23 := hlx.1
        have tm := tn (i := Ia5 (w + 2) (x4_5).toNatClampNeg) hm23.1
        have hm24 : (Ia5 (w + 2) (x4_5).toNatClampNeg).toNatClampNeg < 24 := by omega
        have hmL : (Ia5 (w + 2) (x4_5).toNatClampNeg).toNatClampNeg = (lawC w I 2 (x4_5).toNatClampNeg).toNatClampNeg := congrArg Int32.toNatClampNeg (congrFun (hLc 2 (by decide)) _)
        refine lv_istore (lv' := [(5, .int (Ia5 (w + 2) (x4_5).toNatClampNeg)), (4, .int (x4_5)), (3, .int (x3_5)), (0, .ref (ad (20))), (1, .ref (ad (110))), (2, .ref (ad (w)))]) hx hb dX2_turnMirrors_21 hl (by decide) rfl (fun ls hl => ?_)
        refine lv_aload_n hx hb dX2_turnMirrors_23 rfl (lv_at hl 4 rfl) ?_
        refine lv_iload hx hb dX2_turnMirrors_24 (lv_at hl 0 rfl) ?_
        refine m_calli (m_runV (110) (As := [.int (Ia5 (w + 2) (x4_5).toNatClampNeg)]) (rest := []) hx hb hml hown hts hE hM hS hA ce_X8_hasMirror tb_753 (V_X8_hasMirror_110 l D A ad ns Ia5 La5 G (Ia5 (w + 2) (x4_5).toNatClampNeg) hG hI) rfl rfl ⟨Nat.le_of_ble_eq_true rfl, Nat.le_of_ble_eq_true rfl⟩ (hG.1 110 (by decide)) rfl rfl (by decide) rfl hl.1 rfl (Nat.le_of_ble_eq_true rfl) dX2_turnMirrors_26 ⟨Nat.le_of_ble_eq_true rfl, Nat.le_of_ble_eq_true rfl⟩) hS (fun r3 u H locs hw hM hS => ?_)
        obtain ⟨rfl, xr3⟩ := hw
        have hM : Mem D A ad ns Ia5 La5 G H := hM
        have yr3 := bo01 xr3
        have g4 := hI.get 110 8 (lo := 0) (hi := 24) rfl
        refine lv_if_eq (tgt := 96) hx hb dX2_turnMirrors_29 (by decide) (fun c5 => ?_) (fun c5 => ?_)
        · have hc5 := c5
          have q5 := xr3.f hc5
          obtain ⟨v6, ev6⟩ : ∃ z : Int32, z = x4_5 + Int32.ofInt (1) := ⟨_, rfl⟩
          have tv6 := a_inc ev6 (by decide) (by omega) (by omega)
          refine lv_iinc (v := v6) (lv' := [(4, .int (v6)), (5, .int (Ia5 (w + 2) (x4_5).toNatClampNeg)), (3, .int (x3_5)), (0, .ref (ad (20))), (1, .ref (ad (110))), (2, .ref (ad (w)))]) hx hb dX2_turnMirrors_96 hl (k := 1) rfl ev6.symm (by decide) rfl (fun ls hl => ?_)
          refine lv_goto (tgt := 5) hx hb dX2_turnMirrors_99 (by decide) ?_
          exact ih5 (v6) (x3_5) Ia5 La5 _ _ ls hI hK (by first | omega | decide) (by have z5 := congrArg Int32.toInt (congrFun (hLc 0 (by decide)) 5); have z6 : (Ia5 w 5).toInt = (I w 5).toInt := z5; omega) (by rw [show (v6).toNatClampNeg = (x4_5).toNatClampNeg + 1 from by have z := tn (i := v6) (by omega); have z2 := tn (i := x4_5) (by omega); omega]; exact TMX.skip (hT5.of (show cF 110 Ia5 = cF 110 Ia5 from by rw [show Ia5 = Ia5 from rfl])) (fun k hk hk2 h0 hf => by have z1 := hf.1; rw [hm8] at hk2; omega) h8n) (by omega) hM hS (lv_sub hl [0, 2, 3, 4, 5] rfl)
        · have hc5 := c5
          have q5 := xr3.t hc5
          refine lv_iload_n hx hb dX2_turnMirrors_32 rfl (lv_at hl 2 rfl) ?_
          refine lv_iload hx hb dX2_turnMirrors_33 (lv_at hl 0 rfl) ?_
          refine lv_ishr hx hb dX2_turnMirrors_35 ?_
          refine lv_topi (fun v7 ev7 => ?_)
          refine lv_iconst (v := (1)) hx hb dX2_turnMirrors_36 (by decide) ?_
          refine lv_iand hx hb dX2_turnMirrors_37 ?_
          refine lv_topi (fun v8 ev8 => ?_)
          have tv8 := a_and (c := 1) ev8 (by decide) (by decide)
          refine lv_if_ne (tgt := 96) hx hb dX2_turnMirrors_38 (by decide) (fun c9 => ?_) (fun c9 => ?_)
          · have hc9 := c9
            have q9 := q_ne hc9
            obtain ⟨v10, ev10⟩ : ∃ z : Int32, z = x4_5 + Int32.ofInt (1) := ⟨_, rfl⟩
            have tv10 := a_inc ev10 (by decide) (by omega) (by omega)
            refine lv_iinc (v := v10) (lv' := [(4, .int (v10)), (5, .int (Ia5 (w + 2) (x4_5).toNatClampNeg)), (3, .int (x3_5)), (0, .ref (ad (20))), (1, .ref (ad (110))), (2, .ref (ad (w)))]) hx hb dX2_turnMirrors_96 hl (k := 1) rfl ev10.symm (by decide) rfl (fun ls hl => ?_)
            refine lv_goto (tgt := 5) hx hb dX2_turnMirrors_99 (by decide) ?_
            exact ih5 (v10) (x3_5) Ia5 La5 _ _ ls hI hK (by first | omega | decide) (by have z5 := congrArg Int32.toInt (congrFun (hLc 0 (by decide)) 5); have z6 : (Ia5 w 5).toInt = (I w 5).toInt := z5; omega) (by rw [show (v10).toNatClampNeg = (x4_5).toNatClampNeg + 1 from by have z := tn (i := v10) (by omega); have z2 := tn (i := x4_5) (by omega); omega]; exact TMX.skip (hT5.of (show cF 110 Ia5 = cF 110 Ia5 from by rw [show Ia5 = Ia5 from rfl])) (fun k hk hk2 h0 hf => by have z1 : k = (Ia5 (w + 2) (x4_5).toNatClampNeg).toNatClampNeg := hf.1.symm.trans hmL.symm; have z0 : v8 = 1 := Int32.toInt_inj.mp (by rw [show (1 : Int32).toInt = 1 from by decide]; omega); have z3 := z0; rw [ev8, ev7] at z3; have z2 : bitA x3_5 k := (by rw [z1]; exact (bit_t (s := x3_5) (m := Ia5 (w + 2) (x4_5).toNatClampNeg) (by omega) (by omega)).mp z3); exact ((hT5.2 k hk).mp z2).2 h0) h8n) (by omega) hM hS (lv_sub hl [0, 2, 3, 4, 5] rfl)
          · have hc9 := c9
            have q9 := q_eq hc9
            have hbit : ¬ bitA x3_5 (Ia5 (w + 2) (x4_5).toNatClampNeg).toNatClampNeg := fun zb => by have z1 := (bit_t (s := x3_5) (m := Ia5 (w + 2) (x4_5).toNatClampNeg) (by omega) (by omega)).mpr zb; have z2 := congrArg Int32.toInt z1; rw [show (1 : Int32).toInt = 1 from by decide] at z2; have z3 : v8 = _ := ev8; rw [ev7] at z3; rw [← z3] at z2; omega
            have hnone := hT5.bit hm24 hbit (by rw [hm8]; omega)
            have hHE := hT5.he hnone hm24 (by omega) (by omega) (hK.get 20 3 rfl) (hK.getA 21 rfl) hOKm
            have hHF := HOLD.fir hlx hLc hmL hHE
            refine lv_aload_n hx hb dX2_turnMirrors_41 rfl (lv_at hl 3 rfl) ?_
            refine lv_aload_n hx hb dX2_turnMirrors_42 rfl (lv_at hl 4 rfl) ?_
            refine lv_aload_n hx hb dX2_turnMirrors_43 rfl (lv_at hl 5 rfl) ?_
            refine lv_iload hx hb dX2_turnMirrors_44 (lv_at hl 1 rfl) ?_
            refine m_calli (m_runV (20) (As := [.ref (ad (110)), .ref (ad (w)), .int (x4_5)]) (rest := []) hx hb hml hown hts hE hM hS hA ce_X2_holds tb_754 (V_X2_holds_110_v l D A ad ns Ia5 La5 G (w) (x4_5) hG hI hW hlx (by first | omega | decide)) rfl rfl ⟨Nat.le_of_ble_eq_true rfl, Nat.le_of_ble_eq_true rfl⟩ (hG.1 20 (by decide)) rfl rfl (by decide) rfl hl.1 rfl (Nat.le_of_ble_eq_true rfl) dX2_turnMirrors_46 ⟨Nat.le_of_ble_eq_true rfl, Nat.le_of_ble_eq_true rfl⟩) hS (fun r11 u H locs hw hM hS => ?_)
            obtain ⟨I12, L13, rfl, hI, hkI12, xr11⟩ := hw
            have hM : Mem D A ad ns I12 L13 G H := hM
            have hK := hK.trans hkI12 rfl
            have yr11 := bo01 xr11
            refine lv_if_eq (tgt := 96) hx hb dX2_turnMirrors_49 (by decide) (fun c14 => ?_) (fun c14 => ?_)
            · have hc14 := c14
              have q14 := xr11.f hc14
              obtain ⟨v15, ev15⟩ : ∃ z : Int32, z = x4_5 + Int32.ofInt (1) := ⟨_, rfl⟩
              have tv15 := a_inc ev15 (by decide) (by omega) (by omega)
              refine lv_iinc (v := v15) (lv' := [(4, .int (v15)), (5, .int (Ia5 (w + 2) (x4_5).toNatClampNeg)), (3, .int (x3_5)), (0, .ref (ad (20))), (1, .ref (ad (110))), (2, .ref (ad (w)))]) hx hb dX2_turnMirrors_96 hl (k := 1) rfl ev15.symm (by decide) rfl (fun ls hl => ?_)
              refine lv_goto (tgt := 5) hx hb dX2_turnMirrors_99 (by decide) ?_
              exact ih5 (v15) (x3_5) I12 L13 _ _ ls hI hK (by first | omega | decide) (by have z5 := congrArg Int32.toInt (congrFun (hLc 0 (by decide)) 5); have z6 : (Ia5 w 5).toInt = (I w 5).toInt := z5; omega) (by rw [show (v15).toNatClampNeg = (x4_5).toNatClampNeg + 1 from by have z := tn (i := v15) (by omega); have z2 := tn (i := x4_5) (by omega); omega]; exact TMX.skip (hT5.of (show cF 110 I12 = cF 110 Ia5 from by rw [show I12 = Ia5 from ((funext fun n => funext fun k => hkI12 n k rfl rfl : I12 = _).trans rfl)])) (fun k hk hk2 h0 hf => by have z1 : k = (Ia5 (w + 2) (x4_5).toNatClampNeg).toNatClampNeg := hf.1.symm.trans hmL.symm; rw [z1] at hf; exact q14 (hHF.1.mpr hf)) h8n) (by omega) hM hS (lv_sub hl [0, 2, 3, 4, 5] rfl)
            · have hc14 := c14
              have q14 := xr11.t hc14
              refine lv_aload_n hx hb dX2_turnMirrors_52 rfl (lv_at hl 3 rfl) ?_
              refine lv_aload_n hx hb dX2_turnMirrors_53 rfl (lv_at hl 4 rfl) ?_
              refine lv_aload_n hx hb dX2_turnMirrors_54 rfl (lv_at hl 5 rfl) ?_
              refine lv_aload_n hx hb dX2_turnMirrors_55 rfl (lv_at hl 5 rfl) ?_
              refine m_getr (w) 2 (w + 3) hx hb hts hown hE oc3 hM hW.l (kW _ hW.1).1 (by decide) rfl (hW.2.2 2 (by decide)) (by have := lbw hW.1; omega) tb_374 dX2_turnMirrors_56 ?_
              refine lv_iload hx hb dX2_turnMirrors_59 (lv_at hl 1 rfl) ?_
              refine m_iald (w + 3) hx hb hE hM (hW.2.1 3 (by decide)) (kW _ hW.1).2.2.2.1 (vp_in_iff.mpr (by omega)) dX2_turnMirrors_61 ?_
              have g16 := hI.get (w + 3) ((x4_5).toNatClampNeg) (lo := 0) (hi := 400) (rgw3 hW.1 _)
              have z17 : I12 (w + 3) (x4_5).toNatClampNeg = Ia5 (w + 3) ((x4_5).toNatClampNeg) := (hkI12.getW (w + 3) ((x4_5).toNatClampNeg) (by decide) (by decide) (by have := lbw hW.1; omega))
              rw [z17] at g16 ⊢
              refine lv_aload_n hx hb dX2_turnMirrors_62 rfl (lv_at hl 5 rfl) ?_
              refine m_getr (w) 3 (w + 4) hx hb hts hown hE oc3 hM hW.l (kW _ hW.1).1 (by decide) rfl (hW.2.2 3 (by decide)) (by have := lbw hW.1; omega) tb_376 dX2_turnMirrors_63 ?_
              refine lv_iload hx hb dX2_turnMirrors_66 (lv_at hl 1 rfl) ?_
              refine m_iald (w + 4) hx hb hE hM (hW.2.1 4 (by decide)) (kW _ hW.1).2.2.2.2.1 (vp_in_iff.mpr (by omega)) dX2_turnMirrors_68 ?_
              have g18 := hI.get (w + 4) ((x4_5).toNatClampNeg) (lo := 0) (hi := 400) (rgw4 hW.1 _)
              have z19 : I12 (w + 4) (x4_5).toNatClampNeg = Ia5 (w + 4) ((x4_5).toNatClampNeg) := (hkI12.getW (w + 4) ((x4_5).toNatClampNeg) (by decide) (by decide) (by have := lbw hW.1; omega))
              rw [z19] at g18 ⊢
              refine lv_iload hx hb dX2_turnMirrors_69 (lv_at hl 0 rfl) ?_
              refine m_calll (m_runV (20) (As := [.ref (ad (110)), .ref (ad (w)), .int (Ia5 (w + 3) ((x4_5).toNatClampNeg)), .int (Ia5 (w + 4) ((x4_5).toNatClampNeg)), .int (Ia5 (w + 2) (x4_5).toNatClampNeg)]) (rest := []) hx hb hml hown hts hE hM hS hA ce_X2_valueOf tb_758 (V_X2_valueOf_110_v l D A ad ns I12 L13 G false (w) (Ia5 (w + 3) ((x4_5).toNatClampNeg)) (Ia5 (w + 4) ((x4_5).toNatClampNeg)) (Ia5 (w + 2) (x4_5).toNatClampNeg) hG hI hW (by omega) (by rw [((funext fun n => funext fun k => hkI12 n k rfl rfl : I12 = _).trans rfl)]; exact hlx.2.2.1.1) (by rw [((funext fun n => funext fun k => hkI12 n k rfl rfl : I12 = _).trans rfl)]; exact hlx.2.2.1.2) (by first | omega | decide) (by first | omega | decide) (by first | omega | decide)) rfl rfl ⟨Nat.le_of_ble_eq_true rfl, Nat.le_of_ble_eq_true rfl⟩ (hG.1 20 (by decide)) rfl rfl (by decide) rfl hl.1 rfl (Nat.le_of_ble_eq_true rfl) dX2_turnMirrors_71 ⟨Nat.le_of_ble_eq_true rfl, Nat.le_of_ble_eq_true rfl⟩) hS (fun r20 u H locs hw hM hS => ?_)
              obtain ⟨I21, L22, rfl, hI, hkI21, xr20⟩ := hw
              have hM : Mem D A ad ns I21 L22 G H := hM
              have hK := hK.trans hkI21 rfl
              have xs := xr20
              rw [show I12 = Ia5 from ((funext fun n => funext fun k => hkI12 n k rfl rfl : I12 = _).trans rfl)] at xs
              have hsv : r20 = vsV (cF 110 I) (I 20 3) (I 21) (lawC w I) (Ia5 (w + 2) (x4_5).toNatClampNeg).toNatClampNeg (x4_5).toNatClampNeg := hHF.2 _ xs
              refine lv_lstore (lv' := [(6, .long (r20)), (5, .int (Ia5 (w + 2) (x4_5).toNatClampNeg)), (4, .int (x4_5)), (3, .int (x3_5)), (0, .ref (ad (20))), (1, .ref (ad (110))), (2, .ref (ad (w)))]) hx hb dX2_turnMirrors_74 hl (by decide) rfl (fun ls hl => ?_)
              refine lv_aload_n hx hb dX2_turnMirrors_76 rfl (lv_at hl 5 rfl) ?_
              refine lv_iload hx hb dX2_turnMirrors_77 (lv_at hl 1 rfl) ?_
              refine lv_lload hx hb dX2_turnMirrors_79 (lv_at hl 0 rfl) ?_
              refine lv_ldc2 (v := (7)) hx hb hown (hts _ tb_787) dX2_turnMirrors_81 ?_
              refine lv_land hx hb dX2_turnMirrors_84 ?_
              refine lv_topl (fun v23 ev23 => ?_)
              refine lv_l2i hx hb dX2_turnMirrors_85 rfl ?_
              refine lv_topi (fun v24 ev24 => ?_)
              have h7 := i7 r20
              have hto7 : 0 ≤ (v24).toInt ∧ (v24).toInt ≤ 7 := by rw [ev24, ev23]; exact h7.2
              have hto : (v24).toInt = (vsV (cF 110 I) (I 20 3) (I 21) (lawC w I) (Ia5 (w + 2) (x4_5).toNatClampNeg).toNatClampNeg (x4_5).toNatClampNeg &&& 7).toInt := by rw [ev24, ev23, ← h7.1, hsv]
              refine m_callv (m_runV (110) (As := [.int (Ia5 (w + 2) (x4_5).toNatClampNeg), .int (v24)]) (rest := []) hx hb hml hown hts hE hM hS hA ce_X8_turnTowards tb_788 (V_X8_turnTowards_110_v l D A ad ns I21 L22 G (Ia5 (w + 2) (x4_5).toNatClampNeg) (v24) hG hI (by rw [((funext fun n => funext fun k => hkI21 n k rfl rfl : I21 = _).trans ((funext fun n => funext fun k => hkI12 n k rfl rfl : I12 = _).trans rfl))]; exact (hRa.2.2.2.1 (Ia5 (w + 2) (x4_5).toNatClampNeg).toNatClampNeg hm24).1) (by rw [((funext fun n => funext fun k => hkI21 n k rfl rfl : I21 = _).trans ((funext fun n => funext fun k => hkI12 n k rfl rfl : I12 = _).trans rfl))]; exact (hRa.2.2.2.1 (Ia5 (w + 2) (x4_5).toNatClampNeg).toNatClampNeg hm24).2.2.2.1) (by first | omega | decide) (by first | omega | decide)) rfl rfl ⟨Nat.le_of_ble_eq_true rfl, Nat.le_of_ble_eq_true rfl⟩ (hG.1 110 (by decide)) rfl rfl (by decide) rfl hl.1 rfl (Nat.le_of_ble_eq_true rfl) dX2_turnMirrors_86 ⟨Nat.le_of_ble_eq_true rfl, Nat.le_of_ble_eq_true rfl⟩) hS (fun u H locs hw hM hS => ?_)
              obtain ⟨I25, L26, rfl, hI, hkI25, xI25⟩ := hw
              have hM : Mem D A ad ns I25 L26 G H := hM
              have hK := hK.trans hkI25 rfl
              have xt := xI25
              rw [show I21 = Ia5 from ((funext fun n => funext fun k => hkI21 n k rfl rfl : I21 = _).trans ((funext fun n => funext fun k => hkI12 n k rfl rfl : I12 = _).trans rfl))] at xt
              refine lv_iload_n hx hb dX2_turnMirrors_89 rfl (lv_at hl 3 rfl) ?_
              refine lv_iconst (v := (1)) hx hb dX2_turnMirrors_90 (by decide) ?_
              refine lv_iload hx hb dX2_turnMirrors_91 (lv_at hl 1 rfl) ?_
              refine lv_ishl hx hb dX2_turnMirrors_93 ?_
              refine lv_topi (fun v27 ev27 => ?_)
              refine lv_ior hx hb dX2_turnMirrors_94 ?_
              refine lv_topi (fun v28 ev28 => ?_)
              refine lv_istore_n (lv' := [(3, .int (v28)), (6, .long (r20)), (5, .int (Ia5 (w + 2) (x4_5).toNatClampNeg)), (4, .int (x4_5)), (0, .ref (ad (20))), (1, .ref (ad (110))), (2, .ref (ad (w)))]) hx hb dX2_turnMirrors_95 rfl hl (by decide) rfl (fun ls hl => ?_)
              obtain ⟨v29, ev29⟩ : ∃ z : Int32, z = x4_5 + Int32.ofInt (1) := ⟨_, rfl⟩
              have tv29 := a_inc ev29 (by decide) (by omega) (by omega)
              refine lv_iinc (v := v29) (lv' := [(4, .int (v29)), (3, .int (v28)), (6, .long (r20)), (5, .int (Ia5 (w + 2) (x4_5).toNatClampNeg)), (0, .ref (ad (20))), (1, .ref (ad (110))), (2, .ref (ad (w)))]) hx hb dX2_turnMirrors_96 hl (k := 3) rfl ev29.symm (by decide) rfl (fun ls hl => ?_)
              refine lv_goto (tgt := 5) hx hb dX2_turnMirrors_99 (by decide) ?_
              exact ih5 (v29) (v28) I25 L26 _ _ ls hI hK (by first | omega | decide) (by have z5 := congrArg Int32.toInt (congrFun (hLc 0 (by decide)) 5); have z6 : (Ia5 w 5).toInt = (I w 5).toInt := z5; omega) (by rw [show (v29).toNatClampNeg = (x4_5).toNatClampNeg + 1 from by have z := tn (i := v29) (by omega); have z2 := tn (i := x4_5) (by omega); omega]; exact TMX.turn hT5 (by rw [hm8]; omega) hm24 hnone (hHF.1.mp q14) hto xt ⟨rfl, by omega, by omega⟩ (by rw [ev28, ev27])) (by omega) hM hS (lv_sub hl [0, 1, 4, 5, 6] rfl)
  exact loop5 (_ + 1) (0) (0) I L _ _ ls hI hK (by first | omega | decide) (by omega) (TMX.z EqV.rf) (Nat.lt_succ_self _) hM hS (lv_sub hl [0, 1, 2, 3, 4] rfl)
set_option maxHeartbeats 4000000 in
set_option maxRecDepth 20000 in
theorem V_X8_endDay_110_y (l : Launch) (D : va_G) (A : Nat → Prop) (ad : Nat → Nat) (ns : List Nat) (I : MI) (L : ML) (G : MG) (hG : SGC ns G) (hI : INV I) : Met l yX8_endDay (wd yX8_endDay cX8_endDay 3 none) ({ frames := 1, cells := 0, slots := 0, locals := 23 }) (va_Pc [.ref (ad (110)), .ref (ad (21))] (PM D A ad ns I L G)) (va_Qv (fun u => ∃ I2 L2, u = (ad, ns, I2, L2, G) ∧ INV I2 ∧ Kp [(117, 119)] [(110, 6)] I I2 ∧ (EqV (edS ((cF 110 I), I 21)) (cF 110 I2))) (BM D A) A) 0 0 A := by
  refine m_ofW (by decide) (Nat.le_of_ble_eq_true rfl) ?_
  intro p e s m below meth c ls args hC hE hM hA hS hl
  obtain ⟨hx, hb, hml, hown, hts, hr, hlocks, hin⟩ := hC
  have k0 : (0 : Int32).toInt = 0 := by decide
  have k1 : (1 : Int32).toInt = 1 := by decide
  have k7 : (7 : Int32).toInt = 7 := by decide
  have k1000 : (1000 : Int32).toInt = 1000 := by decide
  have hK : Kp [(117, 119)] [(110, 6)] I I := Kp.rf
  have hl : lv_has ls 3 [(0, .ref (ad (110))), (1, .ref (ad (21)))] := hl
  refine lv_iconst (v := (0)) hx hb dX8_endDay_0 (by decide) ?_
  refine lv_istore_n (lv' := [(2, .int (0)), (0, .ref (ad (110))), (1, .ref (ad (21)))]) hx hb dX8_endDay_1 rfl hl (by decide) rfl (fun ls hl => ?_)
  have loop2 : ∀ (n : Nat) (x2_2 : Int32) (Ia2 : MI) (La2 : ML) (H : Heap) (locs : List Loc) (ls : Array Slot), INV Ia2 → Kp [(117, 119)] [(110, 6)] I Ia2 → (0 ≤ x2_2.toInt ∧ x2_2.toInt ≤ 24) → (EqV (e14 (cF 110 I) (x2_2).toNatClampNeg) (cF 110 Ia2)) → ((x2_2).toInt ≤ (Ia2 110 8).toInt) → (Ia2 110 6 = I 110 6) → (24 - x2_2.toInt).toNat < n → Mem D A ad ns Ia2 La2 G H → va_S A s.heap H locs → lv_has ls 3 [(2, .int (x2_2)), (0, .ref (ad (110))), (1, .ref (ad (21)))] → W p l e ({ frames := 1, cells := 0, slots := 0, locals := 23 } : Room) s m args below meth c H locs 0 0 (MQ below (va_Qv (fun u => ∃ I2 L2, u = (ad, ns, I2, L2, G) ∧ INV I2 ∧ Kp [(117, 119)] [(110, 6)] I I2 ∧ (EqV (edS ((cF 110 I), I 21)) (cF 110 I2))) (BM D A) A) args s 0 0 A) (F0 m 2 ls []) := by
    intro n
    induction n with
    | zero =>
      intro x2_2 Ia2 La2 H locs ls hI hK hr2_2 hv2 hle2 h62 hmu
      exact absurd hmu (Nat.not_lt_zero _)
    | succ n ih2 =>
      intro x2_2 Ia2 La2 H locs ls hI hK hr2_2 hv2 hle2 h62 hmu2 hM hS hl
      have hK2 := hK
      have h82 : Ia2 110 8 = I 110 8 := hK.get 110 8 rfl
      have g82 := hI.get 110 8 (lo := 0) (hi := 24) rfl
      refine lv_iload_n hx hb dX8_endDay_2 rfl (lv_at hl 0 rfl) ?_
      refine lv_aload_n hx hb dX8_endDay_3 rfl (lv_at hl 1 rfl) ?_
      refine m_geti (110) 8 hx hb hts hown hE oc8 hM (hG.1 110 (by decide)) rfl (by decide) rfl tb_59 dX8_endDay_4 ?_
      have g1 := hI.get (110) 8 (lo := 0) (hi := 24) rfl
      refine lv_icmp_ge (tgt := 41) hx hb dX8_endDay_7 (by decide) (fun c2 => ?_) (fun c2 => ?_)
      · have hc2 := c2
        have q2 := q_le hc2
        refine lv_iconst (v := (0)) hx hb dX8_endDay_41 (by decide) ?_
        refine lv_istore_n (lv' := [(2, .int (0)), (0, .ref (ad (110))), (1, .ref (ad (21)))]) hx hb dX8_endDay_42 rfl hl (by decide) rfl (fun ls hl => ?_)
        have loop43 : ∀ (n : Nat) (x2_43 : Int32) (Ia43 : MI) (La43 : ML) (H : Heap) (locs : List Loc) (ls : Array Slot), INV Ia43 → Kp [(117, 119)] [(110, 6)] I Ia43 → (0 ≤ x2_43.toInt ∧ x2_43.toInt ≤ 8) → (EqV (e23 (e14 (cF 110 I) (x2_2).toNatClampNeg) (I 21) (x2_43).toNatClampNeg) (cF 110 Ia43)) → ((x2_43).toInt ≤ (Ia43 110 9).toInt) → (Ia43 110 6 = I 110 6) → (8 - x2_43.toInt).toNat < n → Mem D A ad ns Ia43 La43 G H → va_S A s.heap H locs → lv_has ls 3 [(2, .int (x2_43)), (0, .ref (ad (110))), (1, .ref (ad (21)))] → W p l e ({ frames := 1, cells := 0, slots := 0, locals := 23 } : Room) s m args below meth c H locs 0 0 (MQ below (va_Qv (fun u => ∃ I2 L2, u = (ad, ns, I2, L2, G) ∧ INV I2 ∧ Kp [(117, 119)] [(110, 6)] I I2 ∧ (EqV (edS ((cF 110 I), I 21)) (cF 110 I2))) (BM D A) A) args s 0 0 A) (F0 m 43 ls []) := by
          intro n
          induction n with
          | zero =>
            intro x2_43 Ia43 La43 H locs ls hI hK hr2_43 hv43 hle43 h643 hmu
            exact absurd hmu (Nat.not_lt_zero _)
          | succ n ih43 =>
            intro x2_43 Ia43 La43 H locs ls hI hK hr2_43 hv43 hle43 h643 hmu43 hM hS hl
            have hK43 := hK
            have h2143 : Ia43 21 = I 21 := hK.getA 21 rfl
            have g943 := hI.get 110 9 (lo := 0) (hi := 8) rfl
            refine lv_iload_n hx hb dX8_endDay_43 rfl (lv_at hl 0 rfl) ?_
            refine lv_aload_n hx hb dX8_endDay_44 rfl (lv_at hl 1 rfl) ?_
            refine m_geti (110) 9 hx hb hts hown hE oc8 hM (hG.1 110 (by decide)) rfl (by decide) rfl tb_63 dX8_endDay_45 ?_
            have g3 := hI.get (110) 9 (lo := 0) (hi := 8) rfl
            refine lv_icmp_ge (tgt := 66) hx hb dX8_endDay_48 (by decide) (fun c4 => ?_) (fun c4 => ?_)
            · have hc4 := c4
              have q4 := q_le hc4
              refine lv_aload_n hx hb dX8_endDay_66 rfl (lv_at hl 1 rfl) ?_
              refine lv_dup hx hb dX8_endDay_67 rfl ?_
              refine m_geti (110) 6 hx hb hts hown hE oc8 hM (hG.1 110 (by decide)) rfl (by decide) rfl tb_54 dX8_endDay_68 ?_
              refine lv_iconst (v := (1)) hx hb dX8_endDay_71 (by decide) ?_
              refine lv_iadd hx hb dX8_endDay_72 ?_
              refine lv_topi (fun v5 ev5 => ?_)
              refine m_puti (110) 6 hx hb hts hown hE oc8 hM hS (hG.1 110 (by decide)) rfl (by decide) rfl rfl rfl rfl tb_54 dX8_endDay_73 (fun H locs I6 eI6 hM hS => ?_)
              subst eI6
              have hI := hI.putF (n := 110) (k := 6) (v := v5) rfl
              have hK := hK.put (n := 110) (k := 6) (v := v5) (by first | rfl | simp [inR])
              have h8n : (x2_2).toNatClampNeg = ((cF 110 I) 1 8).toNatClampNeg := by show _ = (I 110 8).toNatClampNeg; rw [← h82]; exact congrArg Int32.toNatClampNeg (Int32.toInt_inj.mp (by omega))
              have h9n : (x2_43).toNatClampNeg = ((cF 110 I) 1 9).toNatClampNeg := by show _ = (I 110 9).toNatClampNeg; rw [← hK43.get 110 9 rfl]; exact congrArg Int32.toNatClampNeg (Int32.toInt_inj.mp (by omega))
              have h6n : v5 = (cF 110 I) 1 6 + 1 := by show _ = I 110 6 + 1; rw [← h643]; exact ev5
              exact m_vret hx hb hr hlocks hM hS (Nat.le_of_ble_eq_true rfl) (Nat.le_of_ble_eq_true rfl) ⟨_, _, rfl, hI, hK, (by have h1 := hv43.st (cF_sc (b := 110) (n := 6) (k := 6) (v := v5) (by decide)); rw [ed_fin h8n h9n h6n] at h1; exact h1)⟩ dX8_endDay_76
            · have hc4 := c4
              have q4 := q_nle hc4
              refine lv_aload_n hx hb dX8_endDay_51 rfl (lv_at hl 1 rfl) ?_
              refine lv_iload_n hx hb dX8_endDay_52 rfl (lv_at hl 0 rfl) ?_
              refine lv_iconst (v := (0)) hx hb dX8_endDay_53 (by decide) ?_
              refine lv_aload_n hx hb dX8_endDay_54 rfl (lv_at hl 2 rfl) ?_
              refine lv_iload_n hx hb dX8_endDay_55 rfl (lv_at hl 0 rfl) ?_
              refine m_iald (21) hx hb hE hM (hG.1 21 (by decide)) rfl (vp_in_iff.mpr (by omega)) dX8_endDay_56 ?_
              refine m_callv (m_runV (110) (As := [.int (x2_43), .int (0), .int (Ia43 (21) (x2_43).toNatClampNeg)]) (rest := []) hx hb hml hown hts hE hM hS hA ce_X8_setYard tb_529 (V_X8_setYard_110_t l D A ad ns Ia43 La43 G (x2_43) (0) (Ia43 (21) (x2_43).toNatClampNeg) hG hI (by first | omega | decide) (by first | omega | decide)) rfl rfl ⟨Nat.le_of_ble_eq_true rfl, Nat.le_of_ble_eq_true rfl⟩ (hG.1 110 (by decide)) rfl rfl (by decide) rfl hl.1 rfl (Nat.le_of_ble_eq_true rfl) dX8_endDay_57 ⟨Nat.le_of_ble_eq_true rfl, Nat.le_of_ble_eq_true rfl⟩) hS (fun u H locs hw hM hS => ?_)
              obtain ⟨I7, L8, rfl, hI, hkI7, xI7⟩ := hw
              have hM : Mem D A ad ns I7 L8 G H := hM
              have hK := hK.trans hkI7 rfl
              obtain ⟨v9, ev9⟩ : ∃ z : Int32, z = x2_43 + Int32.ofInt (1) := ⟨_, rfl⟩
              have tv9 := a_inc ev9 (by decide) (by omega) (by omega)
              refine lv_iinc (v := v9) (lv' := [(2, .int (v9)), (0, .ref (ad (110))), (1, .ref (ad (21)))]) hx hb dX8_endDay_60 hl (k := 0) rfl ev9.symm (by decide) rfl (fun ls hl => ?_)
              refine lv_goto (tgt := 43) hx hb dX8_endDay_63 (by decide) ?_
              exact ih43 (v9) I7 L8 _ _ ls hI hK (by first | omega | decide) (by rw [show (v9).toNatClampNeg = (x2_43).toNatClampNeg + 1 from (by have z1 := tn (i := v9) (by omega); have z2 := tn (i := x2_43) (by omega); omega)]; exact e23_step hv43 xI7 (by rw [h2143])) (by rw [(hkI7.get (110) 9 rfl)]; omega) (((hkI7.get (110) 6 rfl)).trans h643) (by omega) hM hS (lv_sub hl [0, 1, 2] rfl)
        exact loop43 (_ + 1) (0) Ia2 La2 _ _ ls hI hK (by first | omega | decide) (by rw [show (0 : Int32).toNatClampNeg = 0 from rfl, e23_0]; exact hv2) (by have := hI.get 110 9 (lo := 0) (hi := 8) rfl; omega) h62 (Nat.lt_succ_self _) hM hS (lv_sub hl [0, 1, 2] rfl)
      · have hc2 := c2
        have q2 := q_nle hc2
        refine lv_aload_n hx hb dX8_endDay_10 rfl (lv_at hl 1 rfl) ?_
        refine lv_iload_n hx hb dX8_endDay_11 rfl (lv_at hl 0 rfl) ?_
        refine lv_bipush (v := (7)) hx hb dX8_endDay_12 (by decide) ?_
        refine lv_aload_n hx hb dX8_endDay_14 rfl (lv_at hl 1 rfl) ?_
        refine lv_iload_n hx hb dX8_endDay_15 rfl (lv_at hl 0 rfl) ?_
        refine lv_bipush (v := (7)) hx hb dX8_endDay_16 (by decide) ?_
        refine m_calli (m_runV (110) (As := [.int (x2_2), .int (7)]) (rest := [.int (7), .int (x2_2), .ref (ad (110))]) hx hb hml hown hts hE hM hS hA ce_X8_ofMirror tb_792 (V_X8_ofMirror_110_l l D A ad ns Ia2 La2 G (x2_2) (7) hG hI (by first | omega | decide) (by first | omega | decide)) rfl rfl ⟨Nat.le_of_ble_eq_true rfl, Nat.le_of_ble_eq_true rfl⟩ (hG.1 110 (by decide)) rfl rfl (by decide) rfl hl.1 rfl (Nat.le_of_ble_eq_true rfl) dX8_endDay_18 ⟨Nat.le_of_ble_eq_true rfl, Nat.le_of_ble_eq_true rfl⟩) hS (fun r10 u H locs hw hM hS => ?_)
        obtain ⟨rfl, xr10⟩ := hw
        have hM : Mem D A ad ns Ia2 La2 G H := hM
        rw [show (7 : Int32).toNatClampNeg = 7 from rfl, show 24 * 7 = 168 from rfl] at xr10
        refine lv_aload_n hx hb dX8_endDay_21 rfl (lv_at hl 1 rfl) ?_
        refine m_geti (110) 7 hx hb hts hown hE oc8 hM (hG.1 110 (by decide)) rfl (by decide) rfl tb_57 dX8_endDay_22 ?_
        refine lv_iadd hx hb dX8_endDay_25 ?_
        refine lv_topi (fun v11 ev11 => ?_)
        refine lv_sipush (v := (1000)) hx hb dX8_endDay_26 (by decide) ?_
        refine va_mmin hx hb (hml.trans hl.1.symm) hown (hts _ tb_793) (hts _ tb_794) (hts _ tb_18) (hts _ tb_795) (Nat.le_of_ble_eq_true rfl) (Nat.le_of_ble_eq_true rfl) (Nat.le_of_ble_eq_true rfl) (Nat.le_of_ble_eq_true rfl) dX8_endDay_29 ?_
        refine lv_topi (fun v12 ev12 => ?_)
        have tv12 := a_min ev12
        refine m_callv (m_runV (110) (As := [.int (x2_2), .int (7), .int (v12)]) (rest := []) hx hb hml hown hts hE hM hS hA ce_X8_setMirror tb_499 (V_X8_setMirror_110_t l D A ad ns Ia2 La2 G (x2_2) (7) (v12) hG hI (by first | omega | decide) (by first | omega | decide)) rfl rfl ⟨Nat.le_of_ble_eq_true rfl, Nat.le_of_ble_eq_true rfl⟩ (hG.1 110 (by decide)) rfl rfl (by decide) rfl hl.1 rfl (Nat.le_of_ble_eq_true rfl) dX8_endDay_32 ⟨Nat.le_of_ble_eq_true rfl, Nat.le_of_ble_eq_true rfl⟩) hS (fun u H locs hw hM hS => ?_)
        obtain ⟨I13, L14, rfl, hI, hkI13, xI13⟩ := hw
        have hM : Mem D A ad ns I13 L14 G H := hM
        have hK := hK.trans hkI13 rfl
        obtain ⟨v15, ev15⟩ : ∃ z : Int32, z = x2_2 + Int32.ofInt (1) := ⟨_, rfl⟩
        have tv15 := a_inc ev15 (by decide) (by omega) (by omega)
        refine lv_iinc (v := v15) (lv' := [(2, .int (v15)), (0, .ref (ad (110))), (1, .ref (ad (21)))]) hx hb dX8_endDay_35 hl (k := 0) rfl ev15.symm (by decide) rfl (fun ls hl => ?_)
        refine lv_goto (tgt := 2) hx hb dX8_endDay_38 (by decide) ?_
        exact ih2 (v15) I13 L14 _ _ ls hI hK (by first | omega | decide) (by rw [show (v15).toNatClampNeg = (x2_2).toNatClampNeg + 1 from (by have z1 := tn (i := v15) (by omega); have z2 := tn (i := x2_2) (by omega); omega)]; exact e14_step hv2 xI13 (by rw [show (cF 110 I) 14 (x2_2).toNatClampNeg = r10 from ((xr10.trans (hv2 14 (x2_2).toNatClampNeg (by decide) (by decide) (show (x2_2).toNatClampNeg < 24 by have z := tn (i := x2_2) (by omega); omega))).trans e14_at).symm, show (cF 110 I) 1 7 = Ia2 110 7 from (hK2.get 110 7 rfl).symm]; unfold dst; rw [← ev11, ev12]; by_cases hq : 1000 < v11; (rw [if_pos hq, if_pos (by have hz := q_lt hq; rw [show (1000 : Int32).toInt = 1000 from by decide] at hz; exact hz)]); (rw [if_neg hq, if_neg (fun z => hq (Int32.lt_iff_toInt_lt.mpr (by rw [show (1000 : Int32).toInt = 1000 from by decide]; exact z)))]))) (by rw [(hkI13.get (110) 8 rfl)]; omega) (((hkI13.get (110) 6 rfl)).trans h62) (by omega) hM hS (lv_sub hl [0, 1, 2] rfl)
  exact loop2 (_ + 1) (0) I L _ _ ls hI hK (by first | omega | decide) (by rw [show (0 : Int32).toNatClampNeg = 0 from rfl, e14_0]; exact EqV.rf) (by have := hI.get 110 8 (lo := 0) (hi := 24) rfl; omega) rfl (Nat.lt_succ_self _) hM hS (lv_sub hl [0, 1, 2] rfl)
set_option maxHeartbeats 4000000 in
set_option maxRecDepth 20000 in
theorem V_X8_metCount_110_y (l : Launch) (D : va_G) (A : Nat → Prop) (ad : Nat → Nat) (ns : List Nat) (I : MI) (L : ML) (G : MG) (hG : SGC ns G) (hI : INV I) : Met l yX8_metCount (wd yX8_metCount cX8_metCount 3 (some .int)) ({ frames := 1, cells := 0, slots := 0, locals := 22 }) (va_Pc [.ref (ad (110))] (PM D A ad ns I L G)) (va_Qi (fun r u => u = (ad, ns, I, L, G) ∧ (r = metV (cF 110 I))) (BM D A) A) 0 0 A := by
  refine m_ofW (by decide) (Nat.le_of_ble_eq_true rfl) ?_
  intro p e s m below meth c ls args hC hE hM hA hS hl
  obtain ⟨hx, hb, hml, hown, hts, hr, hlocks, hin⟩ := hC
  have k0 : (0 : Int32).toInt = 0 := by decide
  have k1 : (1 : Int32).toInt = 1 := by decide
  have hl : lv_has ls 3 [(0, .ref (ad (110)))] := hl
  refine lv_iconst (v := (0)) hx hb dX8_metCount_0 (by decide) ?_
  refine lv_istore_n (lv' := [(1, .int (0)), (0, .ref (ad (110)))]) hx hb dX8_metCount_1 rfl hl (by decide) rfl (fun ls hl => ?_)
  refine lv_iconst (v := (0)) hx hb dX8_metCount_2 (by decide) ?_
  refine lv_istore_n (lv' := [(2, .int (0)), (1, .int (0)), (0, .ref (ad (110)))]) hx hb dX8_metCount_3 rfl hl (by decide) rfl (fun ls hl => ?_)
  have loop4 : ∀ (n : Nat) (x2_4 : Int32) (x1_4 : Int32) (H : Heap) (locs : List Loc) (ls : Array Slot), (0 ≤ x2_4.toInt ∧ x2_4.toInt ≤ 8) → ((x2_4).toInt ≤ (I 110 9).toInt) → (x1_4 = metN (cF 110 I) (x2_4).toNatClampNeg) → (8 - x2_4.toInt).toNat < n → Mem D A ad ns I L G H → va_S A s.heap H locs → lv_has ls 3 [(2, .int (x2_4)), (1, .int (x1_4)), (0, .ref (ad (110)))] → W p l e ({ frames := 1, cells := 0, slots := 0, locals := 22 } : Room) s m args below meth c H locs 0 0 (MQ below (va_Qi (fun r u => u = (ad, ns, I, L, G) ∧ (r = metV (cF 110 I))) (BM D A) A) args s 0 0 A) (F0 m 4 ls []) := by
    intro n
    induction n with
    | zero =>
      intro x2_4 x1_4 H locs ls hr2_4 hle4 hs4 hmu
      exact absurd hmu (Nat.not_lt_zero _)
    | succ n ih4 =>
      intro x2_4 x1_4 H locs ls hr2_4 hle4 hs4 hmu4 hM hS hl
      refine lv_iload_n hx hb dX8_metCount_4 rfl (lv_at hl 0 rfl) ?_
      refine lv_aload_n hx hb dX8_metCount_5 rfl (lv_at hl 2 rfl) ?_
      refine m_geti (110) 9 hx hb hts hown hE oc8 hM (hG.1 110 (by decide)) rfl (by decide) rfl tb_63 dX8_metCount_6 ?_
      have g1 := hI.get (110) 9 (lo := 0) (hi := 8) rfl
      refine lv_icmp_ge (tgt := 36) hx hb dX8_metCount_9 (by decide) (fun c2 => ?_) (fun c2 => ?_)
      · have hc2 := c2
        have q2 := q_le hc2
        refine lv_iload_n hx hb dX8_metCount_36 rfl (lv_at hl 1 rfl) ?_
        exact m_iret hx hb hr hlocks hM hS (Nat.le_of_ble_eq_true rfl) (Nat.le_of_ble_eq_true rfl) ⟨rfl, (by rw [hs4]; unfold metV; rw [show (x2_4).toNatClampNeg = (cF 110 I 1 9).toNatClampNeg from congrArg Int32.toNatClampNeg (Int32.toInt_inj.mp (show (x2_4).toInt = (I 110 9).toInt by omega))])⟩ dX8_metCount_37
      · have hc2 := c2
        have q2 := q_nle hc2
        refine lv_aload_n hx hb dX8_metCount_12 rfl (lv_at hl 2 rfl) ?_
        refine lv_iload_n hx hb dX8_metCount_13 rfl (lv_at hl 0 rfl) ?_
        refine lv_iconst (v := (0)) hx hb dX8_metCount_14 (by decide) ?_
        refine m_calli (m_runV (110) (As := [.int (x2_4), .int (0)]) (rest := []) hx hb hml hown hts hE hM hS hA ce_X8_ofYard tb_884 (V_X8_ofYard_110_l l D A ad ns I L G (x2_4) (0) hG hI (by first | omega | decide) (by first | omega | decide)) rfl rfl ⟨Nat.le_of_ble_eq_true rfl, Nat.le_of_ble_eq_true rfl⟩ (hG.1 110 (by decide)) rfl rfl (by decide) rfl hl.1 rfl (Nat.le_of_ble_eq_true rfl) dX8_metCount_15 ⟨Nat.le_of_ble_eq_true rfl, Nat.le_of_ble_eq_true rfl⟩) hS (fun r3 u H locs hw hM hS => ?_)
        obtain ⟨rfl, xr3⟩ := hw
        have hM : Mem D A ad ns I L G H := hM
        rw [show (0 : Int32).toNatClampNeg = 0 from rfl, show 8 * 0 = 0 from rfl] at xr3
        refine lv_aload_n hx hb dX8_metCount_18 rfl (lv_at hl 2 rfl) ?_
        refine lv_iload_n hx hb dX8_metCount_19 rfl (lv_at hl 0 rfl) ?_
        refine lv_iconst (v := (1)) hx hb dX8_metCount_20 (by decide) ?_
        refine m_calli (m_runV (110) (As := [.int (x2_4), .int (1)]) (rest := [.int (r3)]) hx hb hml hown hts hE hM hS hA ce_X8_ofYard tb_884 (V_X8_ofYard_110_l l D A ad ns I L G (x2_4) (1) hG hI (by first | omega | decide) (by first | omega | decide)) rfl rfl ⟨Nat.le_of_ble_eq_true rfl, Nat.le_of_ble_eq_true rfl⟩ (hG.1 110 (by decide)) rfl rfl (by decide) rfl hl.1 rfl (Nat.le_of_ble_eq_true rfl) dX8_metCount_21 ⟨Nat.le_of_ble_eq_true rfl, Nat.le_of_ble_eq_true rfl⟩) hS (fun r4 u H locs hw hM hS => ?_)
        obtain ⟨rfl, xr4⟩ := hw
        have hM : Mem D A ad ns I L G H := hM
        rw [show (1 : Int32).toNatClampNeg = 1 from rfl, show 8 * 1 = 8 from rfl] at xr4
        refine lv_icmp_lt (tgt := 30) hx hb dX8_metCount_24 (by decide) (fun c5 => ?_) (fun c5 => ?_)
        · have hc5 := c5
          have q5 := q_lt hc5
          obtain ⟨v6, ev6⟩ : ∃ z : Int32, z = x2_4 + Int32.ofInt (1) := ⟨_, rfl⟩
          have tv6 := a_inc ev6 (by decide) (by omega) (by omega)
          refine lv_iinc (v := v6) (lv' := [(2, .int (v6)), (1, .int (x1_4)), (0, .ref (ad (110)))]) hx hb dX8_metCount_30 hl (k := 0) rfl ev6.symm (by decide) rfl (fun ls hl => ?_)
          refine lv_goto (tgt := 4) hx hb dX8_metCount_33 (by decide) ?_
          exact ih4 (v6) (x1_4) _ _ ls (by first | omega | decide) (by have := hI.get 110 9 (lo := 0) (hi := 8) rfl; omega) (by have y1 : (cF 110 I 23 (x2_4).toNatClampNeg).toInt = (r3).toInt := congrArg Int32.toInt (show I 118 (0 + (x2_4).toNatClampNeg) = r3 from by rw [xr3]); have y2 : (cF 110 I 22 (x2_4).toNatClampNeg).toInt = (r4).toInt := congrArg Int32.toInt (show I 118 (8 + (x2_4).toNatClampNeg) = r4 from by rw [xr4]); rw [show (v6).toNatClampNeg = (x2_4).toNatClampNeg + 1 from by have z := tn (i := x2_4) (by omega); have z2 := tn (i := v6) (by omega); omega, metN_n (by omega)]; exact hs4) (by omega) hM hS (lv_sub hl [0, 1, 2] rfl)
        · have hc5 := c5
          have q5 := q_nlt hc5
          obtain ⟨v7, ev7⟩ : ∃ z : Int32, z = x1_4 + Int32.ofInt (1) := ⟨_, rfl⟩
          refine lv_iinc (v := v7) (lv' := [(1, .int (v7)), (2, .int (x2_4)), (0, .ref (ad (110)))]) hx hb dX8_metCount_27 hl (k := 1) rfl ev7.symm (by decide) rfl (fun ls hl => ?_)
          obtain ⟨v8, ev8⟩ : ∃ z : Int32, z = x2_4 + Int32.ofInt (1) := ⟨_, rfl⟩
          have tv8 := a_inc ev8 (by decide) (by omega) (by omega)
          refine lv_iinc (v := v8) (lv' := [(2, .int (v8)), (1, .int (v7)), (0, .ref (ad (110)))]) hx hb dX8_metCount_30 hl (k := 1) rfl ev8.symm (by decide) rfl (fun ls hl => ?_)
          refine lv_goto (tgt := 4) hx hb dX8_metCount_33 (by decide) ?_
          exact ih4 (v8) (v7) _ _ ls (by first | omega | decide) (by have := hI.get 110 9 (lo := 0) (hi := 8) rfl; omega) (by have y1 : (cF 110 I 23 (x2_4).toNatClampNeg).toInt = (r3).toInt := congrArg Int32.toInt (show I 118 (0 + (x2_4).toNatClampNeg) = r3 from by rw [xr3]); have y2 : (cF 110 I 22 (x2_4).toNatClampNeg).toInt = (r4).toInt := congrArg Int32.toInt (show I 118 (8 + (x2_4).toNatClampNeg) = r4 from by rw [xr4]); rw [show (v8).toNatClampNeg = (x2_4).toNatClampNeg + 1 from by have z := tn (i := x2_4) (by omega); have z2 := tn (i := v8) (by omega); omega, metN_y (by omega), ev7, hs4]; rfl) (by omega) hM hS (lv_sub hl [0, 1, 2] rfl)
  exact loop4 (_ + 1) (0) (0) _ _ ls (by first | omega | decide) (by have := hI.get 110 9 (lo := 0) (hi := 8) rfl; omega) rfl (Nat.lt_succ_self _) hM hS (lv_sub hl [0, 1, 2] rfl)
