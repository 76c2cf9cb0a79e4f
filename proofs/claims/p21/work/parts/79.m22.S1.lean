set_option maxHeartbeats 4000000 in
set_option maxRecDepth 20000 in
theorem V_X8_mirrorsWith_100_t (l : Launch) (D : va_G) (A : Nat → Prop) (ad : Nat → Nat) (ns : List Nat) (I : MI) (L : ML) (G : MG) (a0 : Int32) (a1 : Int32) (hG : SGC ns G) (hI : INV I) (ha0 : 0 ≤ a0.toInt ∧ a0.toInt ≤ 9) : Met l yX8_mirrorsWith (wd yX8_mirrorsWith cX8_mirrorsWith 5 (some .int)) ({ frames := 1, cells := 0, slots := 0, locals := 22 }) (va_Pc [.ref (ad (100)), .int a0, .int a1] (PM D A ad ns I L G)) (va_Qi (fun r u => u = (ad, ns, I, L, G) ∧ (MWX (I 100 8).toNatClampNeg (a0).toNatClampNeg a1 r I)) (BM D A) A) 0 0 A := by
  refine m_ofW (by decide) (Nat.le_of_ble_eq_true rfl) ?_
  intro p e s m below meth c ls args hC hE hM hA hS hl
  obtain ⟨hx, hb, hml, hown, hts, hr, hlocks, hin⟩ := hC
  have k0 : (0 : Int32).toInt = 0 := by decide
  have k1 : (1 : Int32).toInt = 1 := by decide
  have hl : lv_has ls 5 [(0, .ref (ad (100))), (1, .int (a0)), (2, .int (a1))] := hl
  refine lv_iconst (v := (0)) hx hb dX8_mirrorsWith_0 (by decide) ?_
  refine lv_istore_n (lv' := [(3, .int (0)), (0, .ref (ad (100))), (1, .int (a0)), (2, .int (a1))]) hx hb dX8_mirrorsWith_1 rfl hl (by decide) rfl (fun ls hl => ?_)
  refine lv_iconst (v := (0)) hx hb dX8_mirrorsWith_2 (by decide) ?_
  refine lv_istore (lv' := [(4, .int (0)), (3, .int (0)), (0, .ref (ad (100))), (1, .int (a0)), (2, .int (a1))]) hx hb dX8_mirrorsWith_3 hl (by decide) rfl (fun ls hl => ?_)
  have loop5 : ∀ (n : Nat) (x4_5 : Int32) (x3_5 : Int32) (H : Heap) (locs : List Loc) (ls : Array Slot), (0 ≤ x4_5.toInt ∧ x4_5.toInt ≤ 24) → ((x4_5).toInt ≤ (I 100 8).toInt) → (MWX (x4_5).toNatClampNeg (a0).toNatClampNeg a1 x3_5 I) → (24 - x4_5.toInt).toNat < n → Mem D A ad ns I L G H → va_S A s.heap H locs → lv_has ls 5 [(4, .int (x4_5)), (3, .int (x3_5)), (0, .ref (ad (100))), (1, .int (a0)), (2, .int (a1))] → W p l e ({ frames := 1, cells := 0, slots := 0, locals := 22 } : Room) s m args below meth c H locs 0 0 (MQ below (va_Qi (fun r u => u = (ad, ns, I, L, G) ∧ (MWX (I 100 8).toNatClampNeg (a0).toNatClampNeg a1 r I)) (BM D A) A) args s 0 0 A) (F0 m 5 ls []) := by
    intro n
    induction n with
    | zero =>
      intro x4_5 x3_5 H locs ls hr4_5 hle5 hm5 hmu
      exact absurd hmu (Nat.not_lt_zero _)
    | succ n ih5 =>
      intro x4_5 x3_5 H locs ls hr4_5 hle5 hm5 hmu5 hM hS hl
      refine lv_iload hx hb dX8_mirrorsWith_5 (lv_at hl 0 rfl) ?_
      refine lv_aload_n hx hb dX8_mirrorsWith_7 rfl (lv_at hl 2 rfl) ?_
      refine m_geti (100) 8 hx hb hts hown hE oc8 hM (hG.1 100 (by decide)) rfl (by decide) rfl tb_59 dX8_mirrorsWith_8 ?_
      have g1 := hI.get (100) 8 (lo := 0) (hi := 24) rfl
      refine lv_icmp_ge (tgt := 38) hx hb dX8_mirrorsWith_11 (by decide) (fun c2 => ?_) (fun c2 => ?_)
      · have hc2 := c2
        have q2 := q_le hc2
        refine lv_iload_n hx hb dX8_mirrorsWith_38 rfl (lv_at hl 1 rfl) ?_
        exact m_iret hx hb hr hlocks hM hS (Nat.le_of_ble_eq_true rfl) (Nat.le_of_ble_eq_true rfl) ⟨rfl, (by rw [show (I 100 8).toNatClampNeg = (x4_5).toNatClampNeg from congrArg Int32.toNatClampNeg (Int32.toInt_inj.mp (by omega))]; exact hm5)⟩ dX8_mirrorsWith_39
      · have hc2 := c2
        have q2 := q_nle hc2
        refine lv_aload_n hx hb dX8_mirrorsWith_14 rfl (lv_at hl 2 rfl) ?_
        refine lv_iload hx hb dX8_mirrorsWith_15 (lv_at hl 0 rfl) ?_
        refine lv_iload_n hx hb dX8_mirrorsWith_17 rfl (lv_at hl 3 rfl) ?_
        refine m_calli (m_runV (100) (As := [.int (x4_5), .int (a0)]) (rest := []) hx hb hml hown hts hE hM hS hA ce_X8_ofMirror tb_792 (V_X8_ofMirror_100_t l D A ad ns I L G (x4_5) (a0) hG hI (by first | omega | decide) (by first | omega | decide)) rfl rfl ⟨Nat.le_of_ble_eq_true rfl, Nat.le_of_ble_eq_true rfl⟩ (hG.1 100 (by decide)) rfl rfl (by decide) rfl hl.1 rfl (Nat.le_of_ble_eq_true rfl) dX8_mirrorsWith_18 ⟨Nat.le_of_ble_eq_true rfl, Nat.le_of_ble_eq_true rfl⟩) hS (fun r3 u H locs hw hM hS => ?_)
        obtain ⟨rfl, xr3⟩ := hw
        have hM : Mem D A ad ns I L G H := hM
        refine lv_iload_n hx hb dX8_mirrorsWith_21 rfl (lv_at hl 4 rfl) ?_
        refine lv_icmp_ne (tgt := 32) hx hb dX8_mirrorsWith_22 (by decide) (fun c4 => ?_) (fun c4 => ?_)
        · have hc4 := c4
          have q4 := q_ne hc4
          obtain ⟨v5, ev5⟩ : ∃ z : Int32, z = x4_5 + Int32.ofInt (1) := ⟨_, rfl⟩
          have tv5 := a_inc ev5 (by decide) (by omega) (by omega)
          refine lv_iinc (v := v5) (lv' := [(4, .int (v5)), (3, .int (x3_5)), (0, .ref (ad (100))), (1, .int (a0)), (2, .int (a1))]) hx hb dX8_mirrorsWith_32 hl (k := 0) rfl ev5.symm (by decide) rfl (fun ls hl => ?_)
          refine lv_goto (tgt := 5) hx hb dX8_mirrorsWith_35 (by decide) ?_
          exact ih5 (v5) (x3_5) _ _ ls (by first | omega | decide) (by omega) (by rw [show (v5).toNatClampNeg = (x4_5).toNatClampNeg + 1 from by have z1 := tn (i := x4_5) (by omega); have z2 := tn (i := v5) (by omega); omega]; exact hm5.n (by rw [← xr3]; exact c4)) (by omega) hM hS (lv_sub hl [0, 1, 2, 3, 4] rfl)
        · have hc4 := c4
          have q4 := q_eq hc4
          refine lv_iload_n hx hb dX8_mirrorsWith_25 rfl (lv_at hl 1 rfl) ?_
          refine lv_iconst (v := (1)) hx hb dX8_mirrorsWith_26 (by decide) ?_
          refine lv_iload hx hb dX8_mirrorsWith_27 (lv_at hl 0 rfl) ?_
          refine lv_ishl hx hb dX8_mirrorsWith_29 ?_
          refine lv_topi (fun v6 ev6 => ?_)
          refine lv_ior hx hb dX8_mirrorsWith_30 ?_
          refine lv_topi (fun v7 ev7 => ?_)
          refine lv_istore_n (lv' := [(3, .int (v7)), (4, .int (x4_5)), (0, .ref (ad (100))), (1, .int (a0)), (2, .int (a1))]) hx hb dX8_mirrorsWith_31 rfl hl (by decide) rfl (fun ls hl => ?_)
          obtain ⟨v8, ev8⟩ : ∃ z : Int32, z = x4_5 + Int32.ofInt (1) := ⟨_, rfl⟩
          have tv8 := a_inc ev8 (by decide) (by omega) (by omega)
          refine lv_iinc (v := v8) (lv' := [(4, .int (v8)), (3, .int (v7)), (0, .ref (ad (100))), (1, .int (a0)), (2, .int (a1))]) hx hb dX8_mirrorsWith_32 hl (k := 1) rfl ev8.symm (by decide) rfl (fun ls hl => ?_)
          refine lv_goto (tgt := 5) hx hb dX8_mirrorsWith_35 (by decide) ?_
          exact ih5 (v8) (v7) _ _ ls (by first | omega | decide) (by omega) (by rw [show (v8).toNatClampNeg = (x4_5).toNatClampNeg + 1 from by have z1 := tn (i := x4_5) (by omega); have z2 := tn (i := v8) (by omega); omega]; subst ev6; subst ev7; exact hm5.y (k := x4_5) (by rw [← xr3]; exact c4) rfl (by omega)) (by omega) hM hS (lv_sub hl [0, 1, 2, 3, 4] rfl)
  exact loop5 (_ + 1) (0) (0) _ _ ls (by first | omega | decide) (by have := hI.get 100 8 (lo := 0) (hi := 24) rfl; omega) MWX.z (Nat.lt_succ_self _) hM hS (lv_sub hl [0, 1, 2, 3, 4] rfl)
set_option maxHeartbeats 4000000 in
set_option maxRecDepth 20000 in
theorem V_X8_setBroken_100_t (l : Launch) (D : va_G) (A : Nat → Prop) (ad : Nat → Nat) (ns : List Nat) (I : MI) (L : ML) (G : MG) (a0 : Int32) (a1 : Int32) (hG : SGC ns G) (hI : INV I) : Met l yX8_setBroken (wd yX8_setBroken cX8_setBroken 4 none) ({ frames := 1, cells := 0, slots := 0, locals := 23 }) (va_Pc [.ref (ad (100)), .int a0, .int a1] (PM D A ad ns I L G)) (va_Qv (fun u => ∃ I2 L2, u = (ad, ns, I2, L2, G) ∧ INV I2 ∧ Kp [(107, 108)] [] I I2 ∧ (SBK (I 100 8).toNatClampNeg a0 a1 I I2 ∧ I2 100 8 = I 100 8)) (BM D A) A) 0 0 A := by
  refine m_ofW (by decide) (Nat.le_of_ble_eq_true rfl) ?_
  intro p e s m below meth c ls args hC hE hM hA hS hl
  obtain ⟨hx, hb, hml, hown, hts, hr, hlocks, hin⟩ := hC
  have k0 : (0 : Int32).toInt = 0 := by decide
  have k1 : (1 : Int32).toInt = 1 := by decide
  have k8 : (8 : Int32).toInt = 8 := by decide
  have hK : Kp [(107, 108)] [] I I := Kp.rf
  have hl : lv_has ls 4 [(0, .ref (ad (100))), (1, .int (a0)), (2, .int (a1))] := hl
  refine lv_iconst (v := (0)) hx hb dX8_setBroken_0 (by decide) ?_
  refine lv_istore_n (lv' := [(3, .int (0)), (0, .ref (ad (100))), (1, .int (a0)), (2, .int (a1))]) hx hb dX8_setBroken_1 rfl hl (by decide) rfl (fun ls hl => ?_)
  have loop2 : ∀ (n : Nat) (x3_2 : Int32) (Ia2 : MI) (La2 : ML) (H : Heap) (locs : List Loc) (ls : Array Slot), INV Ia2 → Kp [(107, 108)] [] I Ia2 → (0 ≤ x3_2.toInt ∧ x3_2.toInt ≤ 24) → ((x3_2).toInt ≤ (I 100 8).toInt) → (Ia2 100 8 = I 100 8) → (SBK (x3_2).toNatClampNeg a0 a1 I Ia2) → (24 - x3_2.toInt).toNat < n → Mem D A ad ns Ia2 La2 G H → va_S A s.heap H locs → lv_has ls 4 [(3, .int (x3_2)), (0, .ref (ad (100))), (1, .int (a0)), (2, .int (a1))] → W p l e ({ frames := 1, cells := 0, slots := 0, locals := 23 } : Room) s m args below meth c H locs 0 0 (MQ below (va_Qv (fun u => ∃ I2 L2, u = (ad, ns, I2, L2, G) ∧ INV I2 ∧ Kp [(107, 108)] [] I I2 ∧ (SBK (I 100 8).toNatClampNeg a0 a1 I I2 ∧ I2 100 8 = I 100 8)) (BM D A) A) args s 0 0 A) (F0 m 2 ls []) := by
    intro n
    induction n with
    | zero =>
      intro x3_2 Ia2 La2 H locs ls hI hK hr3_2 hle2 h82 hb2 hmu
      exact absurd hmu (Nat.not_lt_zero _)
    | succ n ih2 =>
      intro x3_2 Ia2 La2 H locs ls hI hK hr3_2 hle2 h82 hb2 hmu2 hM hS hl
      have hz82 := congrArg Int32.toInt h82
      refine lv_iload_n hx hb dX8_setBroken_2 rfl (lv_at hl 0 rfl) ?_
      refine lv_aload_n hx hb dX8_setBroken_3 rfl (lv_at hl 1 rfl) ?_
      refine m_geti (100) 8 hx hb hts hown hE oc8 hM (hG.1 100 (by decide)) rfl (by decide) rfl tb_59 dX8_setBroken_4 ?_
      have g1 := hI.get (100) 8 (lo := 0) (hi := 24) rfl
      refine lv_icmp_ge (tgt := 33) hx hb dX8_setBroken_7 (by decide) (fun c2 => ?_) (fun c2 => ?_)
      · have hc2 := c2
        have q2 := q_le hc2
        exact m_vret hx hb hr hlocks hM hS (Nat.le_of_ble_eq_true rfl) (Nat.le_of_ble_eq_true rfl) ⟨_, _, rfl, hI, hK, ⟨by rw [show (I 100 8).toNatClampNeg = (x3_2).toNatClampNeg from congrArg Int32.toNatClampNeg (Int32.toInt_inj.mp (by have hz := congrArg Int32.toInt h82; omega))]; exact hb2, h82⟩⟩ dX8_setBroken_33
      · have hc2 := c2
        have q2 := q_nle hc2
        refine lv_iload_n hx hb dX8_setBroken_10 rfl (lv_at hl 2 rfl) ?_
        refine lv_iload_n hx hb dX8_setBroken_11 rfl (lv_at hl 0 rfl) ?_
        refine lv_ishr hx hb dX8_setBroken_12 ?_
        refine lv_topi (fun v3 ev3 => ?_)
        refine lv_iconst (v := (1)) hx hb dX8_setBroken_13 (by decide) ?_
        refine lv_iand hx hb dX8_setBroken_14 ?_
        refine lv_topi (fun v4 ev4 => ?_)
        have tv4 := a_and (c := 1) ev4 (by decide) (by decide)
        refine lv_iconst (v := (1)) hx hb dX8_setBroken_15 (by decide) ?_
        refine lv_icmp_ne (tgt := 27) hx hb dX8_setBroken_16 (by decide) (fun c5 => ?_) (fun c5 => ?_)
        · have hc5 := c5
          have q5 := q_ne hc5
          obtain ⟨v6, ev6⟩ : ∃ z : Int32, z = x3_2 + Int32.ofInt (1) := ⟨_, rfl⟩
          have tv6 := a_inc ev6 (by decide) (by omega) (by omega)
          refine lv_iinc (v := v6) (lv' := [(3, .int (v6)), (0, .ref (ad (100))), (1, .int (a0)), (2, .int (a1))]) hx hb dX8_setBroken_27 hl (k := 0) rfl ev6.symm (by decide) rfl (fun ls hl => ?_)
          refine lv_goto (tgt := 2) hx hb dX8_setBroken_30 (by decide) ?_
          exact ih2 (v6) Ia2 La2 _ _ ls hI hK (by first | omega | decide) (by omega) (h82) (by rw [show (v6).toNatClampNeg = (x3_2).toNatClampNeg + 1 from by have z1 := tn (i := x3_2) (by omega); have z2 := tn (i := v6) (by omega); omega]; exact hb2.n (fun z => c5 (by rw [ev4, ev3]; exact (bit_t (by omega) (by omega)).mpr z))) (by omega) hM hS (lv_sub hl [0, 1, 2, 3] rfl)
        · have hc5 := c5
          have q5 := q_eq hc5
          refine lv_aload_n hx hb dX8_setBroken_19 rfl (lv_at hl 1 rfl) ?_
          refine lv_iload_n hx hb dX8_setBroken_20 rfl (lv_at hl 0 rfl) ?_
          refine lv_bipush (v := (8)) hx hb dX8_setBroken_21 (by decide) ?_
          refine lv_iload_n hx hb dX8_setBroken_23 rfl (lv_at hl 3 rfl) ?_
          refine m_callv (m_runV (100) (As := [.int (x3_2), .int (8), .int (a1)]) (rest := []) hx hb hml hown hts hE hM hS hA ce_X8_setMirror tb_499 (V_X8_setMirror_100_t l D A ad ns Ia2 La2 G (x3_2) (8) (a1) hG hI (by first | omega | decide) (by first | omega | decide)) rfl rfl ⟨Nat.le_of_ble_eq_true rfl, Nat.le_of_ble_eq_true rfl⟩ (hG.1 100 (by decide)) rfl rfl (by decide) rfl hl.1 rfl (Nat.le_of_ble_eq_true rfl) dX8_setBroken_24 ⟨Nat.le_of_ble_eq_true rfl, Nat.le_of_ble_eq_true rfl⟩) hS (fun u H locs hw hM hS => ?_)
          obtain ⟨I7, L8, rfl, hI, hkI7, xI7⟩ := hw
          have hM : Mem D A ad ns I7 L8 G H := hM
          have hK := hK.trans hkI7 rfl
          obtain ⟨v9, ev9⟩ : ∃ z : Int32, z = x3_2 + Int32.ofInt (1) := ⟨_, rfl⟩
          have tv9 := a_inc ev9 (by decide) (by omega) (by omega)
          refine lv_iinc (v := v9) (lv' := [(3, .int (v9)), (0, .ref (ad (100))), (1, .int (a0)), (2, .int (a1))]) hx hb dX8_setBroken_27 hl (k := 0) rfl ev9.symm (by decide) rfl (fun ls hl => ?_)
          refine lv_goto (tgt := 2) hx hb dX8_setBroken_30 (by decide) ?_
          exact ih2 (v9) I7 L8 _ _ ls hI hK (by first | omega | decide) (by omega) (((hkI7.get (100) 8 rfl)).trans h82) (by rw [show (v9).toNatClampNeg = (x3_2).toNatClampNeg + 1 from by have z1 := tn (i := x3_2) (by omega); have z2 := tn (i := v9) (by omega); omega]; exact hb2.y ((bit_t (by omega) (by omega)).mp (by rw [← ev3, ← ev4]; exact c5)) xI7) (by omega) hM hS (lv_sub hl [0, 1, 2, 3] rfl)
  exact loop2 (_ + 1) (0) I L _ _ ls hI hK (by first | omega | decide) (by have := hI.get 100 8 (lo := 0) (hi := 24) rfl; omega) rfl SBK.z (Nat.lt_succ_self _) hM hS (lv_sub hl [0, 1, 2, 3] rfl)
set_option maxHeartbeats 4000000 in
set_option maxRecDepth 20000 in
theorem V_X9_worthOfSet_t (l : Launch) (D : va_G) (A : Nat → Prop) (ad : Nat → Nat) (ns : List Nat) (I : MI) (L : ML) (G : MG) (a0 : Int32) (a1 : Int32) (hG : SGC ns G) (hI : INV I) (hlit : Lit 100 I a0) (ha0 : 0 ≤ a0.toInt ∧ a0.toInt ≤ 23) : Met l yX9_worthOfSet (wd yX9_worthOfSet cX9_worthOfSet 5 (some .int)) ({ frames := 4, cells := 0, slots := 0, locals := 107 }) (va_Pc [.ref (ad (0)), .int a0, .int a1] (PM D A ad ns I L G)) (va_Qi (fun r u => ∃ I2 L2, u = (ad, ns, I2, L2, G) ∧ INV I2 ∧ Kp [(11, 15), (107, 108)] [(10, 2), (10, 3), (10, 4), (10, 5), (10, 6), (10, 7), (10, 11), (10, 12)] I I2 ∧ (KV 100 I I2)) (BM D A) A) 0 0 A := by
  refine m_ofW (by decide) (Nat.le_of_ble_eq_true rfl) ?_
  intro p e s m below meth c ls args hC hE hM hA hS hl
  obtain ⟨hx, hb, hml, hown, hts, hr, hlocks, hin⟩ := hC
  have k0 : (0 : Int32).toInt = 0 := by decide
  have k1 : (1 : Int32).toInt = 1 := by decide
  have k8 : (8 : Int32).toInt = 8 := by decide
  have hK : Kp [(11, 15), (107, 108)] [(10, 2), (10, 3), (10, 4), (10, 5), (10, 6), (10, 7), (10, 11), (10, 12)] I I := Kp.rf
  have hl : lv_has ls 5 [(0, .ref (ad (0))), (1, .int (a0)), (2, .int (a1))] := hl
  refine lv_aload_n hx hb dX9_worthOfSet_0 rfl (lv_at hl 0 rfl) ?_
  refine m_getr (0) 3 (10) hx hb hts hown hE oc9 hM (hG.1 0 (by decide)) rfl (by decide) rfl (hG.2 (0, 3, 10) (by decide)) (by decide) tb_401 dX9_worthOfSet_1 ?_
  refine lv_aload_n hx hb dX9_worthOfSet_4 rfl (lv_at hl 0 rfl) ?_
  refine m_getr (0) 0 (100) hx hb hts hown hE oc9 hM (hG.1 0 (by decide)) rfl (by decide) rfl (hG.2 (0, 0, 100) (by decide)) (by decide) tb_398 dX9_worthOfSet_5 ?_
  refine lv_iload_n hx hb dX9_worthOfSet_8 rfl (lv_at hl 1 rfl) ?_
  refine m_callv (m_runV (10) (As := [.ref (ad (100)), .int (a0)]) (rest := []) hx hb hml hown hts hE hM hS hA ce_X1_shine tb_907 (V_X1_shine_100 l D A ad ns I L G (a0) hG hI (hlit.kp hK rfl) (by first | omega | decide)) rfl rfl ⟨Nat.le_of_ble_eq_true rfl, Nat.le_of_ble_eq_true rfl⟩ (hG.1 10 (by decide)) rfl rfl (by decide) rfl hl.1 rfl (Nat.le_of_ble_eq_true rfl) dX9_worthOfSet_9 ⟨Nat.le_of_ble_eq_true rfl, Nat.le_of_ble_eq_true rfl⟩) hS (fun u H locs hw hM hS => ?_)
  obtain ⟨I1, L2, rfl, hI, hkI1⟩ := hw
  have hM : Mem D A ad ns I1 L2 G H := hM
  have hK := hK.trans hkI1 rfl
  refine lv_aload_n hx hb dX9_worthOfSet_12 rfl (lv_at hl 0 rfl) ?_
  refine m_getr (0) 3 (10) hx hb hts hown hE oc9 hM (hG.1 0 (by decide)) rfl (by decide) rfl (hG.2 (0, 3, 10) (by decide)) (by decide) tb_401 dX9_worthOfSet_13 ?_
  refine m_calli (m_runV (10) (As := []) (rest := []) hx hb hml hown hts hE hM hS hA ce_X1_total tb_913 (V_X1_total l D A ad ns I1 L2 G hG hI) rfl rfl ⟨Nat.le_of_ble_eq_true rfl, Nat.le_of_ble_eq_true rfl⟩ (hG.1 10 (by decide)) rfl rfl (by decide) rfl hl.1 rfl (Nat.le_of_ble_eq_true rfl) dX9_worthOfSet_16 ⟨Nat.le_of_ble_eq_true rfl, Nat.le_of_ble_eq_true rfl⟩) hS (fun r3 u H locs hw hM hS => ?_)
  obtain ⟨rfl, xr3⟩ := hw
  have hM : Mem D A ad ns I1 L2 G H := hM
  refine lv_istore_n (lv' := [(3, .int (r3)), (0, .ref (ad (0))), (1, .int (a0)), (2, .int (a1))]) hx hb dX9_worthOfSet_19 rfl hl (by decide) rfl (fun ls hl => ?_)
  refine lv_iload_n hx hb dX9_worthOfSet_20 rfl (lv_at hl 3 rfl) ?_
  refine lv_aload_n hx hb dX9_worthOfSet_21 rfl (lv_at hl 1 rfl) ?_
  refine m_getr (0) 0 (100) hx hb hts hown hE oc9 hM (hG.1 0 (by decide)) rfl (by decide) rfl (hG.2 (0, 0, 100) (by decide)) (by decide) tb_398 dX9_worthOfSet_22 ?_
  refine lv_bipush (v := (8)) hx hb dX9_worthOfSet_25 (by decide) ?_
  refine lv_iconst (v := (0)) hx hb dX9_worthOfSet_27 (by decide) ?_
  have hIj := hI
  refine m_calli (m_runV (100) (As := [.int (8), .int (0)]) (rest := [.int (a1)]) hx hb hml hown hts hE hM hS hA ce_X8_mirrorsWith tb_940 (V_X8_mirrorsWith_100_t l D A ad ns I1 L2 G (8) (0) hG hI (by first | omega | decide)) rfl rfl ⟨Nat.le_of_ble_eq_true rfl, Nat.le_of_ble_eq_true rfl⟩ (hG.1 100 (by decide)) rfl rfl (by decide) rfl hl.1 rfl (Nat.le_of_ble_eq_true rfl) dX9_worthOfSet_28 ⟨Nat.le_of_ble_eq_true rfl, Nat.le_of_ble_eq_true rfl⟩) hS (fun r4 u H locs hw hM hS => ?_)
  obtain ⟨rfl, xr4⟩ := hw
  have hM : Mem D A ad ns I1 L2 G H := hM
  have hmw : MWX (I1 100 8).toNatClampNeg 8 0 r4 I1 := xr4
  refine lv_iand hx hb dX9_worthOfSet_31 ?_
  refine lv_topi (fun v5 ev5 => ?_)
  refine lv_istore (lv' := [(4, .int (v5)), (3, .int (r3)), (0, .ref (ad (0))), (1, .int (a0)), (2, .int (a1))]) hx hb dX9_worthOfSet_32 hl (by decide) rfl (fun ls hl => ?_)
  refine lv_aload_n hx hb dX9_worthOfSet_34 rfl (lv_at hl 2 rfl) ?_
  refine m_getr (0) 0 (100) hx hb hts hown hE oc9 hM (hG.1 0 (by decide)) rfl (by decide) rfl (hG.2 (0, 0, 100) (by decide)) (by decide) tb_398 dX9_worthOfSet_35 ?_
  refine lv_iload hx hb dX9_worthOfSet_38 (lv_at hl 0 rfl) ?_
  refine lv_iconst (v := (1)) hx hb dX9_worthOfSet_40 (by decide) ?_
  refine m_callv (m_runV (100) (As := [.int (v5), .int (1)]) (rest := []) hx hb hml hown hts hE hM hS hA ce_X8_setBroken tb_944 (V_X8_setBroken_100_t l D A ad ns I1 L2 G (v5) (1) hG hI) rfl rfl ⟨Nat.le_of_ble_eq_true rfl, Nat.le_of_ble_eq_true rfl⟩ (hG.1 100 (by decide)) rfl rfl (by decide) rfl hl.1 rfl (Nat.le_of_ble_eq_true rfl) dX9_worthOfSet_41 ⟨Nat.le_of_ble_eq_true rfl, Nat.le_of_ble_eq_true rfl⟩) hS (fun u H locs hw hM hS => ?_)
  obtain ⟨I6, L7, rfl, hI, hkI6, xI6⟩ := hw
  have hM : Mem D A ad ns I6 L7 G H := hM
  have hK := hK.trans hkI6 rfl
  refine lv_aload_n hx hb dX9_worthOfSet_44 rfl (lv_at hl 2 rfl) ?_
  refine m_getr (0) 3 (10) hx hb hts hown hE oc9 hM (hG.1 0 (by decide)) rfl (by decide) rfl (hG.2 (0, 3, 10) (by decide)) (by decide) tb_401 dX9_worthOfSet_45 ?_
  refine lv_aload_n hx hb dX9_worthOfSet_48 rfl (lv_at hl 2 rfl) ?_
  refine m_getr (0) 0 (100) hx hb hts hown hE oc9 hM (hG.1 0 (by decide)) rfl (by decide) rfl (hG.2 (0, 0, 100) (by decide)) (by decide) tb_398 dX9_worthOfSet_49 ?_
  refine lv_iload_n hx hb dX9_worthOfSet_52 rfl (lv_at hl 3 rfl) ?_
  refine m_callv (m_runV (10) (As := [.ref (ad (100)), .int (a0)]) (rest := []) hx hb hml hown hts hE hM hS hA ce_X1_shine tb_907 (V_X1_shine_100 l D A ad ns I6 L7 G (a0) hG hI (hlit.kp hK rfl) (by first | omega | decide)) rfl rfl ⟨Nat.le_of_ble_eq_true rfl, Nat.le_of_ble_eq_true rfl⟩ (hG.1 10 (by decide)) rfl rfl (by decide) rfl hl.1 rfl (Nat.le_of_ble_eq_true rfl) dX9_worthOfSet_53 ⟨Nat.le_of_ble_eq_true rfl, Nat.le_of_ble_eq_true rfl⟩) hS (fun u H locs hw hM hS => ?_)
  obtain ⟨I8, L9, rfl, hI, hkI8⟩ := hw
  have hM : Mem D A ad ns I8 L9 G H := hM
  have hK := hK.trans hkI8 rfl
  refine lv_aload_n hx hb dX9_worthOfSet_56 rfl (lv_at hl 2 rfl) ?_
  refine m_getr (0) 0 (100) hx hb hts hown hE oc9 hM (hG.1 0 (by decide)) rfl (by decide) rfl (hG.2 (0, 0, 100) (by decide)) (by decide) tb_398 dX9_worthOfSet_57 ?_
  refine lv_iload hx hb dX9_worthOfSet_60 (lv_at hl 0 rfl) ?_
  refine lv_iconst (v := (0)) hx hb dX9_worthOfSet_62 (by decide) ?_
  refine m_callv (m_runV (100) (As := [.int (v5), .int (0)]) (rest := []) hx hb hml hown hts hE hM hS hA ce_X8_setBroken tb_944 (V_X8_setBroken_100_t l D A ad ns I8 L9 G (v5) (0) hG hI) rfl rfl ⟨Nat.le_of_ble_eq_true rfl, Nat.le_of_ble_eq_true rfl⟩ (hG.1 100 (by decide)) rfl rfl (by decide) rfl hl.1 rfl (Nat.le_of_ble_eq_true rfl) dX9_worthOfSet_63 ⟨Nat.le_of_ble_eq_true rfl, Nat.le_of_ble_eq_true rfl⟩) hS (fun u H locs hw hM hS => ?_)
  obtain ⟨I10, L11, rfl, hI, hkI10, xI10⟩ := hw
  have hM : Mem D A ad ns I10 L11 G H := hM
  have hK := hK.trans hkI10 rfl
  have hsb1 : SBK (I1 100 8).toNatClampNeg (v5) 1 I1 I8 := (xI6.1.nk hkI8 rfl)
  have hm82 : (I8 100 8).toNatClampNeg = (I1 100 8).toNatClampNeg := congrArg Int32.toNatClampNeg ((hkI8.get 100 8 rfl).trans xI6.2)
  have hkv : KV 100 I1 I10 := SBK.bk hsb1 xI10.1 hm82 (by have g := hIj.get 100 8 (lo := 0) (hi := 24) rfl; have z := tn (i := I1 100 8) (by omega); omega) ev5 hmw rfl
  refine lv_iload_n hx hb dX9_worthOfSet_66 rfl (lv_at hl 1 rfl) ?_
  refine lv_aload_n hx hb dX9_worthOfSet_67 rfl (lv_at hl 2 rfl) ?_
  refine m_getr (0) 3 (10) hx hb hts hown hE oc9 hM (hG.1 0 (by decide)) rfl (by decide) rfl (hG.2 (0, 3, 10) (by decide)) (by decide) tb_401 dX9_worthOfSet_68 ?_
  refine m_calli (m_runV (10) (As := []) (rest := [.int (r3)]) hx hb hml hown hts hE hM hS hA ce_X1_total tb_913 (V_X1_total l D A ad ns I10 L11 G hG hI) rfl rfl ⟨Nat.le_of_ble_eq_true rfl, Nat.le_of_ble_eq_true rfl⟩ (hG.1 10 (by decide)) rfl rfl (by decide) rfl hl.1 rfl (Nat.le_of_ble_eq_true rfl) dX9_worthOfSet_71 ⟨Nat.le_of_ble_eq_true rfl, Nat.le_of_ble_eq_true rfl⟩) hS (fun r12 u H locs hw hM hS => ?_)
  obtain ⟨rfl, xr12⟩ := hw
  have hM : Mem D A ad ns I10 L11 G H := hM
  refine lv_isub hx hb dX9_worthOfSet_74 ?_
  refine lv_topi (fun v13 ev13 => ?_)
  exact m_iret hx hb hr hlocks hM hS (Nat.le_of_ble_eq_true rfl) (Nat.le_of_ble_eq_true rfl) ⟨_, _, rfl, hI, hK, ((EqV.rf.nk hkI1 rfl).tr hkv)⟩ dX9_worthOfSet_75
set_option maxHeartbeats 4000000 in
set_option maxRecDepth 20000 in
theorem V_X9_worth_t (l : Launch) (D : va_G) (A : Nat → Prop) (ad : Nat → Nat) (ns : List Nat) (I : MI) (L : ML) (G : MG) (a0 : Int32) (a1 : Int32) (hG : SGC ns G) (hI : INV I) : Met l yX9_worth (wd yX9_worth cX9_worth 3 (some .int)) ({ frames := 5, cells := 0, slots := 0, locals := 131 }) (va_Pc [.ref (ad (0)), .int a0, .int a1] (PM D A ad ns I L G)) (va_Qi (fun r u => ∃ I2 L2, u = (ad, ns, I2, L2, G) ∧ INV I2 ∧ Kp [(11, 15), (107, 108)] [(10, 2), (10, 3), (10, 4), (10, 5), (10, 6), (10, 7), (10, 11), (10, 12)] I I2 ∧ (KV 100 I I2)) (BM D A) A) 0 0 A := by
  refine m_ofW (by decide) (Nat.le_of_ble_eq_true rfl) ?_
  intro p e s m below meth c ls args hC hE hM hA hS hl
  obtain ⟨hx, hb, hml, hown, hts, hr, hlocks, hin⟩ := hC
  have km1000000 : (-1000000 : Int32).toInt = -1000000 := by decide
  have k0 : (0 : Int32).toInt = 0 := by decide
  have k1 : (1 : Int32).toInt = 1 := by decide
  have hK : Kp [(11, 15), (107, 108)] [(10, 2), (10, 3), (10, 4), (10, 5), (10, 6), (10, 7), (10, 11), (10, 12)] I I := Kp.rf
  have hl : lv_has ls 3 [(0, .ref (ad (0))), (1, .int (a0)), (2, .int (a1))] := hl
  refine lv_aload_n hx hb dX9_worth_0 rfl (lv_at hl 0 rfl) ?_
  refine m_getr (0) 0 (100) hx hb hts hown hE oc9 hM (hG.1 0 (by decide)) rfl (by decide) rfl (hG.2 (0, 0, 100) (by decide)) (by decide) tb_398 dX9_worth_1 ?_
  refine lv_iload_n hx hb dX9_worth_4 rfl (lv_at hl 1 rfl) ?_
  refine m_calli (m_runV (100) (As := [.int (a0)]) (rest := []) hx hb hml hown hts hE hM hS hA ce_X8_isLit tb_906 (V_X8_isLit_100 l D A ad ns I L G (a0) hG hI) rfl rfl ⟨Nat.le_of_ble_eq_true rfl, Nat.le_of_ble_eq_true rfl⟩ (hG.1 100 (by decide)) rfl rfl (by decide) rfl hl.1 rfl (Nat.le_of_ble_eq_true rfl) dX9_worth_5 ⟨Nat.le_of_ble_eq_true rfl, Nat.le_of_ble_eq_true rfl⟩) hS (fun r1 u H locs hw hM hS => ?_)
  obtain ⟨rfl, xr1⟩ := hw
  have hM : Mem D A ad ns I L G H := hM
  have yr1 := bo01 xr1
  refine lv_if_eq (tgt := 22) hx hb dX9_worth_8 (by decide) (fun c2 => ?_) (fun c2 => ?_)
  · have hc2 := c2
    have q2 := xr1.f hc2
    refine lv_ldcw (v := (-1000000)) hx hb hown (hts _ tb_935) dX9_worth_22 ?_
    exact m_iret hx hb hr hlocks hM hS (Nat.le_of_ble_eq_true rfl) (Nat.le_of_ble_eq_true rfl) ⟨_, _, rfl, hI, hK, EqV.rf⟩ dX9_worth_25
  · have hc2 := c2
    have q2 := xr1.t hc2
    have lh2 := q2.2.1
    refine lv_aload_n hx hb dX9_worth_11 rfl (lv_at hl 0 rfl) ?_
    refine m_getr (0) 0 (100) hx hb hts hown hE oc9 hM (hG.1 0 (by decide)) rfl (by decide) rfl (hG.2 (0, 0, 100) (by decide)) (by decide) tb_398 dX9_worth_12 ?_
    refine lv_iload_n hx hb dX9_worth_15 rfl (lv_at hl 2 rfl) ?_
    refine m_calli (m_runV (100) (As := [.int (a1)]) (rest := []) hx hb hml hown hts hE hM hS hA ce_X8_hasMirror tb_508 (V_X8_hasMirror_100 l D A ad ns I L G (a1) hG hI) rfl rfl ⟨Nat.le_of_ble_eq_true rfl, Nat.le_of_ble_eq_true rfl⟩ (hG.1 100 (by decide)) rfl rfl (by decide) rfl hl.1 rfl (Nat.le_of_ble_eq_true rfl) dX9_worth_16 ⟨Nat.le_of_ble_eq_true rfl, Nat.le_of_ble_eq_true rfl⟩) hS (fun r3 u H locs hw hM hS => ?_)
    obtain ⟨rfl, xr3⟩ := hw
    have hM : Mem D A ad ns I L G H := hM
    have yr3 := bo01 xr3
    have g4 := hI.get 100 8 (lo := 0) (hi := 24) rfl
    refine lv_if_ne (tgt := 26) hx hb dX9_worth_19 (by decide) (fun c5 => ?_) (fun c5 => ?_)
    · have hc5 := c5
      have q5 := xr3.t hc5
      refine lv_aload_n hx hb dX9_worth_26 rfl (lv_at hl 0 rfl) ?_
      refine lv_iload_n hx hb dX9_worth_27 rfl (lv_at hl 1 rfl) ?_
      refine lv_iconst (v := (1)) hx hb dX9_worth_28 (by decide) ?_
      refine lv_iload_n hx hb dX9_worth_29 rfl (lv_at hl 2 rfl) ?_
      refine lv_ishl hx hb dX9_worth_30 ?_
      refine lv_topi (fun v6 ev6 => ?_)
      refine m_calli (m_runV (0) (As := [.int (a0), .int (v6)]) (rest := []) hx hb hml hown hts hE hM hS hA ce_X9_worthOfSet tb_936 (V_X9_worthOfSet_t l D A ad ns I L G (a0) (v6) hG hI (q2.2) (by first | omega | decide)) rfl rfl ⟨Nat.le_of_ble_eq_true rfl, Nat.le_of_ble_eq_true rfl⟩ (hG.1 0 (by decide)) rfl rfl (by decide) rfl hl.1 rfl (Nat.le_of_ble_eq_true rfl) dX9_worth_31 ⟨Nat.le_of_ble_eq_true rfl, Nat.le_of_ble_eq_true rfl⟩) hS (fun r7 u H locs hw hM hS => ?_)
      obtain ⟨I8, L9, rfl, hI, hkI8, xr7⟩ := hw
      have hM : Mem D A ad ns I8 L9 G H := hM
      have hK := hK.trans hkI8 rfl
      exact m_iret hx hb hr hlocks hM hS (Nat.le_of_ble_eq_true rfl) (Nat.le_of_ble_eq_true rfl) ⟨_, _, rfl, hI, hK, (EqV.rf.tr xr7)⟩ dX9_worth_34
    · have hc5 := c5
      have q5 := xr3.f hc5
      refine lv_ldcw (v := (-1000000)) hx hb hown (hts _ tb_935) dX9_worth_22 ?_
      exact m_iret hx hb hr hlocks hM hS (Nat.le_of_ble_eq_true rfl) (Nat.le_of_ble_eq_true rfl) ⟨_, _, rfl, hI, hK, EqV.rf⟩ dX9_worth_25
set_option maxHeartbeats 4000000 in
set_option maxRecDepth 20000 in
theorem V_X9_owned_t (l : Launch) (D : va_G) (A : Nat → Prop) (ad : Nat → Nat) (ns : List Nat) (I : MI) (L : ML) (G : MG) (a0 : Int32) (a1 : Int32) (hG : SGC ns G) (hI : INV I) : Met l yX9_owned (wd yX9_owned cX9_owned 3 (some .int)) ({ frames := 5, cells := 0, slots := 0, locals := 131 }) (va_Pc [.ref (ad (0)), .int a0, .int a1] (PM D A ad ns I L G)) (va_Qi (fun r u => ∃ I2 L2, u = (ad, ns, I2, L2, G) ∧ INV I2 ∧ Kp [(11, 15), (107, 108)] [(10, 2), (10, 3), (10, 4), (10, 5), (10, 6), (10, 7), (10, 11), (10, 12)] I I2 ∧ (KV 100 I I2)) (BM D A) A) 0 0 A := by
  refine m_ofW (by decide) (Nat.le_of_ble_eq_true rfl) ?_
  intro p e s m below meth c ls args hC hE hM hA hS hl
  obtain ⟨hx, hb, hml, hown, hts, hr, hlocks, hin⟩ := hC
  have km1000000 : (-1000000 : Int32).toInt = -1000000 := by decide
  have k0 : (0 : Int32).toInt = 0 := by decide
  have k6 : (6 : Int32).toInt = 6 := by decide
  have k9 : (9 : Int32).toInt = 9 := by decide
  have hK : Kp [(11, 15), (107, 108)] [(10, 2), (10, 3), (10, 4), (10, 5), (10, 6), (10, 7), (10, 11), (10, 12)] I I := Kp.rf
  have hl : lv_has ls 3 [(0, .ref (ad (0))), (1, .int (a0)), (2, .int (a1))] := hl
  refine lv_aload_n hx hb dX9_owned_0 rfl (lv_at hl 0 rfl) ?_
  refine m_getr (0) 0 (100) hx hb hts hown hE oc9 hM (hG.1 0 (by decide)) rfl (by decide) rfl (hG.2 (0, 0, 100) (by decide)) (by decide) tb_398 dX9_owned_1 ?_
  refine lv_iload_n hx hb dX9_owned_4 rfl (lv_at hl 1 rfl) ?_
  refine m_calli (m_runV (100) (As := [.int (a0)]) (rest := []) hx hb hml hown hts hE hM hS hA ce_X8_isLit tb_906 (V_X8_isLit_100 l D A ad ns I L G (a0) hG hI) rfl rfl ⟨Nat.le_of_ble_eq_true rfl, Nat.le_of_ble_eq_true rfl⟩ (hG.1 100 (by decide)) rfl rfl (by decide) rfl hl.1 rfl (Nat.le_of_ble_eq_true rfl) dX9_owned_5 ⟨Nat.le_of_ble_eq_true rfl, Nat.le_of_ble_eq_true rfl⟩) hS (fun r1 u H locs hw hM hS => ?_)
  obtain ⟨rfl, xr1⟩ := hw
  have hM : Mem D A ad ns I L G H := hM
  have yr1 := bo01 xr1
  refine lv_if_eq (tgt := 21) hx hb dX9_owned_8 (by decide) (fun c2 => ?_) (fun c2 => ?_)
  · have hc2 := c2
    have q2 := xr1.f hc2
    refine lv_ldcw (v := (-1000000)) hx hb hown (hts _ tb_935) dX9_owned_21 ?_
    exact m_iret hx hb hr hlocks hM hS (Nat.le_of_ble_eq_true rfl) (Nat.le_of_ble_eq_true rfl) ⟨_, _, rfl, hI, hK, EqV.rf⟩ dX9_owned_24
  · have hc2 := c2
    have q2 := xr1.t hc2
    have lh2 := q2.2.1
    refine lv_iload_n hx hb dX9_owned_11 rfl (lv_at hl 2 rfl) ?_
    refine lv_iconst (v := (0)) hx hb dX9_owned_12 (by decide) ?_
    refine lv_bipush (v := (9)) hx hb dX9_owned_13 (by decide) ?_
    refine m_calli (m_runS (As := [.int (a1), .int (0), .int (9)]) (rest := []) hx hb hml hown hts hE hM hS hA ce_X9_isWithin tb_451 (V_X9_isWithin l D A ad ns I L G (a1) (0) (9) hI) rfl rfl ⟨Nat.le_of_ble_eq_true rfl, Nat.le_of_ble_eq_true rfl⟩  rfl hl.1 rfl (Nat.le_of_ble_eq_true rfl) dX9_owned_15 ⟨Nat.le_of_ble_eq_true rfl, Nat.le_of_ble_eq_true rfl⟩) hS (fun r3 u H locs hw hM hS => ?_)
    obtain ⟨rfl, xr3⟩ := hw
    have hM : Mem D A ad ns I L G H := hM
    have yr3 := bo01 xr3
    refine lv_if_ne (tgt := 25) hx hb dX9_owned_18 (by decide) (fun c4 => ?_) (fun c4 => ?_)
    · have hc4 := c4
      have q4 := xr3.t hc4
      refine lv_aload_n hx hb dX9_owned_25 rfl (lv_at hl 0 rfl) ?_
      refine lv_iload_n hx hb dX9_owned_26 rfl (lv_at hl 1 rfl) ?_
      refine lv_aload_n hx hb dX9_owned_27 rfl (lv_at hl 0 rfl) ?_
      refine m_getr (0) 0 (100) hx hb hts hown hE oc9 hM (hG.1 0 (by decide)) rfl (by decide) rfl (hG.2 (0, 0, 100) (by decide)) (by decide) tb_398 dX9_owned_28 ?_
      refine lv_bipush (v := (6)) hx hb dX9_owned_31 (by decide) ?_
      refine lv_iload_n hx hb dX9_owned_33 rfl (lv_at hl 2 rfl) ?_
      refine m_calli (m_runV (100) (As := [.int (6), .int (a1)]) (rest := [.int (a0), .ref (ad (0))]) hx hb hml hown hts hE hM hS hA ce_X8_mirrorsWith tb_940 (V_X8_mirrorsWith_100_t l D A ad ns I L G (6) (a1) hG hI (by first | omega | decide)) rfl rfl ⟨Nat.le_of_ble_eq_true rfl, Nat.le_of_ble_eq_true rfl⟩ (hG.1 100 (by decide)) rfl rfl (by decide) rfl hl.1 rfl (Nat.le_of_ble_eq_true rfl) dX9_owned_34 ⟨Nat.le_of_ble_eq_true rfl, Nat.le_of_ble_eq_true rfl⟩) hS (fun r5 u H locs hw hM hS => ?_)
      obtain ⟨rfl, xr5⟩ := hw
      have hM : Mem D A ad ns I L G H := hM
      refine m_calli (m_runV (0) (As := [.int (a0), .int (r5)]) (rest := []) hx hb hml hown hts hE hM hS hA ce_X9_worthOfSet tb_936 (V_X9_worthOfSet_t l D A ad ns I L G (a0) (r5) hG hI (q2.2) (by first | omega | decide)) rfl rfl ⟨Nat.le_of_ble_eq_true rfl, Nat.le_of_ble_eq_true rfl⟩ (hG.1 0 (by decide)) rfl rfl (by decide) rfl hl.1 rfl (Nat.le_of_ble_eq_true rfl) dX9_owned_37 ⟨Nat.le_of_ble_eq_true rfl, Nat.le_of_ble_eq_true rfl⟩) hS (fun r6 u H locs hw hM hS => ?_)
      obtain ⟨I7, L8, rfl, hI, hkI7, xr6⟩ := hw
      have hM : Mem D A ad ns I7 L8 G H := hM
      have hK := hK.trans hkI7 rfl
      exact m_iret hx hb hr hlocks hM hS (Nat.le_of_ble_eq_true rfl) (Nat.le_of_ble_eq_true rfl) ⟨_, _, rfl, hI, hK, (EqV.rf.tr xr6)⟩ dX9_owned_40
    · have hc4 := c4
      have q4 := xr3.f hc4
      refine lv_ldcw (v := (-1000000)) hx hb hown (hts _ tb_935) dX9_owned_21 ?_
      exact m_iret hx hb hr hlocks hM hS (Nat.le_of_ble_eq_true rfl) (Nat.le_of_ble_eq_true rfl) ⟨_, _, rfl, hI, hK, EqV.rf⟩ dX9_owned_24
