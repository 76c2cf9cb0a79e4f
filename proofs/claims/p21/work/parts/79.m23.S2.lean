set_option maxHeartbeats 4000000 in
set_option maxRecDepth 20000 in
theorem V_X0_gather_t (l : Launch) (D : va_G) (A : Nat → Prop) (ad : Nat → Nat) (ns : List Nat) (I : MI) (L : ML) (G : MG) (a0 : Int32) (hG : SGC ns G) (hI : INV I) : Met l yX0_gather (wd yX0_gather cX0_gather 4 none) ({ frames := 1, cells := 0, slots := 0, locals := 22 }) (va_Pc [.ref (ad (30)), .ref (ad (100)), .int a0] (PM D A ad ns I L G)) (va_Qv (fun u => ∃ I2 L2, u = (ad, ns, I2, L2, G) ∧ INV I2 ∧ Kp [(31, 34)] [(30, 5)] I I2 ∧ (GTX (cF 100 I) I2)) (BM D A) A) 0 0 A := by
  refine m_ofW (by decide) (Nat.le_of_ble_eq_true rfl) ?_
  intro p e s m below meth c ls args hC hE hM hA hS hl
  obtain ⟨hx, hb, hml, hown, hts, hr, hlocks, hin⟩ := hC
  have k0 : (0 : Int32).toInt = 0 := by decide
  have k1 : (1 : Int32).toInt = 1 := by decide
  have k2 : (2 : Int32).toInt = 2 := by decide
  have k4 : (4 : Int32).toInt = 4 := by decide
  have hK : Kp [(31, 34)] [(30, 5)] I I := Kp.rf
  have hl : lv_has ls 4 [(0, .ref (ad (30))), (1, .ref (ad (100))), (2, .int (a0))] := hl
  refine lv_aload_n hx hb dX0_gather_0 rfl (lv_at hl 0 rfl) ?_
  refine lv_iconst (v := (0)) hx hb dX0_gather_1 (by decide) ?_
  refine m_puti (30) 5 hx hb hts hown hE oc0 hM hS (hG.1 30 (by decide)) rfl (by decide) rfl rfl rfl rfl tb_210 dX0_gather_2 (fun H locs I1 eI1 hM hS => ?_)
  subst eI1
  have hI := hI.put (n := 30) (k := 5) (v := 0) (lo := 0) (hi := 4) rfl (by first | omega | decide)
  have hK := hK.put (n := 30) (k := 5) (v := 0) (by first | rfl | simp [inR])
  refine lv_iconst (v := (0)) hx hb dX0_gather_5 (by decide) ?_
  refine lv_istore_n (lv' := [(3, .int (0)), (0, .ref (ad (30))), (1, .ref (ad (100))), (2, .int (a0))]) hx hb dX0_gather_6 rfl hl (by decide) rfl (fun ls hl => ?_)
  have loop7 : ∀ (n : Nat) (x3_7 : Int32) (Ia7 : MI) (La7 : ML) (H : Heap) (locs : List Loc) (ls : Array Slot), INV Ia7 → Kp [(31, 34)] [(30, 5)] I Ia7 → (0 ≤ x3_7.toInt ∧ x3_7.toInt ≤ 24) → (GTX (cF 100 I) Ia7) → (24 - x3_7.toInt).toNat < n → Mem D A ad ns Ia7 La7 G H → va_S A s.heap H locs → lv_has ls 4 [(3, .int (x3_7)), (0, .ref (ad (30))), (1, .ref (ad (100))), (2, .int (a0))] → W p l e ({ frames := 1, cells := 0, slots := 0, locals := 22 } : Room) s m args below meth c H locs 0 0 (MQ below (va_Qv (fun u => ∃ I2 L2, u = (ad, ns, I2, L2, G) ∧ INV I2 ∧ Kp [(31, 34)] [(30, 5)] I I2 ∧ (GTX (cF 100 I) I2)) (BM D A) A) args s 0 0 A) (F0 m 7 ls []) := by
    intro n
    induction n with
    | zero =>
      intro x3_7 Ia7 La7 H locs ls hI hK hr3_7 hg7 hmu
      exact absurd hmu (Nat.not_lt_zero _)
    | succ n ih7 =>
      intro x3_7 Ia7 La7 H locs ls hI hK hr3_7 hg7 hmu7 hM hS hl
      have g57 := hI.get 30 5 (lo := 0) (hi := 4) rfl
      refine lv_iload_n hx hb dX0_gather_7 rfl (lv_at hl 0 rfl) ?_
      refine lv_aload_n hx hb dX0_gather_8 rfl (lv_at hl 2 rfl) ?_
      refine m_geti (100) 8 hx hb hts hown hE oc8 hM (hG.1 100 (by decide)) rfl (by decide) rfl tb_60 dX0_gather_9 ?_
      have g2 := hI.get (100) 8 (lo := 0) (hi := 24) rfl
      refine lv_icmp_ge (tgt := 83) hx hb dX0_gather_12 (by decide) (fun c3 => ?_) (fun c3 => ?_)
      · have hc3 := c3
        have q3 := q_le hc3
        exact m_vret hx hb hr hlocks hM hS (Nat.le_of_ble_eq_true rfl) (Nat.le_of_ble_eq_true rfl) ⟨_, _, rfl, hI, hK, hg7⟩ dX0_gather_83
      · have hc3 := c3
        have q3 := q_nle hc3
        refine lv_aload_n hx hb dX0_gather_15 rfl (lv_at hl 1 rfl) ?_
        refine m_geti (30) 5 hx hb hts hown hE oc0 hM (hG.1 30 (by decide)) rfl (by decide) rfl tb_210 dX0_gather_16 ?_
        have g4 := hI.get (30) 5 (lo := 0) (hi := 4) rfl
        refine lv_iconst (v := (4)) hx hb dX0_gather_19 (by decide) ?_
        refine lv_icmp_ge (tgt := 83) hx hb dX0_gather_20 (by decide) (fun c5 => ?_) (fun c5 => ?_)
        · have hc5 := c5
          have q5 := q_le hc5
          exact m_vret hx hb hr hlocks hM hS (Nat.le_of_ble_eq_true rfl) (Nat.le_of_ble_eq_true rfl) ⟨_, _, rfl, hI, hK, hg7⟩ dX0_gather_83
        · have hc5 := c5
          have q5 := q_nle hc5
          refine lv_iload_n hx hb dX0_gather_23 rfl (lv_at hl 3 rfl) ?_
          refine lv_iload_n hx hb dX0_gather_24 rfl (lv_at hl 0 rfl) ?_
          refine lv_ishr hx hb dX0_gather_25 ?_
          refine lv_topi (fun v6 ev6 => ?_)
          refine lv_iconst (v := (1)) hx hb dX0_gather_26 (by decide) ?_
          refine lv_iand hx hb dX0_gather_27 ?_
          refine lv_topi (fun v7 ev7 => ?_)
          have tv7 := a_and (c := 1) ev7 (by decide) (by decide)
          refine lv_iconst (v := (1)) hx hb dX0_gather_28 (by decide) ?_
          refine lv_icmp_ne (tgt := 77) hx hb dX0_gather_29 (by decide) (fun c8 => ?_) (fun c8 => ?_)
          · have hc8 := c8
            have q8 := q_ne hc8
            obtain ⟨v9, ev9⟩ : ∃ z : Int32, z = x3_7 + Int32.ofInt (1) := ⟨_, rfl⟩
            have tv9 := a_inc ev9 (by decide) (by omega) (by omega)
            refine lv_iinc (v := v9) (lv' := [(3, .int (v9)), (0, .ref (ad (30))), (1, .ref (ad (100))), (2, .int (a0))]) hx hb dX0_gather_77 hl (k := 0) rfl ev9.symm (by decide) rfl (fun ls hl => ?_)
            refine lv_goto (tgt := 7) hx hb dX0_gather_80 (by decide) ?_
            exact ih7 (v9) Ia7 La7 _ _ ls hI hK (by first | omega | decide) hg7 (by omega) hM hS (lv_sub hl [0, 1, 2, 3] rfl)
          · have hc8 := c8
            have q8 := q_eq hc8
            refine lv_aload_n hx hb dX0_gather_32 rfl (lv_at hl 1 rfl) ?_
            refine m_getr (30) 1 (31) hx hb hts hown hE oc0 hM (hG.1 30 (by decide)) rfl (by decide) rfl (hG.2 (30, 1, 31) (by decide)) (by decide) tb_206 dX0_gather_33 ?_
            refine lv_aload_n hx hb dX0_gather_36 rfl (lv_at hl 1 rfl) ?_
            refine m_geti (30) 5 hx hb hts hown hE oc0 hM (hG.1 30 (by decide)) rfl (by decide) rfl tb_210 dX0_gather_37 ?_
            refine lv_iload_n hx hb dX0_gather_40 rfl (lv_at hl 0 rfl) ?_
            refine m_iast (31) hx hb hE hM hS (hG.1 31 (by decide)) rfl (vp_in_iff.mpr (by omega)) dX0_gather_41 (fun H locs I10 eI10 hM hS => ?_)
            subst eI10
            have hI := hI.put (n := 31) (k := ((Ia7 (30) 5).toNatClampNeg)) (v := x3_7) (lo := 0) (hi := 23) rfl (by first | omega | decide)
            have hK := hK.put (n := 31) (k := ((Ia7 (30) 5).toNatClampNeg)) (v := x3_7) (by first | rfl | simp [inR])
            refine lv_aload_n hx hb dX0_gather_42 rfl (lv_at hl 1 rfl) ?_
            refine m_getr (30) 2 (32) hx hb hts hown hE oc0 hM (hG.1 30 (by decide)) rfl (by decide) rfl (hG.2 (30, 2, 32) (by decide)) (by decide) tb_207 dX0_gather_43 ?_
            refine lv_aload_n hx hb dX0_gather_46 rfl (lv_at hl 1 rfl) ?_
            refine m_geti (30) 5 hx hb hts hown hE oc0 hM (hG.1 30 (by decide)) rfl (by decide) rfl tb_210 dX0_gather_47 ?_
            have z11 : (u2 Ia7 (31) ((Ia7 (30) 5).toNatClampNeg) (x3_7)) (30) 5 = Ia7 (30) 5 := (show (u2 Ia7 (31) ((Ia7 (30) 5).toNatClampNeg) (x3_7)) (30) 5 = Ia7 (30) 5 from by simp [u2_v])
            rw [z11]
            refine lv_aload_n hx hb dX0_gather_50 rfl (lv_at hl 2 rfl) ?_
            refine lv_iload_n hx hb dX0_gather_51 rfl (lv_at hl 0 rfl) ?_
            refine lv_iconst (v := (2)) hx hb dX0_gather_52 (by decide) ?_
            refine m_calli (m_runV (100) (As := [.int (x3_7), .int (2)]) (rest := [.int (Ia7 (30) 5), .ref (ad (32))]) hx hb hml hown hts hE hM hS hA ce_X8_ofMirror tb_974 (V_X8_ofMirror_100_t l D A ad ns (u2 Ia7 (31) ((Ia7 (30) 5).toNatClampNeg) (x3_7)) La7 G (x3_7) (2) hG hI (by first | omega | decide) (by first | omega | decide)) rfl rfl ⟨Nat.le_of_ble_eq_true rfl, Nat.le_of_ble_eq_true rfl⟩ (hG.1 100 (by decide)) rfl rfl (by decide) rfl hl.1 rfl (Nat.le_of_ble_eq_true rfl) dX0_gather_53 ⟨Nat.le_of_ble_eq_true rfl, Nat.le_of_ble_eq_true rfl⟩) hS (fun r12 u H locs hw hM hS => ?_)
            obtain ⟨rfl, xr12⟩ := hw
            have hM : Mem D A ad ns (u2 Ia7 (31) ((Ia7 (30) 5).toNatClampNeg) (x3_7)) La7 G H := hM
            refine m_iast (32) hx hb hE hM hS (hG.1 32 (by decide)) rfl (vp_in_iff.mpr (by omega)) dX0_gather_56 (fun H locs I13 eI13 hM hS => ?_)
            subst eI13
            have hI := hI.putF (n := 32) (k := ((Ia7 (30) 5).toNatClampNeg)) (v := r12) rfl
            have hK := hK.put (n := 32) (k := ((Ia7 (30) 5).toNatClampNeg)) (v := r12) (by first | rfl | simp [inR])
            refine lv_aload_n hx hb dX0_gather_57 rfl (lv_at hl 1 rfl) ?_
            refine m_getr (30) 3 (33) hx hb hts hown hE oc0 hM (hG.1 30 (by decide)) rfl (by decide) rfl (hG.2 (30, 3, 33) (by decide)) (by decide) tb_208 dX0_gather_58 ?_
            refine lv_aload_n hx hb dX0_gather_61 rfl (lv_at hl 1 rfl) ?_
            refine m_geti (30) 5 hx hb hts hown hE oc0 hM (hG.1 30 (by decide)) rfl (by decide) rfl tb_210 dX0_gather_62 ?_
            have z14 : (u2 (u2 Ia7 (31) ((Ia7 (30) 5).toNatClampNeg) (x3_7)) (32) ((Ia7 (30) 5).toNatClampNeg) (r12)) (30) 5 = Ia7 (30) 5 := (show (u2 (u2 Ia7 (31) ((Ia7 (30) 5).toNatClampNeg) (x3_7)) (32) ((Ia7 (30) 5).toNatClampNeg) (r12)) (30) 5 = Ia7 (30) 5 from by simp [u2_v])
            rw [z14]
            refine lv_iconst (v := (0)) hx hb dX0_gather_65 (by decide) ?_
            refine m_iast (33) hx hb hE hM hS (hG.1 33 (by decide)) rfl (vp_in_iff.mpr (by omega)) dX0_gather_66 (fun H locs I15 eI15 hM hS => ?_)
            subst eI15
            have hI := hI.putF (n := 33) (k := ((Ia7 (30) 5).toNatClampNeg)) (v := 0) rfl
            have hK := hK.put (n := 33) (k := ((Ia7 (30) 5).toNatClampNeg)) (v := 0) (by first | rfl | simp [inR])
            refine lv_aload_n hx hb dX0_gather_67 rfl (lv_at hl 1 rfl) ?_
            refine lv_dup hx hb dX0_gather_68 rfl ?_
            refine m_geti (30) 5 hx hb hts hown hE oc0 hM (hG.1 30 (by decide)) rfl (by decide) rfl tb_210 dX0_gather_69 ?_
            have z16 : (u2 (u2 (u2 Ia7 (31) ((Ia7 (30) 5).toNatClampNeg) (x3_7)) (32) ((Ia7 (30) 5).toNatClampNeg) (r12)) (33) ((Ia7 (30) 5).toNatClampNeg) (0)) (30) 5 = Ia7 (30) 5 := (show (u2 (u2 (u2 Ia7 (31) ((Ia7 (30) 5).toNatClampNeg) (x3_7)) (32) ((Ia7 (30) 5).toNatClampNeg) (r12)) (33) ((Ia7 (30) 5).toNatClampNeg) (0)) (30) 5 = Ia7 (30) 5 from by simp [u2_v])
            rw [z16]
            refine lv_iconst (v := (1)) hx hb dX0_gather_72 (by decide) ?_
            refine lv_iadd hx hb dX0_gather_73 ?_
            refine lv_topi (fun v17 ev17 => ?_)
            have tv17 := a_add ev17 (by omega) (by omega)
            refine m_puti (30) 5 hx hb hts hown hE oc0 hM hS (hG.1 30 (by decide)) rfl (by decide) rfl rfl rfl rfl tb_210 dX0_gather_74 (fun H locs I18 eI18 hM hS => ?_)
            subst eI18
            have hI := hI.put (n := 30) (k := 5) (v := v17) (lo := 0) (hi := 4) rfl (by first | omega | decide)
            have hK := hK.put (n := 30) (k := 5) (v := v17) (by first | rfl | simp [inR])
            obtain ⟨v19, ev19⟩ : ∃ z : Int32, z = x3_7 + Int32.ofInt (1) := ⟨_, rfl⟩
            have tv19 := a_inc ev19 (by decide) (by omega) (by omega)
            refine lv_iinc (v := v19) (lv' := [(3, .int (v19)), (0, .ref (ad (30))), (1, .ref (ad (100))), (2, .int (a0))]) hx hb dX0_gather_77 hl (k := 0) rfl ev19.symm (by decide) rfl (fun ls hl => ?_)
            refine lv_goto (tgt := 7) hx hb dX0_gather_80 (by decide) ?_
            exact ih7 (v19) (u2 (u2 (u2 (u2 Ia7 (31) ((Ia7 (30) 5).toNatClampNeg) (x3_7)) (32) ((Ia7 (30) 5).toNatClampNeg) (r12)) (33) ((Ia7 (30) 5).toNatClampNeg) (0)) (30) 5 (v17)) La7 _ _ ls hI hK (by first | omega | decide) (hg7.add (s := 0) (m := x3_7) (v := r12) (by omega) (by rw [u2_self]; omega) (fun k => by simp [u2_v]) (fun k => by simp [u2_v]) (xr12.trans (congrFun (hK.getA 107 rfl) _))) (by omega) hM hS (lv_sub hl [0, 1, 2, 3] rfl)
  exact loop7 (_ + 1) (0) (u2 I (30) 5 (0)) L _ _ ls hI hK (by first | omega | decide) (fun k hk => by rw [u2_self] at hk; exact absurd hk (by show ¬ ((k : Int) < 0); omega)) (Nat.lt_succ_self _) hM hS (lv_sub hl [0, 1, 2, 3] rfl)
set_option maxHeartbeats 4000000 in
set_option maxRecDepth 20000 in
theorem V_X0_putSlants_32_t (l : Launch) (D : va_G) (A : Nat → Prop) (ad : Nat → Nat) (ns : List Nat) (I : MI) (L : ML) (G : MG) (hG : SGC ns G) (hI : INV I) : Met l yX0_putSlants (wd yX0_putSlants cX0_putSlants 4 none) ({ frames := 1, cells := 0, slots := 0, locals := 23 }) (va_Pc [.ref (ad (30)), .ref (ad (100)), .ref (ad (32))] (PM D A ad ns I L G)) (va_Qv (fun u => ∃ I2 L2, u = (ad, ns, I2, L2, G) ∧ INV I2 ∧ Kp [(107, 108)] [] I I2 ∧ (PUT 32 I I2 (I 30 5).toNatClampNeg)) (BM D A) A) 0 0 A := by
  refine m_ofW (by decide) (Nat.le_of_ble_eq_true rfl) ?_
  intro p e s m below meth c ls args hC hE hM hA hS hl
  obtain ⟨hx, hb, hml, hown, hts, hr, hlocks, hin⟩ := hC
  have k0 : (0 : Int32).toInt = 0 := by decide
  have k2 : (2 : Int32).toInt = 2 := by decide
  have hI0 := hI
  have hK : Kp [(107, 108)] [] I I := Kp.rf
  have hl : lv_has ls 4 [(0, .ref (ad (30))), (1, .ref (ad (100))), (2, .ref (ad (32)))] := hl
  refine lv_iconst (v := (0)) hx hb dX0_putSlants_0 (by decide) ?_
  refine lv_istore_n (lv' := [(3, .int (0)), (0, .ref (ad (30))), (1, .ref (ad (100))), (2, .ref (ad (32)))]) hx hb dX0_putSlants_1 rfl hl (by decide) rfl (fun ls hl => ?_)
  have loop2 : ∀ (n : Nat) (x3_2 : Int32) (Ia2 : MI) (La2 : ML) (H : Heap) (locs : List Loc) (ls : Array Slot), INV Ia2 → Kp [(107, 108)] [] I Ia2 → (0 ≤ x3_2.toInt ∧ x3_2.toInt ≤ 4) → ((x3_2).toInt ≤ (I 30 5).toInt) → (Ia2 30 5 = I 30 5) → (PUT 32 I Ia2 (x3_2).toNatClampNeg) → (4 - x3_2.toInt).toNat < n → Mem D A ad ns Ia2 La2 G H → va_S A s.heap H locs → lv_has ls 4 [(3, .int (x3_2)), (0, .ref (ad (30))), (1, .ref (ad (100))), (2, .ref (ad (32)))] → W p l e ({ frames := 1, cells := 0, slots := 0, locals := 23 } : Room) s m args below meth c H locs 0 0 (MQ below (va_Qv (fun u => ∃ I2 L2, u = (ad, ns, I2, L2, G) ∧ INV I2 ∧ Kp [(107, 108)] [] I I2 ∧ (PUT 32 I I2 (I 30 5).toNatClampNeg)) (BM D A) A) args s 0 0 A) (F0 m 2 ls []) := by
    intro n
    induction n with
    | zero =>
      intro x3_2 Ia2 La2 H locs ls hI hK hr3_2 hle2 h52 hp2 hmu
      exact absurd hmu (Nat.not_lt_zero _)
    | succ n ih2 =>
      intro x3_2 Ia2 La2 H locs ls hI hK hr3_2 hle2 h52 hp2 hmu2 hM hS hl
      have hz52 := congrArg Int32.toInt h52
      have hKa := hK
      refine lv_iload_n hx hb dX0_putSlants_2 rfl (lv_at hl 0 rfl) ?_
      refine lv_aload_n hx hb dX0_putSlants_3 rfl (lv_at hl 1 rfl) ?_
      refine m_geti (30) 5 hx hb hts hown hE oc0 hM (hG.1 30 (by decide)) rfl (by decide) rfl tb_210 dX0_putSlants_4 ?_
      have g1 := hI.get (30) 5 (lo := 0) (hi := 4) rfl
      refine lv_icmp_ge (tgt := 30) hx hb dX0_putSlants_7 (by decide) (fun c2 => ?_) (fun c2 => ?_)
      · have hc2 := c2
        have q2 := q_le hc2
        exact m_vret hx hb hr hlocks hM hS (Nat.le_of_ble_eq_true rfl) (Nat.le_of_ble_eq_true rfl) ⟨_, _, rfl, hI, hK, (by rw [show (I 30 5).toNatClampNeg = (x3_2).toNatClampNeg from congrArg Int32.toNatClampNeg (Int32.toInt_inj.mp (by have hz := congrArg Int32.toInt h52; omega))]; exact hp2)⟩ dX0_putSlants_30
      · have hc2 := c2
        have q2 := q_nle hc2
        refine lv_aload_n hx hb dX0_putSlants_10 rfl (lv_at hl 2 rfl) ?_
        refine lv_aload_n hx hb dX0_putSlants_11 rfl (lv_at hl 1 rfl) ?_
        refine m_getr (30) 1 (31) hx hb hts hown hE oc0 hM (hG.1 30 (by decide)) rfl (by decide) rfl (hG.2 (30, 1, 31) (by decide)) (by decide) tb_206 dX0_putSlants_12 ?_
        refine lv_iload_n hx hb dX0_putSlants_15 rfl (lv_at hl 0 rfl) ?_
        refine m_iald (31) hx hb hE hM (hG.1 31 (by decide)) rfl (vp_in_iff.mpr (by omega)) dX0_putSlants_16 ?_
        have g3 := hI.get (31) ((x3_2).toNatClampNeg) (lo := 0) (hi := 23) rfl
        refine lv_iconst (v := (2)) hx hb dX0_putSlants_17 (by decide) ?_
        refine lv_aload_n hx hb dX0_putSlants_18 rfl (lv_at hl 3 rfl) ?_
        refine lv_iload_n hx hb dX0_putSlants_19 rfl (lv_at hl 0 rfl) ?_
        refine m_iald (32) hx hb hE hM (hG.1 32 (by decide)) rfl (vp_in_iff.mpr (by omega)) dX0_putSlants_20 ?_
        refine m_callv (m_runV (100) (As := [.int (Ia2 (31) (x3_2).toNatClampNeg), .int (2), .int (Ia2 (32) (x3_2).toNatClampNeg)]) (rest := []) hx hb hml hown hts hE hM hS hA ce_X8_setMirror tb_979 (V_X8_setMirror_100_t l D A ad ns Ia2 La2 G (Ia2 (31) (x3_2).toNatClampNeg) (2) (Ia2 (32) (x3_2).toNatClampNeg) hG hI (by first | omega | decide) (by first | omega | decide)) rfl rfl ⟨Nat.le_of_ble_eq_true rfl, Nat.le_of_ble_eq_true rfl⟩ (hG.1 100 (by decide)) rfl rfl (by decide) rfl hl.1 rfl (Nat.le_of_ble_eq_true rfl) dX0_putSlants_21 ⟨Nat.le_of_ble_eq_true rfl, Nat.le_of_ble_eq_true rfl⟩) hS (fun u H locs hw hM hS => ?_)
        obtain ⟨I4, L5, rfl, hI, hkI4, xI4⟩ := hw
        have hM : Mem D A ad ns I4 L5 G H := hM
        have hK := hK.trans hkI4 rfl
        obtain ⟨v6, ev6⟩ : ∃ z : Int32, z = x3_2 + Int32.ofInt (1) := ⟨_, rfl⟩
        have tv6 := a_inc ev6 (by decide) (by omega) (by omega)
        refine lv_iinc (v := v6) (lv' := [(3, .int (v6)), (0, .ref (ad (30))), (1, .ref (ad (100))), (2, .ref (ad (32)))]) hx hb dX0_putSlants_24 hl (k := 0) rfl ev6.symm (by decide) rfl (fun ls hl => ?_)
        refine lv_goto (tgt := 2) hx hb dX0_putSlants_27 (by decide) ?_
        exact ih2 (v6) I4 L5 _ _ ls hI hK (by first | omega | decide) (by omega) (((hkI4.get (30) 5 rfl)).trans h52) (by rw [show (v6).toNatClampNeg = (x3_2).toNatClampNeg + 1 from by have z1 := tn (i := x3_2) (by omega); have z2 := tn (i := v6) (by omega); omega]; exact hp2.step (by have z1 := tn (i := x3_2) (by omega); have hz := congrArg Int32.toInt h52; omega) (by rw [hKa.getA 31 rfl]) (by have g := hI.get 31 (x3_2).toNatClampNeg (lo := 0) (hi := 23) rfl; rw [congrFun ((hkI4.getA 31 rfl)) (x3_2).toNatClampNeg] at g; have z := tn (i := Ia2 31 (x3_2).toNatClampNeg) (by omega); omega) (by rw [hKa.getA 32 rfl]) xI4 (fun k => by have g := hI0.get 31 k (lo := 0) (hi := 23) rfl; have z := tn (i := I 31 k) (by omega); omega)) (by omega) hM hS (lv_sub hl [0, 1, 2, 3] rfl)
  exact loop2 (_ + 1) (0) I L _ _ ls hI hK (by first | omega | decide) (by have := hI.get 30 5 (lo := 0) (hi := 4) rfl; omega) rfl PUT.z (Nat.lt_succ_self _) hM hS (lv_sub hl [0, 1, 2, 3] rfl)
set_option maxHeartbeats 4000000 in
set_option maxRecDepth 20000 in
theorem V_X0_putSlants_33_t (l : Launch) (D : va_G) (A : Nat → Prop) (ad : Nat → Nat) (ns : List Nat) (I : MI) (L : ML) (G : MG) (hG : SGC ns G) (hI : INV I) : Met l yX0_putSlants (wd yX0_putSlants cX0_putSlants 4 none) ({ frames := 1, cells := 0, slots := 0, locals := 23 }) (va_Pc [.ref (ad (30)), .ref (ad (100)), .ref (ad (33))] (PM D A ad ns I L G)) (va_Qv (fun u => ∃ I2 L2, u = (ad, ns, I2, L2, G) ∧ INV I2 ∧ Kp [(107, 108)] [] I I2 ∧ (PUT 33 I I2 (I 30 5).toNatClampNeg)) (BM D A) A) 0 0 A := by
  refine m_ofW (by decide) (Nat.le_of_ble_eq_true rfl) ?_
  intro p e s m below meth c ls args hC hE hM hA hS hl
  obtain ⟨hx, hb, hml, hown, hts, hr, hlocks, hin⟩ := hC
  have k0 : (0 : Int32).toInt = 0 := by decide
  have k2 : (2 : Int32).toInt = 2 := by decide
  have hI0 := hI
  have hK : Kp [(107, 108)] [] I I := Kp.rf
  have hl : lv_has ls 4 [(0, .ref (ad (30))), (1, .ref (ad (100))), (2, .ref (ad (33)))] := hl
  refine lv_iconst (v := (0)) hx hb dX0_putSlants_0 (by decide) ?_
  refine lv_istore_n (lv' := [(3, .int (0)), (0, .ref (ad (30))), (1, .ref (ad (100))), (2, .ref (ad (33)))]) hx hb dX0_putSlants_1 rfl hl (by decide) rfl (fun ls hl => ?_)
  have loop2 : ∀ (n : Nat) (x3_2 : Int32) (Ia2 : MI) (La2 : ML) (H : Heap) (locs : List Loc) (ls : Array Slot), INV Ia2 → Kp [(107, 108)] [] I Ia2 → (0 ≤ x3_2.toInt ∧ x3_2.toInt ≤ 4) → ((x3_2).toInt ≤ (I 30 5).toInt) → (Ia2 30 5 = I 30 5) → (PUT 33 I Ia2 (x3_2).toNatClampNeg) → (4 - x3_2.toInt).toNat < n → Mem D A ad ns Ia2 La2 G H → va_S A s.heap H locs → lv_has ls 4 [(3, .int (x3_2)), (0, .ref (ad (30))), (1, .ref (ad (100))), (2, .ref (ad (33)))] → W p l e ({ frames := 1, cells := 0, slots := 0, locals := 23 } : Room) s m args below meth c H locs 0 0 (MQ below (va_Qv (fun u => ∃ I2 L2, u = (ad, ns, I2, L2, G) ∧ INV I2 ∧ Kp [(107, 108)] [] I I2 ∧ (PUT 33 I I2 (I 30 5).toNatClampNeg)) (BM D A) A) args s 0 0 A) (F0 m 2 ls []) := by
    intro n
    induction n with
    | zero =>
      intro x3_2 Ia2 La2 H locs ls hI hK hr3_2 hle2 h52 hp2 hmu
      exact absurd hmu (Nat.not_lt_zero _)
    | succ n ih2 =>
      intro x3_2 Ia2 La2 H locs ls hI hK hr3_2 hle2 h52 hp2 hmu2 hM hS hl
      have hz52 := congrArg Int32.toInt h52
      have hKa := hK
      refine lv_iload_n hx hb dX0_putSlants_2 rfl (lv_at hl 0 rfl) ?_
      refine lv_aload_n hx hb dX0_putSlants_3 rfl (lv_at hl 1 rfl) ?_
      refine m_geti (30) 5 hx hb hts hown hE oc0 hM (hG.1 30 (by decide)) rfl (by decide) rfl tb_210 dX0_putSlants_4 ?_
      have g1 := hI.get (30) 5 (lo := 0) (hi := 4) rfl
      refine lv_icmp_ge (tgt := 30) hx hb dX0_putSlants_7 (by decide) (fun c2 => ?_) (fun c2 => ?_)
      · have hc2 := c2
        have q2 := q_le hc2
        exact m_vret hx hb hr hlocks hM hS (Nat.le_of_ble_eq_true rfl) (Nat.le_of_ble_eq_true rfl) ⟨_, _, rfl, hI, hK, (by rw [show (I 30 5).toNatClampNeg = (x3_2).toNatClampNeg from congrArg Int32.toNatClampNeg (Int32.toInt_inj.mp (by have hz := congrArg Int32.toInt h52; omega))]; exact hp2)⟩ dX0_putSlants_30
      · have hc2 := c2
        have q2 := q_nle hc2
        refine lv_aload_n hx hb dX0_putSlants_10 rfl (lv_at hl 2 rfl) ?_
        refine lv_aload_n hx hb dX0_putSlants_11 rfl (lv_at hl 1 rfl) ?_
        refine m_getr (30) 1 (31) hx hb hts hown hE oc0 hM (hG.1 30 (by decide)) rfl (by decide) rfl (hG.2 (30, 1, 31) (by decide)) (by decide) tb_206 dX0_putSlants_12 ?_
        refine lv_iload_n hx hb dX0_putSlants_15 rfl (lv_at hl 0 rfl) ?_
        refine m_iald (31) hx hb hE hM (hG.1 31 (by decide)) rfl (vp_in_iff.mpr (by omega)) dX0_putSlants_16 ?_
        have g3 := hI.get (31) ((x3_2).toNatClampNeg) (lo := 0) (hi := 23) rfl
        refine lv_iconst (v := (2)) hx hb dX0_putSlants_17 (by decide) ?_
        refine lv_aload_n hx hb dX0_putSlants_18 rfl (lv_at hl 3 rfl) ?_
        refine lv_iload_n hx hb dX0_putSlants_19 rfl (lv_at hl 0 rfl) ?_
        refine m_iald (33) hx hb hE hM (hG.1 33 (by decide)) rfl (vp_in_iff.mpr (by omega)) dX0_putSlants_20 ?_
        refine m_callv (m_runV (100) (As := [.int (Ia2 (31) (x3_2).toNatClampNeg), .int (2), .int (Ia2 (33) (x3_2).toNatClampNeg)]) (rest := []) hx hb hml hown hts hE hM hS hA ce_X8_setMirror tb_979 (V_X8_setMirror_100_t l D A ad ns Ia2 La2 G (Ia2 (31) (x3_2).toNatClampNeg) (2) (Ia2 (33) (x3_2).toNatClampNeg) hG hI (by first | omega | decide) (by first | omega | decide)) rfl rfl ⟨Nat.le_of_ble_eq_true rfl, Nat.le_of_ble_eq_true rfl⟩ (hG.1 100 (by decide)) rfl rfl (by decide) rfl hl.1 rfl (Nat.le_of_ble_eq_true rfl) dX0_putSlants_21 ⟨Nat.le_of_ble_eq_true rfl, Nat.le_of_ble_eq_true rfl⟩) hS (fun u H locs hw hM hS => ?_)
        obtain ⟨I4, L5, rfl, hI, hkI4, xI4⟩ := hw
        have hM : Mem D A ad ns I4 L5 G H := hM
        have hK := hK.trans hkI4 rfl
        obtain ⟨v6, ev6⟩ : ∃ z : Int32, z = x3_2 + Int32.ofInt (1) := ⟨_, rfl⟩
        have tv6 := a_inc ev6 (by decide) (by omega) (by omega)
        refine lv_iinc (v := v6) (lv' := [(3, .int (v6)), (0, .ref (ad (30))), (1, .ref (ad (100))), (2, .ref (ad (33)))]) hx hb dX0_putSlants_24 hl (k := 0) rfl ev6.symm (by decide) rfl (fun ls hl => ?_)
        refine lv_goto (tgt := 2) hx hb dX0_putSlants_27 (by decide) ?_
        exact ih2 (v6) I4 L5 _ _ ls hI hK (by first | omega | decide) (by omega) (((hkI4.get (30) 5 rfl)).trans h52) (by rw [show (v6).toNatClampNeg = (x3_2).toNatClampNeg + 1 from by have z1 := tn (i := x3_2) (by omega); have z2 := tn (i := v6) (by omega); omega]; exact hp2.step (by have z1 := tn (i := x3_2) (by omega); have hz := congrArg Int32.toInt h52; omega) (by rw [hKa.getA 31 rfl]) (by have g := hI.get 31 (x3_2).toNatClampNeg (lo := 0) (hi := 23) rfl; rw [congrFun ((hkI4.getA 31 rfl)) (x3_2).toNatClampNeg] at g; have z := tn (i := Ia2 31 (x3_2).toNatClampNeg) (by omega); omega) (by rw [hKa.getA 33 rfl]) xI4 (fun k => by have g := hI0.get 31 k (lo := 0) (hi := 23) rfl; have z := tn (i := I 31 k) (by omega); omega)) (by omega) hM hS (lv_sub hl [0, 1, 2, 3] rfl)
  exact loop2 (_ + 1) (0) I L _ _ ls hI hK (by first | omega | decide) (by have := hI.get 30 5 (lo := 0) (hi := 4) rfl; omega) rfl PUT.z (Nat.lt_succ_self _) hM hS (lv_sub hl [0, 1, 2, 3] rfl)
set_option maxHeartbeats 4000000 in
set_option maxRecDepth 20000 in
theorem V_X0_search_t (l : Launch) (D : va_G) (A : Nat → Prop) (ad : Nat → Nat) (ns : List Nat) (I : MI) (L : ML) (G : MG) (a0 : Int32) (a1 : Int32) (a2 : Int32) (hG : SGC ns G) (hI : INV I) (hlit : Lit 100 I a0) (ha0 : 0 ≤ a0.toInt ∧ a0.toInt ≤ 23) (ha2 : -1 ≤ a2.toInt ∧ a2.toInt ≤ 7) : Met l yX0_search (wd yX0_search cX0_search 8 none) ({ frames := 4, cells := 0, slots := 0, locals := 107 }) (va_Pc [.ref (ad (30)), .ref (ad (100)), .int a0, .int a1, .int a2] (PM D A ad ns I L G)) (va_Qv (fun u => ∃ I2 L2, u = (ad, ns, I2, L2, G) ∧ INV I2 ∧ Kp [(11, 15), (31, 35), (107, 108)] [(10, 2), (10, 3), (10, 4), (10, 5), (10, 6), (10, 7), (10, 11), (10, 12), (30, 5), (30, 6)] I I2 ∧ (KV 100 I I2)) (BM D A) A) 0 0 A := by
  refine m_ofW (by decide) (Nat.le_of_ble_eq_true rfl) ?_
  intro p e s m below meth c ls args hC hE hM hA hS hl
  obtain ⟨hx, hb, hml, hown, hts, hr, hlocks, hin⟩ := hC
  have km1 : (-1 : Int32).toInt = -1 := by decide
  have k0 : (0 : Int32).toInt = 0 := by decide
  have k1 : (1 : Int32).toInt = 1 := by decide
  have k4 : (4 : Int32).toInt = 4 := by decide
  have k4096 : (4096 : Int32).toInt = 4096 := by decide
  have hK : Kp [(11, 15), (31, 35), (107, 108)] [(10, 2), (10, 3), (10, 4), (10, 5), (10, 6), (10, 7), (10, 11), (10, 12), (30, 5), (30, 6)] I I := Kp.rf
  have hl : lv_has ls 8 [(0, .ref (ad (30))), (1, .ref (ad (100))), (2, .int (a0)), (3, .int (a1)), (4, .int (a2))] := hl
  refine lv_aload_n hx hb dX0_search_0 rfl (lv_at hl 0 rfl) ?_
  refine lv_aload_n hx hb dX0_search_1 rfl (lv_at hl 1 rfl) ?_
  refine lv_iload_n hx hb dX0_search_2 rfl (lv_at hl 3 rfl) ?_
  refine m_callv (m_runV (30) (As := [.ref (ad (100)), .int (a1)]) (rest := []) hx hb hml hown hts hE hM hS hA ce_X0_gather tb_970 (V_X0_gather_t l D A ad ns I L G (a1) hG hI) rfl rfl ⟨Nat.le_of_ble_eq_true rfl, Nat.le_of_ble_eq_true rfl⟩ (hG.1 30 (by decide)) rfl rfl (by decide) rfl hl.1 rfl (Nat.le_of_ble_eq_true rfl) dX0_search_3 ⟨Nat.le_of_ble_eq_true rfl, Nat.le_of_ble_eq_true rfl⟩) hS (fun u H locs hw hM hS => ?_)
  obtain ⟨I1, L2, rfl, hI, hkI1, xI1⟩ := hw
  have hM : Mem D A ad ns I1 L2 G H := hM
  have hK := hK.trans hkI1 rfl
  have am0 : AMX (cF 100 I) I1 := fun n j a b c _ => by rw [cF_fr hkI1 rfl]
  refine lv_aload_n hx hb dX0_search_6 rfl (lv_at hl 0 rfl) ?_
  refine lv_iconst (v := (-1)) hx hb dX0_search_7 (by decide) ?_
  refine m_puti (30) 6 hx hb hts hown hE oc0 hM hS (hG.1 30 (by decide)) rfl (by decide) rfl rfl rfl rfl tb_211 dX0_search_8 (fun H locs I3 eI3 hM hS => ?_)
  subst eI3
  have hI := hI.putF (n := 30) (k := 6) (v := (-1 : Int32)) rfl
  have hK := hK.put (n := 30) (k := 6) (v := (-1 : Int32)) (by first | rfl | simp [inR])
  have gt4 : GTX (cF 100 I) (u2 I1 (30) 6 ((-1 : Int32))) := GTX.of xI1 (by simp [u2_v]) (by funext zz; simp [u2_v]) (by funext zz; simp [u2_v])
  have am5 : AMX (cF 100 I) (u2 I1 (30) 6 ((-1 : Int32))) := AMX.of am0 (by simp [u2_v]) (by funext zz; simp [u2_v]) (cF_u (n := 30) (by decide))
  refine lv_iconst (v := (1)) hx hb dX0_search_11 (by decide) ?_
  refine lv_istore (lv' := [(5, .int (1)), (0, .ref (ad (30))), (1, .ref (ad (100))), (2, .int (a0)), (3, .int (a1)), (4, .int (a2))]) hx hb dX0_search_12 hl (by decide) rfl (fun ls hl => ?_)
  refine lv_iconst (v := (0)) hx hb dX0_search_14 (by decide) ?_
  refine lv_istore (lv' := [(6, .int (0)), (5, .int (1)), (0, .ref (ad (30))), (1, .ref (ad (100))), (2, .int (a0)), (3, .int (a1)), (4, .int (a2))]) hx hb dX0_search_15 hl (by decide) rfl (fun ls hl => ?_)
  have loop17 : ∀ (n : Nat) (x6_17 : Int32) (x5_17 : Int32) (Ia17 : MI) (La17 : ML) (H : Heap) (locs : List Loc) (ls : Array Slot), INV Ia17 → Kp [(11, 15), (31, 35), (107, 108)] [(10, 2), (10, 3), (10, 4), (10, 5), (10, 6), (10, 7), (10, 11), (10, 12), (30, 5), (30, 6)] I Ia17 → (0 ≤ x6_17.toInt ∧ x6_17.toInt ≤ 4096) → (GTX (cF 100 I) Ia17) → (AMX (cF 100 I) Ia17) → (4096 - x6_17.toInt).toNat < n → Mem D A ad ns Ia17 La17 G H → va_S A s.heap H locs → lv_has ls 8 [(6, .int (x6_17)), (5, .int (x5_17)), (0, .ref (ad (30))), (1, .ref (ad (100))), (2, .int (a0)), (3, .int (a1)), (4, .int (a2))] → W p l e ({ frames := 4, cells := 0, slots := 0, locals := 107 } : Room) s m args below meth c H locs 0 0 (MQ below (va_Qv (fun u => ∃ I2 L2, u = (ad, ns, I2, L2, G) ∧ INV I2 ∧ Kp [(11, 15), (31, 35), (107, 108)] [(10, 2), (10, 3), (10, 4), (10, 5), (10, 6), (10, 7), (10, 11), (10, 12), (30, 5), (30, 6)] I I2 ∧ (KV 100 I I2)) (BM D A) A) args s 0 0 A) (F0 m 17 ls []) := by
    intro n
    induction n with
    | zero =>
      intro x6_17 x5_17 Ia17 La17 H locs ls hI hK hr6_17 hgt17 ham17 hmu
      exact absurd hmu (Nat.not_lt_zero _)
    | succ n ih17 =>
      intro x6_17 x5_17 Ia17 La17 H locs ls hI hK hr6_17 hgt17 ham17 hmu17 hM hS hl
      refine lv_iload hx hb dX0_search_17 (lv_at hl 1 rfl) ?_
      refine lv_if_eq (tgt := 119) hx hb dX0_search_19 (by decide) (fun c6 => ?_) (fun c6 => ?_)
      · have hc6 := c6
        have q6 := q_eq hc6
        refine lv_aload_n hx hb dX0_search_119 rfl (lv_at hl 2 rfl) ?_
        refine lv_aload_n hx hb dX0_search_120 rfl (lv_at hl 3 rfl) ?_
        refine lv_aload_n hx hb dX0_search_121 rfl (lv_at hl 2 rfl) ?_
        refine m_getr (30) 2 (32) hx hb hts hown hE oc0 hM (hG.1 30 (by decide)) rfl (by decide) rfl (hG.2 (30, 2, 32) (by decide)) (by decide) tb_207 dX0_search_122 ?_
        have hIp := hI
        refine m_callv (m_runV (30) (As := [.ref (ad (100)), .ref (ad (32))]) (rest := []) hx hb hml hown hts hE hM hS hA ce_X0_putSlants tb_975 (V_X0_putSlants_32_t l D A ad ns Ia17 La17 G hG hI) rfl rfl ⟨Nat.le_of_ble_eq_true rfl, Nat.le_of_ble_eq_true rfl⟩ (hG.1 30 (by decide)) rfl rfl (by decide) rfl hl.1 rfl (Nat.le_of_ble_eq_true rfl) dX0_search_125 ⟨Nat.le_of_ble_eq_true rfl, Nat.le_of_ble_eq_true rfl⟩) hS (fun u H locs hw hM hS => ?_)
        obtain ⟨I7, L8, rfl, hI, hkI7, xI7⟩ := hw
        have hM : Mem D A ad ns I7 L8 G H := hM
        have hK := hK.trans hkI7 rfl
        exact m_vret hx hb hr hlocks hM hS (Nat.le_of_ble_eq_true rfl) (Nat.le_of_ble_eq_true rfl) ⟨_, _, rfl, hI, hK, (AMX.fin ham17 hgt17 xI7 (by have g := hIp.get 30 5 (lo := 0) (hi := 4) rfl; have z := tn (i := Ia17 30 5) (by omega); omega))⟩ dX0_search_128
      · have hc6 := c6
        have q6 := q_ne hc6
        refine lv_iload hx hb dX0_search_22 (lv_at hl 0 rfl) ?_
        refine lv_sipush (v := (4096)) hx hb dX0_search_24 (by decide) ?_
        refine lv_icmp_ge (tgt := 119) hx hb dX0_search_27 (by decide) (fun c9 => ?_) (fun c9 => ?_)
        · have hc9 := c9
          have q9 := q_le hc9
          refine lv_aload_n hx hb dX0_search_119 rfl (lv_at hl 2 rfl) ?_
          refine lv_aload_n hx hb dX0_search_120 rfl (lv_at hl 3 rfl) ?_
          refine lv_aload_n hx hb dX0_search_121 rfl (lv_at hl 2 rfl) ?_
          refine m_getr (30) 2 (32) hx hb hts hown hE oc0 hM (hG.1 30 (by decide)) rfl (by decide) rfl (hG.2 (30, 2, 32) (by decide)) (by decide) tb_207 dX0_search_122 ?_
          have hIp := hI
          refine m_callv (m_runV (30) (As := [.ref (ad (100)), .ref (ad (32))]) (rest := []) hx hb hml hown hts hE hM hS hA ce_X0_putSlants tb_975 (V_X0_putSlants_32_t l D A ad ns Ia17 La17 G hG hI) rfl rfl ⟨Nat.le_of_ble_eq_true rfl, Nat.le_of_ble_eq_true rfl⟩ (hG.1 30 (by decide)) rfl rfl (by decide) rfl hl.1 rfl (Nat.le_of_ble_eq_true rfl) dX0_search_125 ⟨Nat.le_of_ble_eq_true rfl, Nat.le_of_ble_eq_true rfl⟩) hS (fun u H locs hw hM hS => ?_)
          obtain ⟨I10, L11, rfl, hI, hkI10, xI10⟩ := hw
          have hM : Mem D A ad ns I10 L11 G H := hM
          have hK := hK.trans hkI10 rfl
          exact m_vret hx hb hr hlocks hM hS (Nat.le_of_ble_eq_true rfl) (Nat.le_of_ble_eq_true rfl) ⟨_, _, rfl, hI, hK, (AMX.fin ham17 hgt17 xI10 (by have g := hIp.get 30 5 (lo := 0) (hi := 4) rfl; have z := tn (i := Ia17 30 5) (by omega); omega))⟩ dX0_search_128
        · have hc9 := c9
          have q9 := q_nle hc9
          refine lv_aload_n hx hb dX0_search_30 rfl (lv_at hl 2 rfl) ?_
          refine lv_aload_n hx hb dX0_search_31 rfl (lv_at hl 3 rfl) ?_
          refine lv_aload_n hx hb dX0_search_32 rfl (lv_at hl 2 rfl) ?_
          refine m_getr (30) 3 (33) hx hb hts hown hE oc0 hM (hG.1 30 (by decide)) rfl (by decide) rfl (hG.2 (30, 3, 33) (by decide)) (by decide) tb_208 dX0_search_33 ?_
          have hIp := hI
          refine m_callv (m_runV (30) (As := [.ref (ad (100)), .ref (ad (33))]) (rest := []) hx hb hml hown hts hE hM hS hA ce_X0_putSlants tb_975 (V_X0_putSlants_33_t l D A ad ns Ia17 La17 G hG hI) rfl rfl ⟨Nat.le_of_ble_eq_true rfl, Nat.le_of_ble_eq_true rfl⟩ (hG.1 30 (by decide)) rfl rfl (by decide) rfl hl.1 rfl (Nat.le_of_ble_eq_true rfl) dX0_search_36 ⟨Nat.le_of_ble_eq_true rfl, Nat.le_of_ble_eq_true rfl⟩) hS (fun u H locs hw hM hS => ?_)
          obtain ⟨I12, L13, rfl, hI, hkI12, xI12⟩ := hw
          have hM : Mem D A ad ns I12 L13 G H := hM
          have hK := hK.trans hkI12 rfl
          have gt14 : GTX (cF 100 I) I12 := GTX.of hgt17 (hkI12.get 30 5 rfl) (hkI12.getA 31 rfl) (hkI12.getA 32 rfl)
          have am15 : AMX (cF 100 I) I12 := AMX.put ham17 xI12 (hkI12.get 30 5 rfl) (hkI12.getA 31 rfl)
          refine lv_aload_n hx hb dX0_search_39 rfl (lv_at hl 2 rfl) ?_
          refine m_getr (30) 0 (10) hx hb hts hown hE oc0 hM (hG.1 30 (by decide)) rfl (by decide) rfl (hG.2 (30, 0, 10) (by decide)) (by decide) tb_205 dX0_search_40 ?_
          refine lv_aload_n hx hb dX0_search_43 rfl (lv_at hl 3 rfl) ?_
          refine lv_iload_n hx hb dX0_search_44 rfl (lv_at hl 4 rfl) ?_
          refine m_callv (m_runV (10) (As := [.ref (ad (100)), .int (a0)]) (rest := []) hx hb hml hown hts hE hM hS hA ce_X1_shine tb_980 (V_X1_shine_100 l D A ad ns I12 L13 G (a0) hG hI (hlit.kp hK rfl) (by first | omega | decide)) rfl rfl ⟨Nat.le_of_ble_eq_true rfl, Nat.le_of_ble_eq_true rfl⟩ (hG.1 10 (by decide)) rfl rfl (by decide) rfl hl.1 rfl (Nat.le_of_ble_eq_true rfl) dX0_search_45 ⟨Nat.le_of_ble_eq_true rfl, Nat.le_of_ble_eq_true rfl⟩) hS (fun u H locs hw hM hS => ?_)
          obtain ⟨I16, L17, rfl, hI, hkI16⟩ := hw
          have hM : Mem D A ad ns I16 L17 G H := hM
          have hK := hK.trans hkI16 rfl
          have gt18 : GTX (cF 100 I) I16 := GTX.of gt14 (hkI16.get 30 5 rfl) (hkI16.getA 31 rfl) (hkI16.getA 32 rfl)
          have am19 : AMX (cF 100 I) I16 := AMX.of am15 (hkI16.get 30 5 rfl) (hkI16.getA 31 rfl) (cF_fr hkI16 rfl)
          refine lv_iload hx hb dX0_search_48 (lv_at hl 6 rfl) ?_
          refine lv_iconst (v := (-1)) hx hb dX0_search_50 (by decide) ?_
          refine lv_icmp_ne (tgt := 62) hx hb dX0_search_51 (by decide) (fun c20 => ?_) (fun c20 => ?_)
          · have hc20 := c20
            have q20 := q_ne hc20
            refine lv_aload_n hx hb dX0_search_62 rfl (lv_at hl 2 rfl) ?_
            refine m_getr (30) 0 (10) hx hb hts hown hE oc0 hM (hG.1 30 (by decide)) rfl (by decide) rfl (hG.2 (30, 0, 10) (by decide)) (by decide) tb_205 dX0_search_63 ?_
            refine m_getr (10) 0 (11) hx hb hts hown hE oc1 hM (hG.1 10 (by decide)) rfl (by decide) rfl (hG.2 (10, 0, 11) (by decide)) (by decide) tb_131 dX0_search_66 ?_
            refine lv_iload hx hb dX0_search_69 (lv_at hl 6 rfl) ?_
            refine m_iald (11) hx hb hE hM (hG.1 11 (by decide)) rfl (vp_in_iff.mpr (by omega)) dX0_search_71 ?_
            refine lv_istore (lv' := [(7, .int (I16 (11) (a2).toNatClampNeg)), (6, .int (x6_17)), (5, .int (x5_17)), (0, .ref (ad (30))), (1, .ref (ad (100))), (2, .int (a0)), (3, .int (a1)), (4, .int (a2))]) hx hb dX0_search_72 hl (by decide) rfl (fun ls hl => ?_)
            refine lv_iload hx hb dX0_search_74 (lv_at hl 0 rfl) ?_
            refine lv_aload_n hx hb dX0_search_76 rfl (lv_at hl 3 rfl) ?_
            refine m_geti (30) 6 hx hb hts hown hE oc0 hM (hG.1 30 (by decide)) rfl (by decide) rfl tb_211 dX0_search_77 ?_
            have z21 : I16 (30) 6 = Ia17 (30) 6 := ((hkI16.get (30) 6 rfl)).trans (hkI12.get (30) 6 rfl)
            rw [z21]
            refine lv_icmp_le (tgt := 103) hx hb dX0_search_80 (by decide) (fun c22 => ?_) (fun c22 => ?_)
            · have hc22 := c22
              have q22 := q_le hc22
              refine lv_aload_n hx hb dX0_search_103 rfl (lv_at hl 3 rfl) ?_
              refine lv_aload_n hx hb dX0_search_104 rfl (lv_at hl 3 rfl) ?_
              refine m_calli (m_runV (30) (As := []) (rest := [.ref (ad (30))]) hx hb hml hown hts hE hM hS hA ce_X0_lastTouched tb_987 (V_X0_lastTouched l D A ad ns I16 L17 G hG hI) rfl rfl ⟨Nat.le_of_ble_eq_true rfl, Nat.le_of_ble_eq_true rfl⟩ (hG.1 30 (by decide)) rfl rfl (by decide) rfl hl.1 rfl (Nat.le_of_ble_eq_true rfl) dX0_search_105 ⟨Nat.le_of_ble_eq_true rfl, Nat.le_of_ble_eq_true rfl⟩) hS (fun r23 u H locs hw hM hS => ?_)
              obtain ⟨rfl, xr23⟩ := hw
              have hM : Mem D A ad ns I16 L17 G H := hM
              refine m_calli (m_runV (30) (As := [.int (r23)]) (rest := []) hx hb hml hown hts hE hM hS hA ce_X0_goOn tb_995 (V_X0_goOn l D A ad ns I16 L17 G (r23) hG hI (by first | omega | decide)) rfl rfl ⟨Nat.le_of_ble_eq_true rfl, Nat.le_of_ble_eq_true rfl⟩ (hG.1 30 (by decide)) rfl rfl (by decide) rfl hl.1 rfl (Nat.le_of_ble_eq_true rfl) dX0_search_108 ⟨Nat.le_of_ble_eq_true rfl, Nat.le_of_ble_eq_true rfl⟩) hS (fun r24 u H locs hw hM hS => ?_)
              obtain ⟨I25, L26, rfl, hI, hkI25, xr24⟩ := hw
              have hM : Mem D A ad ns I25 L26 G H := hM
              have hK := hK.trans hkI25 rfl
              have gt27 : GTX (cF 100 I) I25 := GTX.of gt18 (hkI25.get 30 5 rfl) (hkI25.getA 31 rfl) (hkI25.getA 32 rfl)
              have am28 : AMX (cF 100 I) I25 := AMX.of am19 (hkI25.get 30 5 rfl) (hkI25.getA 31 rfl) (cF_fr hkI25 rfl)
              refine lv_istore (lv' := [(5, .int (r24)), (7, .int (I16 (11) (a2).toNatClampNeg)), (6, .int (x6_17)), (0, .ref (ad (30))), (1, .ref (ad (100))), (2, .int (a0)), (3, .int (a1)), (4, .int (a2))]) hx hb dX0_search_111 hl (by decide) rfl (fun ls hl => ?_)
              obtain ⟨v29, ev29⟩ : ∃ z : Int32, z = x6_17 + Int32.ofInt (1) := ⟨_, rfl⟩
              have tv29 := a_inc ev29 (by decide) (by omega) (by omega)
              refine lv_iinc (v := v29) (lv' := [(6, .int (v29)), (5, .int (r24)), (7, .int (I16 (11) (a2).toNatClampNeg)), (0, .ref (ad (30))), (1, .ref (ad (100))), (2, .int (a0)), (3, .int (a1)), (4, .int (a2))]) hx hb dX0_search_113 hl (k := 2) rfl ev29.symm (by decide) rfl (fun ls hl => ?_)
              refine lv_goto (tgt := 17) hx hb dX0_search_116 (by decide) ?_
              exact ih17 (v29) (r24) I25 L26 _ _ ls hI hK (by first | omega | decide) gt27 am28 (by omega) hM hS (lv_sub hl [0, 1, 3, 4, 5, 6, 7] rfl)
            · have hc22 := c22
              have q22 := q_nle hc22
              refine lv_aload_n hx hb dX0_search_83 rfl (lv_at hl 3 rfl) ?_
              refine lv_iload hx hb dX0_search_84 (lv_at hl 0 rfl) ?_
              refine m_puti (30) 6 hx hb hts hown hE oc0 hM hS (hG.1 30 (by decide)) rfl (by decide) rfl rfl rfl rfl tb_211 dX0_search_86 (fun H locs I30 eI30 hM hS => ?_)
              subst eI30
              have hI := hI.putF (n := 30) (k := 6) (v := I16 (11) (a2).toNatClampNeg) rfl
              have hK := hK.put (n := 30) (k := 6) (v := I16 (11) (a2).toNatClampNeg) (by first | rfl | simp [inR])
              have gt31 : GTX (cF 100 I) (u2 I16 (30) 6 (I16 (11) (a2).toNatClampNeg)) := GTX.of gt18 (by simp [u2_v]) (by funext zz; simp [u2_v]) (by funext zz; simp [u2_v])
              have am32 : AMX (cF 100 I) (u2 I16 (30) 6 (I16 (11) (a2).toNatClampNeg)) := AMX.of am19 (by simp [u2_v]) (by funext zz; simp [u2_v]) (cF_u (n := 30) (by decide))
              refine lv_aload_n hx hb dX0_search_89 rfl (lv_at hl 3 rfl) ?_
              refine m_getr (30) 3 (33) hx hb hts hown hE oc0 hM (hG.1 30 (by decide)) rfl (by decide) rfl (hG.2 (30, 3, 33) (by decide)) (by decide) tb_208 dX0_search_90 ?_
              refine lv_iconst (v := (0)) hx hb dX0_search_93 (by decide) ?_
              refine lv_aload_n hx hb dX0_search_94 rfl (lv_at hl 3 rfl) ?_
              refine m_getr (30) 4 (34) hx hb hts hown hE oc0 hM (hG.1 30 (by decide)) rfl (by decide) rfl (hG.2 (30, 4, 34) (by decide)) (by decide) tb_209 dX0_search_95 ?_
              refine lv_iconst (v := (0)) hx hb dX0_search_98 (by decide) ?_
              refine lv_iconst (v := (4)) hx hb dX0_search_99 (by decide) ?_
              refine m_copyi (33) (34) hx hb (hml.trans hl.1.symm) hown hE hM hS (hG.1 33 (by decide)) rfl (hG.1 34 (by decide)) rfl (hts _ tb_986) (hts _ tb_568) (hts _ tb_567) (hts _ tb_13) ⟨⟨by decide, by decide, by decide⟩, by decide, by decide⟩ (Nat.le_of_ble_eq_true rfl) (Nat.le_of_ble_eq_true rfl) dX0_search_100 (fun H locs I33 eI33 hM hS => ?_)
              have hI : INV I33 := by rw [eI33]; exact hI.cpy (by intro i hi; left; rfl)
              have hK : Kp [(11, 15), (31, 35), (107, 108)] [(10, 2), (10, 3), (10, 4), (10, 5), (10, 6), (10, 7), (10, 11), (10, 12), (30, 5), (30, 6)] I I33 := by rw [eI33]; exact hK.cpy rfl
              have hkI33 : Kp [(34, 35)] [] (u2 I16 (30) 6 (I16 (11) (a2).toNatClampNeg)) I33 := by rw [eI33]; exact Kp.rf.cpy rfl
              have gt34 : GTX (cF 100 I) I33 := GTX.of gt31 (hkI33.get 30 5 rfl) (hkI33.getA 31 rfl) (hkI33.getA 32 rfl)
              have am35 : AMX (cF 100 I) I33 := AMX.of am32 (hkI33.get 30 5 rfl) (hkI33.getA 31 rfl) (cF_fr hkI33 rfl)
              refine lv_aload_n hx hb dX0_search_103 rfl (lv_at hl 3 rfl) ?_
              refine lv_aload_n hx hb dX0_search_104 rfl (lv_at hl 3 rfl) ?_
              refine m_calli (m_runV (30) (As := []) (rest := [.ref (ad (30))]) hx hb hml hown hts hE hM hS hA ce_X0_lastTouched tb_987 (V_X0_lastTouched l D A ad ns I33 L17 G hG hI) rfl rfl ⟨Nat.le_of_ble_eq_true rfl, Nat.le_of_ble_eq_true rfl⟩ (hG.1 30 (by decide)) rfl rfl (by decide) rfl hl.1 rfl (Nat.le_of_ble_eq_true rfl) dX0_search_105 ⟨Nat.le_of_ble_eq_true rfl, Nat.le_of_ble_eq_true rfl⟩) hS (fun r36 u H locs hw hM hS => ?_)
              obtain ⟨rfl, xr36⟩ := hw
              have hM : Mem D A ad ns I33 L17 G H := hM
              refine m_calli (m_runV (30) (As := [.int (r36)]) (rest := []) hx hb hml hown hts hE hM hS hA ce_X0_goOn tb_995 (V_X0_goOn l D A ad ns I33 L17 G (r36) hG hI (by first | omega | decide)) rfl rfl ⟨Nat.le_of_ble_eq_true rfl, Nat.le_of_ble_eq_true rfl⟩ (hG.1 30 (by decide)) rfl rfl (by decide) rfl hl.1 rfl (Nat.le_of_ble_eq_true rfl) dX0_search_108 ⟨Nat.le_of_ble_eq_true rfl, Nat.le_of_ble_eq_true rfl⟩) hS (fun r37 u H locs hw hM hS => ?_)
              obtain ⟨I38, L39, rfl, hI, hkI38, xr37⟩ := hw
              have hM : Mem D A ad ns I38 L39 G H := hM
              have hK := hK.trans hkI38 rfl
              have gt40 : GTX (cF 100 I) I38 := GTX.of gt34 (hkI38.get 30 5 rfl) (hkI38.getA 31 rfl) (hkI38.getA 32 rfl)
              have am41 : AMX (cF 100 I) I38 := AMX.of am35 (hkI38.get 30 5 rfl) (hkI38.getA 31 rfl) (cF_fr hkI38 rfl)
              refine lv_istore (lv' := [(5, .int (r37)), (7, .int (I16 (11) (a2).toNatClampNeg)), (6, .int (x6_17)), (0, .ref (ad (30))), (1, .ref (ad (100))), (2, .int (a0)), (3, .int (a1)), (4, .int (a2))]) hx hb dX0_search_111 hl (by decide) rfl (fun ls hl => ?_)
              obtain ⟨v42, ev42⟩ : ∃ z : Int32, z = x6_17 + Int32.ofInt (1) := ⟨_, rfl⟩
              have tv42 := a_inc ev42 (by decide) (by omega) (by omega)
              refine lv_iinc (v := v42) (lv' := [(6, .int (v42)), (5, .int (r37)), (7, .int (I16 (11) (a2).toNatClampNeg)), (0, .ref (ad (30))), (1, .ref (ad (100))), (2, .int (a0)), (3, .int (a1)), (4, .int (a2))]) hx hb dX0_search_113 hl (k := 2) rfl ev42.symm (by decide) rfl (fun ls hl => ?_)
              refine lv_goto (tgt := 17) hx hb dX0_search_116 (by decide) ?_
              exact ih17 (v42) (r37) I38 L39 _ _ ls hI hK (by first | omega | decide) gt40 am41 (by omega) hM hS (lv_sub hl [0, 1, 3, 4, 5, 6, 7] rfl)
          · have hc20 := c20
            have q20 := q_eq hc20
            refine lv_aload_n hx hb dX0_search_54 rfl (lv_at hl 2 rfl) ?_
            refine lv_aload_n hx hb dX0_search_55 rfl (lv_at hl 3 rfl) ?_
            refine m_calli (m_runV (30) (As := [.ref (ad (100))]) (rest := []) hx hb hml hown hts hE hM hS hA ce_X0_leastGot tb_981 (V_X0_leastGot l D A ad ns I16 L17 G hG hI) rfl rfl ⟨Nat.le_of_ble_eq_true rfl, Nat.le_of_ble_eq_true rfl⟩ (hG.1 30 (by decide)) rfl rfl (by decide) rfl hl.1 rfl (Nat.le_of_ble_eq_true rfl) dX0_search_56 ⟨Nat.le_of_ble_eq_true rfl, Nat.le_of_ble_eq_true rfl⟩) hS (fun r43 u H locs hw hM hS => ?_)
            obtain ⟨rfl, xr43⟩ := hw
            have hM : Mem D A ad ns I16 L17 G H := hM
            refine lv_goto (tgt := 72) hx hb dX0_search_59 (by decide) ?_
            refine lv_istore (lv' := [(7, .int (r43)), (6, .int (x6_17)), (5, .int (x5_17)), (0, .ref (ad (30))), (1, .ref (ad (100))), (2, .int (a0)), (3, .int (a1)), (4, .int (a2))]) hx hb dX0_search_72 hl (by decide) rfl (fun ls hl => ?_)
            refine lv_iload hx hb dX0_search_74 (lv_at hl 0 rfl) ?_
            refine lv_aload_n hx hb dX0_search_76 rfl (lv_at hl 3 rfl) ?_
            refine m_geti (30) 6 hx hb hts hown hE oc0 hM (hG.1 30 (by decide)) rfl (by decide) rfl tb_211 dX0_search_77 ?_
            have z44 : I16 (30) 6 = Ia17 (30) 6 := ((hkI16.get (30) 6 rfl)).trans (hkI12.get (30) 6 rfl)
            rw [z44]
            refine lv_icmp_le (tgt := 103) hx hb dX0_search_80 (by decide) (fun c45 => ?_) (fun c45 => ?_)
            · have hc45 := c45
              have q45 := q_le hc45
              refine lv_aload_n hx hb dX0_search_103 rfl (lv_at hl 3 rfl) ?_
              refine lv_aload_n hx hb dX0_search_104 rfl (lv_at hl 3 rfl) ?_
              refine m_calli (m_runV (30) (As := []) (rest := [.ref (ad (30))]) hx hb hml hown hts hE hM hS hA ce_X0_lastTouched tb_987 (V_X0_lastTouched l D A ad ns I16 L17 G hG hI) rfl rfl ⟨Nat.le_of_ble_eq_true rfl, Nat.le_of_ble_eq_true rfl⟩ (hG.1 30 (by decide)) rfl rfl (by decide) rfl hl.1 rfl (Nat.le_of_ble_eq_true rfl) dX0_search_105 ⟨Nat.le_of_ble_eq_true rfl, Nat.le_of_ble_eq_true rfl⟩) hS (fun r46 u H locs hw hM hS => ?_)
              obtain ⟨rfl, xr46⟩ := hw
              have hM : Mem D A ad ns I16 L17 G H := hM
              refine m_calli (m_runV (30) (As := [.int (r46)]) (rest := []) hx hb hml hown hts hE hM hS hA ce_X0_goOn tb_995 (V_X0_goOn l D A ad ns I16 L17 G (r46) hG hI (by first | omega | decide)) rfl rfl ⟨Nat.le_of_ble_eq_true rfl, Nat.le_of_ble_eq_true rfl⟩ (hG.1 30 (by decide)) rfl rfl (by decide) rfl hl.1 rfl (Nat.le_of_ble_eq_true rfl) dX0_search_108 ⟨Nat.le_of_ble_eq_true rfl, Nat.le_of_ble_eq_true rfl⟩) hS (fun r47 u H locs hw hM hS => ?_)
              obtain ⟨I48, L49, rfl, hI, hkI48, xr47⟩ := hw
              have hM : Mem D A ad ns I48 L49 G H := hM
              have hK := hK.trans hkI48 rfl
              have gt50 : GTX (cF 100 I) I48 := GTX.of gt18 (hkI48.get 30 5 rfl) (hkI48.getA 31 rfl) (hkI48.getA 32 rfl)
              have am51 : AMX (cF 100 I) I48 := AMX.of am19 (hkI48.get 30 5 rfl) (hkI48.getA 31 rfl) (cF_fr hkI48 rfl)
              refine lv_istore (lv' := [(5, .int (r47)), (7, .int (r43)), (6, .int (x6_17)), (0, .ref (ad (30))), (1, .ref (ad (100))), (2, .int (a0)), (3, .int (a1)), (4, .int (a2))]) hx hb dX0_search_111 hl (by decide) rfl (fun ls hl => ?_)
              obtain ⟨v52, ev52⟩ : ∃ z : Int32, z = x6_17 + Int32.ofInt (1) := ⟨_, rfl⟩
              have tv52 := a_inc ev52 (by decide) (by omega) (by omega)
              refine lv_iinc (v := v52) (lv' := [(6, .int (v52)), (5, .int (r47)), (7, .int (r43)), (0, .ref (ad (30))), (1, .ref (ad (100))), (2, .int (a0)), (3, .int (a1)), (4, .int (a2))]) hx hb dX0_search_113 hl (k := 2) rfl ev52.symm (by decide) rfl (fun ls hl => ?_)
              refine lv_goto (tgt := 17) hx hb dX0_search_116 (by decide) ?_
              exact ih17 (v52) (r47) I48 L49 _ _ ls hI hK (by first | omega | decide) gt50 am51 (by omega) hM hS (lv_sub hl [0, 1, 3, 4, 5, 6, 7] rfl)
            · have hc45 := c45
              have q45 := q_nle hc45
              refine lv_aload_n hx hb dX0_search_83 rfl (lv_at hl 3 rfl) ?_
              refine lv_iload hx hb dX0_search_84 (lv_at hl 0 rfl) ?_
              refine m_puti (30) 6 hx hb hts hown hE oc0 hM hS (hG.1 30 (by decide)) rfl (by decide) rfl rfl rfl rfl tb_211 dX0_search_86 (fun H locs I53 eI53 hM hS => ?_)
              subst eI53
              have hI := hI.putF (n := 30) (k := 6) (v := r43) rfl
              have hK := hK.put (n := 30) (k := 6) (v := r43) (by first | rfl | simp [inR])
              have gt54 : GTX (cF 100 I) (u2 I16 (30) 6 (r43)) := GTX.of gt18 (by simp [u2_v]) (by funext zz; simp [u2_v]) (by funext zz; simp [u2_v])
              have am55 : AMX (cF 100 I) (u2 I16 (30) 6 (r43)) := AMX.of am19 (by simp [u2_v]) (by funext zz; simp [u2_v]) (cF_u (n := 30) (by decide))
              refine lv_aload_n hx hb dX0_search_89 rfl (lv_at hl 3 rfl) ?_
              refine m_getr (30) 3 (33) hx hb hts hown hE oc0 hM (hG.1 30 (by decide)) rfl (by decide) rfl (hG.2 (30, 3, 33) (by decide)) (by decide) tb_208 dX0_search_90 ?_
              refine lv_iconst (v := (0)) hx hb dX0_search_93 (by decide) ?_
              refine lv_aload_n hx hb dX0_search_94 rfl (lv_at hl 3 rfl) ?_
              refine m_getr (30) 4 (34) hx hb hts hown hE oc0 hM (hG.1 30 (by decide)) rfl (by decide) rfl (hG.2 (30, 4, 34) (by decide)) (by decide) tb_209 dX0_search_95 ?_
              refine lv_iconst (v := (0)) hx hb dX0_search_98 (by decide) ?_
              refine lv_iconst (v := (4)) hx hb dX0_search_99 (by decide) ?_
              refine m_copyi (33) (34) hx hb (hml.trans hl.1.symm) hown hE hM hS (hG.1 33 (by decide)) rfl (hG.1 34 (by decide)) rfl (hts _ tb_986) (hts _ tb_568) (hts _ tb_567) (hts _ tb_13) ⟨⟨by decide, by decide, by decide⟩, by decide, by decide⟩ (Nat.le_of_ble_eq_true rfl) (Nat.le_of_ble_eq_true rfl) dX0_search_100 (fun H locs I56 eI56 hM hS => ?_)
              have hI : INV I56 := by rw [eI56]; exact hI.cpy (by intro i hi; left; rfl)
              have hK : Kp [(11, 15), (31, 35), (107, 108)] [(10, 2), (10, 3), (10, 4), (10, 5), (10, 6), (10, 7), (10, 11), (10, 12), (30, 5), (30, 6)] I I56 := by rw [eI56]; exact hK.cpy rfl
              have hkI56 : Kp [(34, 35)] [] (u2 I16 (30) 6 (r43)) I56 := by rw [eI56]; exact Kp.rf.cpy rfl
              have gt57 : GTX (cF 100 I) I56 := GTX.of gt54 (hkI56.get 30 5 rfl) (hkI56.getA 31 rfl) (hkI56.getA 32 rfl)
              have am58 : AMX (cF 100 I) I56 := AMX.of am55 (hkI56.get 30 5 rfl) (hkI56.getA 31 rfl) (cF_fr hkI56 rfl)
              refine lv_aload_n hx hb dX0_search_103 rfl (lv_at hl 3 rfl) ?_
              refine lv_aload_n hx hb dX0_search_104 rfl (lv_at hl 3 rfl) ?_
              refine m_calli (m_runV (30) (As := []) (rest := [.ref (ad (30))]) hx hb hml hown hts hE hM hS hA ce_X0_lastTouched tb_987 (V_X0_lastTouched l D A ad ns I56 L17 G hG hI) rfl rfl ⟨Nat.le_of_ble_eq_true rfl, Nat.le_of_ble_eq_true rfl⟩ (hG.1 30 (by decide)) rfl rfl (by decide) rfl hl.1 rfl (Nat.le_of_ble_eq_true rfl) dX0_search_105 ⟨Nat.le_of_ble_eq_true rfl, Nat.le_of_ble_eq_true rfl⟩) hS (fun r59 u H locs hw hM hS => ?_)
              obtain ⟨rfl, xr59⟩ := hw
              have hM : Mem D A ad ns I56 L17 G H := hM
              refine m_calli (m_runV (30) (As := [.int (r59)]) (rest := []) hx hb hml hown hts hE hM hS hA ce_X0_goOn tb_995 (V_X0_goOn l D A ad ns I56 L17 G (r59) hG hI (by first | omega | decide)) rfl rfl ⟨Nat.le_of_ble_eq_true rfl, Nat.le_of_ble_eq_true rfl⟩ (hG.1 30 (by decide)) rfl rfl (by decide) rfl hl.1 rfl (Nat.le_of_ble_eq_true rfl) dX0_search_108 ⟨Nat.le_of_ble_eq_true rfl, Nat.le_of_ble_eq_true rfl⟩) hS (fun r60 u H locs hw hM hS => ?_)
              obtain ⟨I61, L62, rfl, hI, hkI61, xr60⟩ := hw
              have hM : Mem D A ad ns I61 L62 G H := hM
              have hK := hK.trans hkI61 rfl
              have gt63 : GTX (cF 100 I) I61 := GTX.of gt57 (hkI61.get 30 5 rfl) (hkI61.getA 31 rfl) (hkI61.getA 32 rfl)
              have am64 : AMX (cF 100 I) I61 := AMX.of am58 (hkI61.get 30 5 rfl) (hkI61.getA 31 rfl) (cF_fr hkI61 rfl)
              refine lv_istore (lv' := [(5, .int (r60)), (7, .int (r43)), (6, .int (x6_17)), (0, .ref (ad (30))), (1, .ref (ad (100))), (2, .int (a0)), (3, .int (a1)), (4, .int (a2))]) hx hb dX0_search_111 hl (by decide) rfl (fun ls hl => ?_)
              obtain ⟨v65, ev65⟩ : ∃ z : Int32, z = x6_17 + Int32.ofInt (1) := ⟨_, rfl⟩
              have tv65 := a_inc ev65 (by decide) (by omega) (by omega)
              refine lv_iinc (v := v65) (lv' := [(6, .int (v65)), (5, .int (r60)), (7, .int (r43)), (0, .ref (ad (30))), (1, .ref (ad (100))), (2, .int (a0)), (3, .int (a1)), (4, .int (a2))]) hx hb dX0_search_113 hl (k := 2) rfl ev65.symm (by decide) rfl (fun ls hl => ?_)
              refine lv_goto (tgt := 17) hx hb dX0_search_116 (by decide) ?_
              exact ih17 (v65) (r60) I61 L62 _ _ ls hI hK (by first | omega | decide) gt63 am64 (by omega) hM hS (lv_sub hl [0, 1, 3, 4, 5, 6, 7] rfl)
  exact loop17 (_ + 1) (0) (1) (u2 I1 (30) 6 ((-1 : Int32))) L2 _ _ ls hI hK (by first | omega | decide) gt4 am5 (Nat.lt_succ_self _) hM hS (lv_sub hl [0, 1, 2, 3, 4, 5, 6] rfl)
set_option maxHeartbeats 4000000 in
set_option maxRecDepth 20000 in
theorem V_X9_aim_t (l : Launch) (D : va_G) (A : Nat → Prop) (ad : Nat → Nat) (ns : List Nat) (I : MI) (L : ML) (G : MG) (a0 : Int32) (a1 : Int32) (a2 : Int32) (a3 : Int32) (hG : SGC ns G) (hI : INV I) : Met l yX9_aim (wd yX9_aim cX9_aim 5 (some .int)) ({ frames := 5, cells := 0, slots := 0, locals := 134 }) (va_Pc [.ref (ad (0)), .int a0, .int a1, .int a2, .int a3] (PM D A ad ns I L G)) (va_Qi (fun r u => ∃ I2 L2, u = (ad, ns, I2, L2, G) ∧ INV I2 ∧ Kp [(11, 15), (31, 35), (107, 108)] [(10, 2), (10, 3), (10, 4), (10, 5), (10, 6), (10, 7), (10, 11), (10, 12), (30, 5), (30, 6)] I I2 ∧ (KV 100 I I2)) (BM D A) A) 0 0 A := by
  refine m_ofW (by decide) (Nat.le_of_ble_eq_true rfl) ?_
  intro p e s m below meth c ls args hC hE hM hA hS hl
  obtain ⟨hx, hb, hml, hown, hts, hr, hlocks, hin⟩ := hC
  have km1 : (-1 : Int32).toInt = -1 := by decide
  have k0 : (0 : Int32).toInt = 0 := by decide
  have hK : Kp [(11, 15), (31, 35), (107, 108)] [(10, 2), (10, 3), (10, 4), (10, 5), (10, 6), (10, 7), (10, 11), (10, 12), (30, 5), (30, 6)] I I := Kp.rf
  have hl : lv_has ls 5 [(0, .ref (ad (0))), (1, .int (a0)), (2, .int (a1)), (3, .int (a2)), (4, .int (a3))] := hl
  refine lv_aload_n hx hb dX9_aim_0 rfl (lv_at hl 0 rfl) ?_
  refine m_getr (0) 0 (100) hx hb hts hown hE oc9 hM (hG.1 0 (by decide)) rfl (by decide) rfl (hG.2 (0, 0, 100) (by decide)) (by decide) tb_398 dX9_aim_1 ?_
  refine lv_iload_n hx hb dX9_aim_4 rfl (lv_at hl 1 rfl) ?_
  refine m_calli (m_runV (100) (As := [.int (a0)]) (rest := []) hx hb hml hown hts hE hM hS hA ce_X8_isLit tb_906 (V_X8_isLit_100 l D A ad ns I L G (a0) hG hI) rfl rfl ⟨Nat.le_of_ble_eq_true rfl, Nat.le_of_ble_eq_true rfl⟩ (hG.1 100 (by decide)) rfl rfl (by decide) rfl hl.1 rfl (Nat.le_of_ble_eq_true rfl) dX9_aim_5 ⟨Nat.le_of_ble_eq_true rfl, Nat.le_of_ble_eq_true rfl⟩) hS (fun r1 u H locs hw hM hS => ?_)
  obtain ⟨rfl, xr1⟩ := hw
  have hM : Mem D A ad ns I L G H := hM
  have yr1 := bo01 xr1
  refine lv_if_eq (tgt := 32) hx hb dX9_aim_8 (by decide) (fun c2 => ?_) (fun c2 => ?_)
  · have hc2 := c2
    have q2 := xr1.f hc2
    refine lv_iconst (v := (-1)) hx hb dX9_aim_32 (by decide) ?_
    exact m_iret hx hb hr hlocks hM hS (Nat.le_of_ble_eq_true rfl) (Nat.le_of_ble_eq_true rfl) ⟨_, _, rfl, hI, hK, EqV.rf⟩ dX9_aim_33
  · have hc2 := c2
    have q2 := xr1.t hc2
    have lh2 := q2.2.1
    refine lv_aload_n hx hb dX9_aim_11 rfl (lv_at hl 0 rfl) ?_
    refine m_getr (0) 0 (100) hx hb hts hown hE oc9 hM (hG.1 0 (by decide)) rfl (by decide) rfl (hG.2 (0, 0, 100) (by decide)) (by decide) tb_398 dX9_aim_12 ?_
    refine lv_iload_n hx hb dX9_aim_15 rfl (lv_at hl 2 rfl) ?_
    refine m_calli (m_runV (100) (As := [.int (a1)]) (rest := []) hx hb hml hown hts hE hM hS hA ce_X8_hasYard tb_893 (V_X8_hasYard_100 l D A ad ns I L G (a1) hG hI) rfl rfl ⟨Nat.le_of_ble_eq_true rfl, Nat.le_of_ble_eq_true rfl⟩ (hG.1 100 (by decide)) rfl rfl (by decide) rfl hl.1 rfl (Nat.le_of_ble_eq_true rfl) dX9_aim_16 ⟨Nat.le_of_ble_eq_true rfl, Nat.le_of_ble_eq_true rfl⟩) hS (fun r3 u H locs hw hM hS => ?_)
    obtain ⟨rfl, xr3⟩ := hw
    have hM : Mem D A ad ns I L G H := hM
    have yr3 := bo01 xr3
    have g4 := hI.get 100 9 (lo := 0) (hi := 8) rfl
    refine lv_if_eq (tgt := 32) hx hb dX9_aim_19 (by decide) (fun c5 => ?_) (fun c5 => ?_)
    · have hc5 := c5
      have q5 := xr3.f hc5
      refine lv_iconst (v := (-1)) hx hb dX9_aim_32 (by decide) ?_
      exact m_iret hx hb hr hlocks hM hS (Nat.le_of_ble_eq_true rfl) (Nat.le_of_ble_eq_true rfl) ⟨_, _, rfl, hI, hK, EqV.rf⟩ dX9_aim_33
    · have hc5 := c5
      have q5 := xr3.t hc5
      refine lv_aload_n hx hb dX9_aim_22 rfl (lv_at hl 0 rfl) ?_
      refine lv_iload_n hx hb dX9_aim_23 rfl (lv_at hl 3 rfl) ?_
      refine lv_iload hx hb dX9_aim_24 (lv_at hl 4 rfl) ?_
      refine m_calli (m_runV (0) (As := [.int (a2), .int (a3)]) (rest := []) hx hb hml hown hts hE hM hS hA ce_X9_isPlaceOfSet tb_956 (V_X9_isPlaceOfSet l D A ad ns I L G (a2) (a3) hG hI) rfl rfl ⟨Nat.le_of_ble_eq_true rfl, Nat.le_of_ble_eq_true rfl⟩ (hG.1 0 (by decide)) rfl rfl (by decide) rfl hl.1 rfl (Nat.le_of_ble_eq_true rfl) dX9_aim_26 ⟨Nat.le_of_ble_eq_true rfl, Nat.le_of_ble_eq_true rfl⟩) hS (fun r6 u H locs hw hM hS => ?_)
      obtain ⟨rfl, xr6⟩ := hw
      have hM : Mem D A ad ns I L G H := hM
      refine lv_if_ne (tgt := 34) hx hb dX9_aim_29 (by decide) (fun c7 => ?_) (fun c7 => ?_)
      · have hc7 := c7
        have q7 := q_ne hc7
        refine lv_aload_n hx hb dX9_aim_34 rfl (lv_at hl 0 rfl) ?_
        refine m_getr (0) 5 (30) hx hb hts hown hE oc9 hM (hG.1 0 (by decide)) rfl (by decide) rfl (hG.2 (0, 5, 30) (by decide)) (by decide) tb_403 dX9_aim_35 ?_
        refine lv_aload_n hx hb dX9_aim_38 rfl (lv_at hl 0 rfl) ?_
        refine m_getr (0) 0 (100) hx hb hts hown hE oc9 hM (hG.1 0 (by decide)) rfl (by decide) rfl (hG.2 (0, 0, 100) (by decide)) (by decide) tb_398 dX9_aim_39 ?_
        refine lv_iload_n hx hb dX9_aim_42 rfl (lv_at hl 1 rfl) ?_
        refine lv_iload_n hx hb dX9_aim_43 rfl (lv_at hl 3 rfl) ?_
        refine lv_iload_n hx hb dX9_aim_44 rfl (lv_at hl 2 rfl) ?_
        refine m_callv (m_runV (30) (As := [.ref (ad (100)), .int (a0), .int (a2), .int (a1)]) (rest := []) hx hb hml hown hts hE hM hS hA ce_X0_search tb_966 (V_X0_search_t l D A ad ns I L G (a0) (a2) (a1) hG hI (q2.2) (by first | omega | decide) (by first | omega | decide)) rfl rfl ⟨Nat.le_of_ble_eq_true rfl, Nat.le_of_ble_eq_true rfl⟩ (hG.1 30 (by decide)) rfl rfl (by decide) rfl hl.1 rfl (Nat.le_of_ble_eq_true rfl) dX9_aim_45 ⟨Nat.le_of_ble_eq_true rfl, Nat.le_of_ble_eq_true rfl⟩) hS (fun u H locs hw hM hS => ?_)
        obtain ⟨I8, L9, rfl, hI, hkI8, xI8⟩ := hw
        have hM : Mem D A ad ns I8 L9 G H := hM
        have hK := hK.trans hkI8 rfl
        refine lv_aload_n hx hb dX9_aim_48 rfl (lv_at hl 0 rfl) ?_
        refine m_getr (0) 5 (30) hx hb hts hown hE oc9 hM (hG.1 0 (by decide)) rfl (by decide) rfl (hG.2 (0, 5, 30) (by decide)) (by decide) tb_403 dX9_aim_49 ?_
        refine lv_iload hx hb dX9_aim_52 (lv_at hl 4 rfl) ?_
        refine m_calli (m_runV (30) (As := [.int (a3)]) (rest := []) hx hb hml hown hts hE hM hS hA ce_X0_answer tb_999 (V_X0_answer l D A ad ns I8 L9 G (a3) hG hI) rfl rfl ⟨Nat.le_of_ble_eq_true rfl, Nat.le_of_ble_eq_true rfl⟩ (hG.1 30 (by decide)) rfl rfl (by decide) rfl hl.1 rfl (Nat.le_of_ble_eq_true rfl) dX9_aim_54 ⟨Nat.le_of_ble_eq_true rfl, Nat.le_of_ble_eq_true rfl⟩) hS (fun r10 u H locs hw hM hS => ?_)
        obtain ⟨rfl, xr10⟩ := hw
        have hM : Mem D A ad ns I8 L9 G H := hM
        exact m_iret hx hb hr hlocks hM hS (Nat.le_of_ble_eq_true rfl) (Nat.le_of_ble_eq_true rfl) ⟨_, _, rfl, hI, hK, (EqV.rf.tr xI8)⟩ dX9_aim_57
      · have hc7 := c7
        have q7 := q_eq hc7
        refine lv_iconst (v := (-1)) hx hb dX9_aim_32 (by decide) ?_
        exact m_iret hx hb hr hlocks hM hS (Nat.le_of_ble_eq_true rfl) (Nat.le_of_ble_eq_true rfl) ⟨_, _, rfl, hI, hK, EqV.rf⟩ dX9_aim_33
set_option maxHeartbeats 4000000 in
set_option maxRecDepth 20000 in
theorem V_X9_fair_t (l : Launch) (D : va_G) (A : Nat → Prop) (ad : Nat → Nat) (ns : List Nat) (I : MI) (L : ML) (G : MG) (a0 : Int32) (a1 : Int32) (a2 : Int32) (hG : SGC ns G) (hI : INV I) : Met l yX9_fair (wd yX9_fair cX9_fair 4 (some .int)) ({ frames := 5, cells := 0, slots := 0, locals := 134 }) (va_Pc [.ref (ad (0)), .int a0, .int a1, .int a2] (PM D A ad ns I L G)) (va_Qi (fun r u => ∃ I2 L2, u = (ad, ns, I2, L2, G) ∧ INV I2 ∧ Kp [(11, 15), (31, 35), (107, 108)] [(10, 2), (10, 3), (10, 4), (10, 5), (10, 6), (10, 7), (10, 11), (10, 12), (30, 5), (30, 6)] I I2 ∧ (KV 100 I I2)) (BM D A) A) 0 0 A := by
  refine m_ofW (by decide) (Nat.le_of_ble_eq_true rfl) ?_
  intro p e s m below meth c ls args hC hE hM hA hS hl
  obtain ⟨hx, hb, hml, hown, hts, hr, hlocks, hin⟩ := hC
  have km1 : (-1 : Int32).toInt = -1 := by decide
  have k0 : (0 : Int32).toInt = 0 := by decide
  have hK : Kp [(11, 15), (31, 35), (107, 108)] [(10, 2), (10, 3), (10, 4), (10, 5), (10, 6), (10, 7), (10, 11), (10, 12), (30, 5), (30, 6)] I I := Kp.rf
  have hl : lv_has ls 4 [(0, .ref (ad (0))), (1, .int (a0)), (2, .int (a1)), (3, .int (a2))] := hl
  refine lv_aload_n hx hb dX9_fair_0 rfl (lv_at hl 0 rfl) ?_
  refine m_getr (0) 0 (100) hx hb hts hown hE oc9 hM (hG.1 0 (by decide)) rfl (by decide) rfl (hG.2 (0, 0, 100) (by decide)) (by decide) tb_398 dX9_fair_1 ?_
  refine lv_iload_n hx hb dX9_fair_4 rfl (lv_at hl 1 rfl) ?_
  refine m_calli (m_runV (100) (As := [.int (a0)]) (rest := []) hx hb hml hown hts hE hM hS hA ce_X8_isLit tb_906 (V_X8_isLit_100 l D A ad ns I L G (a0) hG hI) rfl rfl ⟨Nat.le_of_ble_eq_true rfl, Nat.le_of_ble_eq_true rfl⟩ (hG.1 100 (by decide)) rfl rfl (by decide) rfl hl.1 rfl (Nat.le_of_ble_eq_true rfl) dX9_fair_5 ⟨Nat.le_of_ble_eq_true rfl, Nat.le_of_ble_eq_true rfl⟩) hS (fun r1 u H locs hw hM hS => ?_)
  obtain ⟨rfl, xr1⟩ := hw
  have hM : Mem D A ad ns I L G H := hM
  have yr1 := bo01 xr1
  refine lv_if_eq (tgt := 30) hx hb dX9_fair_8 (by decide) (fun c2 => ?_) (fun c2 => ?_)
  · have hc2 := c2
    have q2 := xr1.f hc2
    refine lv_iconst (v := (-1)) hx hb dX9_fair_30 (by decide) ?_
    exact m_iret hx hb hr hlocks hM hS (Nat.le_of_ble_eq_true rfl) (Nat.le_of_ble_eq_true rfl) ⟨_, _, rfl, hI, hK, EqV.rf⟩ dX9_fair_31
  · have hc2 := c2
    have q2 := xr1.t hc2
    have lh2 := q2.2.1
    refine lv_aload_n hx hb dX9_fair_11 rfl (lv_at hl 0 rfl) ?_
    refine m_getr (0) 0 (100) hx hb hts hown hE oc9 hM (hG.1 0 (by decide)) rfl (by decide) rfl (hG.2 (0, 0, 100) (by decide)) (by decide) tb_398 dX9_fair_12 ?_
    refine m_geti (100) 9 hx hb hts hown hE oc8 hM (hG.1 100 (by decide)) rfl (by decide) rfl tb_64 dX9_fair_15 ?_
    have g3 := hI.get (100) 9 (lo := 0) (hi := 8) rfl
    refine lv_if_eq (tgt := 30) hx hb dX9_fair_18 (by decide) (fun c4 => ?_) (fun c4 => ?_)
    · have hc4 := c4
      have q4 := q_eq hc4
      refine lv_iconst (v := (-1)) hx hb dX9_fair_30 (by decide) ?_
      exact m_iret hx hb hr hlocks hM hS (Nat.le_of_ble_eq_true rfl) (Nat.le_of_ble_eq_true rfl) ⟨_, _, rfl, hI, hK, EqV.rf⟩ dX9_fair_31
    · have hc4 := c4
      have q4 := q_ne hc4
      refine lv_aload_n hx hb dX9_fair_21 rfl (lv_at hl 0 rfl) ?_
      refine lv_iload_n hx hb dX9_fair_22 rfl (lv_at hl 2 rfl) ?_
      refine lv_iload_n hx hb dX9_fair_23 rfl (lv_at hl 3 rfl) ?_
      refine m_calli (m_runV (0) (As := [.int (a1), .int (a2)]) (rest := []) hx hb hml hown hts hE hM hS hA ce_X9_isPlaceOfSet tb_956 (V_X9_isPlaceOfSet l D A ad ns I L G (a1) (a2) hG hI) rfl rfl ⟨Nat.le_of_ble_eq_true rfl, Nat.le_of_ble_eq_true rfl⟩ (hG.1 0 (by decide)) rfl rfl (by decide) rfl hl.1 rfl (Nat.le_of_ble_eq_true rfl) dX9_fair_24 ⟨Nat.le_of_ble_eq_true rfl, Nat.le_of_ble_eq_true rfl⟩) hS (fun r5 u H locs hw hM hS => ?_)
      obtain ⟨rfl, xr5⟩ := hw
      have hM : Mem D A ad ns I L G H := hM
      refine lv_if_ne (tgt := 32) hx hb dX9_fair_27 (by decide) (fun c6 => ?_) (fun c6 => ?_)
      · have hc6 := c6
        have q6 := q_ne hc6
        refine lv_aload_n hx hb dX9_fair_32 rfl (lv_at hl 0 rfl) ?_
        refine m_getr (0) 5 (30) hx hb hts hown hE oc9 hM (hG.1 0 (by decide)) rfl (by decide) rfl (hG.2 (0, 5, 30) (by decide)) (by decide) tb_403 dX9_fair_33 ?_
        refine lv_aload_n hx hb dX9_fair_36 rfl (lv_at hl 0 rfl) ?_
        refine m_getr (0) 0 (100) hx hb hts hown hE oc9 hM (hG.1 0 (by decide)) rfl (by decide) rfl (hG.2 (0, 0, 100) (by decide)) (by decide) tb_398 dX9_fair_37 ?_
        refine lv_iload_n hx hb dX9_fair_40 rfl (lv_at hl 1 rfl) ?_
        refine lv_iload_n hx hb dX9_fair_41 rfl (lv_at hl 2 rfl) ?_
        refine lv_iconst (v := (-1)) hx hb dX9_fair_42 (by decide) ?_
        refine m_callv (m_runV (30) (As := [.ref (ad (100)), .int (a0), .int (a1), .int ((-1 : Int32))]) (rest := []) hx hb hml hown hts hE hM hS hA ce_X0_search tb_966 (V_X0_search_t l D A ad ns I L G (a0) (a1) ((-1 : Int32)) hG hI (q2.2) (by first | omega | decide) (by first | omega | decide)) rfl rfl ⟨Nat.le_of_ble_eq_true rfl, Nat.le_of_ble_eq_true rfl⟩ (hG.1 30 (by decide)) rfl rfl (by decide) rfl hl.1 rfl (Nat.le_of_ble_eq_true rfl) dX9_fair_43 ⟨Nat.le_of_ble_eq_true rfl, Nat.le_of_ble_eq_true rfl⟩) hS (fun u H locs hw hM hS => ?_)
        obtain ⟨I7, L8, rfl, hI, hkI7, xI7⟩ := hw
        have hM : Mem D A ad ns I7 L8 G H := hM
        have hK := hK.trans hkI7 rfl
        refine lv_aload_n hx hb dX9_fair_46 rfl (lv_at hl 0 rfl) ?_
        refine m_getr (0) 5 (30) hx hb hts hown hE oc9 hM (hG.1 0 (by decide)) rfl (by decide) rfl (hG.2 (0, 5, 30) (by decide)) (by decide) tb_403 dX9_fair_47 ?_
        refine lv_iload_n hx hb dX9_fair_50 rfl (lv_at hl 3 rfl) ?_
        refine m_calli (m_runV (30) (As := [.int (a2)]) (rest := []) hx hb hml hown hts hE hM hS hA ce_X0_answer tb_999 (V_X0_answer l D A ad ns I7 L8 G (a2) hG hI) rfl rfl ⟨Nat.le_of_ble_eq_true rfl, Nat.le_of_ble_eq_true rfl⟩ (hG.1 30 (by decide)) rfl rfl (by decide) rfl hl.1 rfl (Nat.le_of_ble_eq_true rfl) dX9_fair_51 ⟨Nat.le_of_ble_eq_true rfl, Nat.le_of_ble_eq_true rfl⟩) hS (fun r9 u H locs hw hM hS => ?_)
        obtain ⟨rfl, xr9⟩ := hw
        have hM : Mem D A ad ns I7 L8 G H := hM
        exact m_iret hx hb hr hlocks hM hS (Nat.le_of_ble_eq_true rfl) (Nat.le_of_ble_eq_true rfl) ⟨_, _, rfl, hI, hK, (EqV.rf.tr xI7)⟩ dX9_fair_54
      · have hc6 := c6
        have q6 := q_eq hc6
        refine lv_iconst (v := (-1)) hx hb dX9_fair_30 (by decide) ?_
        exact m_iret hx hb hr hlocks hM hS (Nat.le_of_ble_eq_true rfl) (Nat.le_of_ble_eq_true rfl) ⟨_, _, rfl, hI, hK, EqV.rf⟩ dX9_fair_31
