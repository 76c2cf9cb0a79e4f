theorem dX0_answer_0 : decode cX0_answer 0 = .ok (.iload_n 1, 1) := by decide +kernel
theorem dX0_answer_1 : decode cX0_answer 1 = .ok (.iconst 0, 1) := by decide +kernel
theorem dX0_answer_2 : decode cX0_answer 2 = .ok (.aload_n 0, 1) := by decide +kernel
theorem dX0_answer_3 : decode cX0_answer 3 = .ok (.getfield 28, 3) := by decide +kernel
theorem dX0_answer_6 : decode cX0_answer 6 = .ok (.iconst 1, 1) := by decide +kernel
theorem dX0_answer_7 : decode cX0_answer 7 = .ok (.isub, 1) := by decide +kernel
theorem dX0_answer_8 : decode cX0_answer 8 = .ok (.invokestatic 32, 3) := by decide +kernel
theorem dX0_answer_11 : decode cX0_answer 11 = .ok (.ifCond .eq 12, 3) := by decide +kernel
theorem dX0_answer_14 : decode cX0_answer 14 = .ok (.aload_n 0, 1) := by decide +kernel
theorem dX0_answer_15 : decode cX0_answer 15 = .ok (.getfield 21, 3) := by decide +kernel
theorem dX0_answer_18 : decode cX0_answer 18 = .ok (.iload_n 1, 1) := by decide +kernel
theorem dX0_answer_19 : decode cX0_answer 19 = .ok (.iaload, 1) := by decide +kernel
theorem dX0_answer_20 : decode cX0_answer 20 = .ok (.goto 7, 3) := by decide +kernel
theorem dX0_answer_23 : decode cX0_answer 23 = .ok (.aload_n 0, 1) := by decide +kernel
theorem dX0_answer_24 : decode cX0_answer 24 = .ok (.getfield 36, 3) := by decide +kernel
theorem dX0_answer_27 : decode cX0_answer 27 = .ok (.ireturn, 1) := by decide +kernel
theorem ce_X0_answer : CeV RX0 yX0_answer cX0_answer 2 (some .int) 1 := ⟨tb_1000, tb_1001, tb_5, tb_1002, rfl, by decide, by decide, by decide +kernel⟩
set_option maxHeartbeats 4000000 in
set_option maxRecDepth 20000 in
theorem V_X0_answer (l : Launch) (D : va_G) (A : Nat → Prop) (ad : Nat → Nat) (ns : List Nat) (I : MI) (L : ML) (G : MG) (a0 : Int32) (hG : SGC ns G) (hI : INV I) : Met l yX0_answer (wd yX0_answer cX0_answer 2 (some .int)) ({ frames := 1, cells := 0, slots := 0, locals := 22 }) (va_Pc [.ref (ad (30)), .int a0] (PM D A ad ns I L G)) (va_Qi (fun r u => u = (ad, ns, I, L, G) ∧ (True)) (BM D A) A) 0 0 A := by
  refine m_ofW (by decide) (Nat.le_of_ble_eq_true rfl) ?_
  intro p e s m below meth c ls args hC hE hM hA hS hl
  obtain ⟨hx, hb, hml, hown, hts, hr, hlocks, hin⟩ := hC
  have k0 : (0 : Int32).toInt = 0 := by decide
  have k1 : (1 : Int32).toInt = 1 := by decide
  have hl : lv_has ls 2 [(0, .ref (ad (30))), (1, .int (a0))] := hl
  refine lv_iload_n hx hb dX0_answer_0 rfl (lv_at hl 1 rfl) ?_
  refine lv_iconst (v := (0)) hx hb dX0_answer_1 (by decide) ?_
  refine lv_aload_n hx hb dX0_answer_2 rfl (lv_at hl 0 rfl) ?_
  refine m_geti (30) 5 hx hb hts hown hE oc0 hM (hG.1 30 (by decide)) rfl (by decide) rfl tb_210 dX0_answer_3 ?_
  have g1 := hI.get (30) 5 (lo := 0) (hi := 4) rfl
  refine lv_iconst (v := (1)) hx hb dX0_answer_6 (by decide) ?_
  refine lv_isub hx hb dX0_answer_7 ?_
  refine lv_topi (fun v2 ev2 => ?_)
  have tv2 := a_sub ev2 (by omega) (by omega)
  refine m_calli (m_runSN (As := [.int (a0), .int (0), .int (v2)]) (rest := []) hx hb hml hown hts hE hM hS hA ce_X9_isWithin (List.mem_of_getElem? (i := 11) rfl) (V_X9_isWithin l D A ad ns I L G (a0) (0) (v2) hI) rfl rfl ⟨Nat.le_of_ble_eq_true rfl, Nat.le_of_ble_eq_true rfl⟩  rfl hl.1 rfl (Nat.le_of_ble_eq_true rfl) dX0_answer_8 ⟨Nat.le_of_ble_eq_true rfl, Nat.le_of_ble_eq_true rfl⟩) hS (fun r3 u H locs hw hM hS => ?_)
  obtain ⟨rfl, xr3⟩ := hw
  have hM : Mem D A ad ns I L G H := hM
  have yr3 := bo01 xr3
  refine lv_if_eq (tgt := 23) hx hb dX0_answer_11 (by decide) (fun c4 => ?_) (fun c4 => ?_)
  · have hc4 := c4
    have q4 := xr3.f hc4
    refine lv_aload_n hx hb dX0_answer_23 rfl (lv_at hl 0 rfl) ?_
    refine m_geti (30) 6 hx hb hts hown hE oc0 hM (hG.1 30 (by decide)) rfl (by decide) rfl tb_211 dX0_answer_24 ?_
    exact m_iret hx hb hr hlocks hM hS (Nat.le_of_ble_eq_true rfl) (Nat.le_of_ble_eq_true rfl) ⟨rfl, trivial⟩ dX0_answer_27
  · have hc4 := c4
    have q4 := xr3.t hc4
    refine lv_aload_n hx hb dX0_answer_14 rfl (lv_at hl 0 rfl) ?_
    refine m_getr (30) 4 (34) hx hb hts hown hE oc0 hM (hG.1 30 (by decide)) rfl (by decide) rfl (hG.2 (30, 4, 34) (by decide)) (by decide) tb_209 dX0_answer_15 ?_
    refine lv_iload_n hx hb dX0_answer_18 rfl (lv_at hl 1 rfl) ?_
    refine m_iald (34) hx hb hE hM (hG.1 34 (by decide)) rfl (vp_in_iff.mpr (by omega)) dX0_answer_19 ?_
    refine lv_goto (tgt := 27) hx hb dX0_answer_20 (by decide) ?_
    exact m_iret hx hb hr hlocks hM hS (Nat.le_of_ble_eq_true rfl) (Nat.le_of_ble_eq_true rfl) ⟨rfl, trivial⟩ dX0_answer_27
theorem dX0_gather_0 : decode cX0_gather 0 = .ok (.aload_n 0, 1) := by decide +kernel
theorem dX0_gather_1 : decode cX0_gather 1 = .ok (.iconst 0, 1) := by decide +kernel
theorem dX0_gather_2 : decode cX0_gather 2 = .ok (.putfield 28, 3) := by decide +kernel
theorem dX0_gather_5 : decode cX0_gather 5 = .ok (.iconst 0, 1) := by decide +kernel
theorem dX0_gather_6 : decode cX0_gather 6 = .ok (.istore_n 3, 1) := by decide +kernel
theorem dX0_gather_7 : decode cX0_gather 7 = .ok (.iload_n 3, 1) := by decide +kernel
theorem dX0_gather_8 : decode cX0_gather 8 = .ok (.aload_n 1, 1) := by decide +kernel
theorem dX0_gather_9 : decode cX0_gather 9 = .ok (.getfield 73, 3) := by decide +kernel
theorem dX0_gather_12 : decode cX0_gather 12 = .ok (.if_icmp .ge 71, 3) := by decide +kernel
theorem dX0_gather_15 : decode cX0_gather 15 = .ok (.aload_n 0, 1) := by decide +kernel
theorem dX0_gather_16 : decode cX0_gather 16 = .ok (.getfield 28, 3) := by decide +kernel
theorem dX0_gather_19 : decode cX0_gather 19 = .ok (.iconst 4, 1) := by decide +kernel
theorem dX0_gather_20 : decode cX0_gather 20 = .ok (.if_icmp .ge 63, 3) := by decide +kernel
theorem dX0_gather_23 : decode cX0_gather 23 = .ok (.iload_n 2, 1) := by decide +kernel
theorem dX0_gather_24 : decode cX0_gather 24 = .ok (.iload_n 3, 1) := by decide +kernel
theorem dX0_gather_25 : decode cX0_gather 25 = .ok (.ishr, 1) := by decide +kernel
theorem dX0_gather_26 : decode cX0_gather 26 = .ok (.iconst 1, 1) := by decide +kernel
theorem dX0_gather_27 : decode cX0_gather 27 = .ok (.iand, 1) := by decide +kernel
theorem dX0_gather_28 : decode cX0_gather 28 = .ok (.iconst 1, 1) := by decide +kernel
theorem dX0_gather_29 : decode cX0_gather 29 = .ok (.if_icmp .ne 48, 3) := by decide +kernel
theorem dX0_gather_32 : decode cX0_gather 32 = .ok (.aload_n 0, 1) := by decide +kernel
theorem dX0_gather_33 : decode cX0_gather 33 = .ok (.getfield 9, 3) := by decide +kernel
theorem dX0_gather_36 : decode cX0_gather 36 = .ok (.aload_n 0, 1) := by decide +kernel
theorem dX0_gather_37 : decode cX0_gather 37 = .ok (.getfield 28, 3) := by decide +kernel
theorem dX0_gather_40 : decode cX0_gather 40 = .ok (.iload_n 3, 1) := by decide +kernel
theorem dX0_gather_41 : decode cX0_gather 41 = .ok (.iastore, 1) := by decide +kernel
theorem dX0_gather_42 : decode cX0_gather 42 = .ok (.aload_n 0, 1) := by decide +kernel
theorem dX0_gather_43 : decode cX0_gather 43 = .ok (.getfield 15, 3) := by decide +kernel
theorem dX0_gather_46 : decode cX0_gather 46 = .ok (.aload_n 0, 1) := by decide +kernel
theorem dX0_gather_47 : decode cX0_gather 47 = .ok (.getfield 28, 3) := by decide +kernel
theorem dX0_gather_50 : decode cX0_gather 50 = .ok (.aload_n 1, 1) := by decide +kernel
theorem dX0_gather_51 : decode cX0_gather 51 = .ok (.iload_n 3, 1) := by decide +kernel
theorem dX0_gather_52 : decode cX0_gather 52 = .ok (.iconst 2, 1) := by decide +kernel
theorem dX0_gather_53 : decode cX0_gather 53 = .ok (.invokevirtual 78, 3) := by decide +kernel
theorem dX0_gather_56 : decode cX0_gather 56 = .ok (.iastore, 1) := by decide +kernel
theorem dX0_gather_57 : decode cX0_gather 57 = .ok (.aload_n 0, 1) := by decide +kernel
theorem dX0_gather_58 : decode cX0_gather 58 = .ok (.getfield 18, 3) := by decide +kernel
theorem dX0_gather_61 : decode cX0_gather 61 = .ok (.aload_n 0, 1) := by decide +kernel
theorem dX0_gather_62 : decode cX0_gather 62 = .ok (.getfield 28, 3) := by decide +kernel
theorem dX0_gather_65 : decode cX0_gather 65 = .ok (.iconst 0, 1) := by decide +kernel
theorem dX0_gather_66 : decode cX0_gather 66 = .ok (.iastore, 1) := by decide +kernel
theorem dX0_gather_67 : decode cX0_gather 67 = .ok (.aload_n 0, 1) := by decide +kernel
theorem dX0_gather_68 : decode cX0_gather 68 = .ok (.dup, 1) := by decide +kernel
theorem dX0_gather_69 : decode cX0_gather 69 = .ok (.getfield 28, 3) := by decide +kernel
theorem dX0_gather_72 : decode cX0_gather 72 = .ok (.iconst 1, 1) := by decide +kernel
theorem dX0_gather_73 : decode cX0_gather 73 = .ok (.iadd, 1) := by decide +kernel
theorem dX0_gather_74 : decode cX0_gather 74 = .ok (.putfield 28, 3) := by decide +kernel
theorem dX0_gather_77 : decode cX0_gather 77 = .ok (.iinc 3 1, 3) := by decide +kernel
theorem dX0_gather_80 : decode cX0_gather 80 = .ok (.goto (-73), 3) := by decide +kernel
theorem dX0_gather_83 : decode cX0_gather 83 = .ok (.return_, 1) := by decide +kernel
theorem ce_X0_gather : CeV RX0 yX0_gather cX0_gather 4 none 2 := ⟨tb_972, tp_38, tb_5, tb_973, rfl, by decide, by decide, by decide +kernel⟩
set_option maxHeartbeats 4000000 in
set_option maxRecDepth 20000 in
theorem V_X0_gather (l : Launch) (D : va_G) (A : Nat → Prop) (ad : Nat → Nat) (ns : List Nat) (I : MI) (L : ML) (G : MG) (a0 : Int32) (hG : SGC ns G) (hI : INV I) : Met l yX0_gather (wd yX0_gather cX0_gather 4 none) ({ frames := 1, cells := 0, slots := 0, locals := 22 }) (va_Pc [.ref (ad (30)), .ref (ad (100)), .int a0] (PM D A ad ns I L G)) (va_Qv (fun u => ∃ I2 L2, u = (ad, ns, I2, L2, G) ∧ INV I2 ∧ Kp [(31, 34)] [(30, 5)] I I2) (BM D A) A) 0 0 A := by
  refine m_ofW (by decide) (Nat.le_of_ble_eq_true rfl) ?_
  intro p e s m below meth c ls args hC hE hM hA hS hl
  obtain ⟨hx, hb, hml, hown, hts, hr, hlocks, hin⟩ := hC
  have k0 : (0 : Int32).toInt = 0 := by decide
  have k1 : (1 : Int32).toInt = 1 := by decide
  have k2 : (2 : Int32).toInt = 2 := by decide
  have k4 : (4 : Int32).toInt = 4 := by decide
  have hK : Kp [(31, 34)] [(30, 5)] I I := Kp.rf
  have hl : lv_has ls 4 [(0, .ref (ad (30))), (1, .ref (ad (100))), (2, .int (a0))] := hl
  refine lv_aload_n hx hb dX0_gather_0 rfl (lv_at hl 0 rfl) ?_
  refine lv_iconst (v := (0)) hx hb dX0_gather_1 (by decide) ?_
  refine m_puti (30) 5 hx hb hts hown hE oc0 hM hS (hG.1 30 (by decide)) rfl (by decide) rfl rfl rfl rfl tb_210 dX0_gather_2 (fun H locs I1 eI1 hM hS => ?_)
  subst eI1
  have hI := hI.put (n := 30) (k := 5) (v := 0) (lo := 0) (hi := 4) rfl (by first | omega | decide)
  have hK := hK.put (n := 30) (k := 5) (v := 0) (by first | rfl | simp [inR])
  refine lv_iconst (v := (0)) hx hb dX0_gather_5 (by decide) ?_
  refine lv_istore_n (lv' := [(3, .int (0)), (0, .ref (ad (30))), (1, .ref (ad (100))), (2, .int (a0))]) hx hb dX0_gather_6 rfl hl (by decide) rfl (fun ls hl => ?_)
  have loop7 : ∀ (n : Nat) (x3_7 : Int32) (Ia7 : MI) (La7 : ML) (H : Heap) (locs : List Loc) (ls : Array Slot), INV Ia7 → Kp [(31, 34)] [(30, 5)] I Ia7 → (0 ≤ x3_7.toInt ∧ x3_7.toInt ≤ 24) → (24 - x3_7.toInt).toNat < n → Mem D A ad ns Ia7 La7 G H → va_S A s.heap H locs → lv_has ls 4 [(3, .int (x3_7)), (0, .ref (ad (30))), (1, .ref (ad (100))), (2, .int (a0))] → W p l e ({ frames := 1, cells := 0, slots := 0, locals := 22 } : Room) s m args below meth c H locs 0 0 (MQ below (va_Qv (fun u => ∃ I2 L2, u = (ad, ns, I2, L2, G) ∧ INV I2 ∧ Kp [(31, 34)] [(30, 5)] I I2) (BM D A) A) args s 0 0 A) (F0 m 7 ls []) := by
    intro n
    induction n with
    | zero =>
      intro x3_7 Ia7 La7 H locs ls hI hK hr3_7 hmu
      exact absurd hmu (Nat.not_lt_zero _)
    | succ n ih7 =>
      intro x3_7 Ia7 La7 H locs ls hI hK hr3_7 hmu7 hM hS hl
      refine lv_iload_n hx hb dX0_gather_7 rfl (lv_at hl 0 rfl) ?_
      refine lv_aload_n hx hb dX0_gather_8 rfl (lv_at hl 2 rfl) ?_
      refine m_geti (100) 8 hx hb hts hown hE oc8 hM (hG.1 100 (by decide)) rfl (by decide) rfl tb_60 dX0_gather_9 ?_
      have g2 := hI.get (100) 8 (lo := 0) (hi := 24) rfl
      refine lv_icmp_ge (tgt := 83) hx hb dX0_gather_12 (by decide) (fun c3 => ?_) (fun c3 => ?_)
      · have hc3 := c3
        have q3 := q_le hc3
        exact m_vret hx hb hr hlocks hM hS (Nat.le_of_ble_eq_true rfl) (Nat.le_of_ble_eq_true rfl) ⟨_, _, rfl, hI, hK⟩ dX0_gather_83
      · have hc3 := c3
        have q3 := q_nle hc3
        refine lv_aload_n hx hb dX0_gather_15 rfl (lv_at hl 1 rfl) ?_
        refine m_geti (30) 5 hx hb hts hown hE oc0 hM (hG.1 30 (by decide)) rfl (by decide) rfl tb_210 dX0_gather_16 ?_
        have g4 := hI.get (30) 5 (lo := 0) (hi := 4) rfl
        refine lv_iconst (v := (4)) hx hb dX0_gather_19 (by decide) ?_
        refine lv_icmp_ge (tgt := 83) hx hb dX0_gather_20 (by decide) (fun c5 => ?_) (fun c5 => ?_)
        · have hc5 := c5
          have q5 := q_le hc5
          exact m_vret hx hb hr hlocks hM hS (Nat.le_of_ble_eq_true rfl) (Nat.le_of_ble_eq_true rfl) ⟨_, _, rfl, hI, hK⟩ dX0_gather_83
        · have hc5 := c5
          have q5 := q_nle hc5
          refine lv_iload_n hx hb dX0_gather_23 rfl (lv_at hl 3 rfl) ?_
          refine lv_iload_n hx hb dX0_gather_24 rfl (lv_at hl 0 rfl) ?_
          refine lv_ishr hx hb dX0_gather_25 ?_
          refine lv_topi (fun v6 ev6 => ?_)
          refine lv_iconst (v := (1)) hx hb dX0_gather_26 (by decide) ?_
          refine lv_iand hx hb dX0_gather_27 ?_
          refine lv_topi (fun v7 ev7 => ?_)
          have tv7 := a_and (c := 1) ev7 (by decide) (by decide)
          refine lv_iconst (v := (1)) hx hb dX0_gather_28 (by decide) ?_
          refine lv_icmp_ne (tgt := 77) hx hb dX0_gather_29 (by decide) (fun c8 => ?_) (fun c8 => ?_)
          · have hc8 := c8
            have q8 := q_ne hc8
            obtain ⟨v9, ev9⟩ : ∃ z : Int32, z = x3_7 + Int32.ofInt (1) := ⟨_, rfl⟩
            have tv9 := a_inc ev9 (by decide) (by omega) (by omega)
            refine lv_iinc (v := v9) (lv' := [(3, .int (v9)), (0, .ref (ad (30))), (1, .ref (ad (100))), (2, .int (a0))]) hx hb dX0_gather_77 hl (k := 0) rfl ev9.symm (by decide) rfl (fun ls hl => ?_)
            refine lv_goto (tgt := 7) hx hb dX0_gather_80 (by decide) ?_
            exact ih7 (v9) Ia7 La7 _ _ ls hI hK (by first | omega | decide) (by omega) hM hS (lv_sub hl [0, 1, 2, 3] rfl)
          · have hc8 := c8
            have q8 := q_eq hc8
            refine lv_aload_n hx hb dX0_gather_32 rfl (lv_at hl 1 rfl) ?_
            refine m_getr (30) 1 (31) hx hb hts hown hE oc0 hM (hG.1 30 (by decide)) rfl (by decide) rfl (hG.2 (30, 1, 31) (by decide)) (by decide) tb_206 dX0_gather_33 ?_
            refine lv_aload_n hx hb dX0_gather_36 rfl (lv_at hl 1 rfl) ?_
            refine m_geti (30) 5 hx hb hts hown hE oc0 hM (hG.1 30 (by decide)) rfl (by decide) rfl tb_210 dX0_gather_37 ?_
            refine lv_iload_n hx hb dX0_gather_40 rfl (lv_at hl 0 rfl) ?_
            refine m_iast (31) hx hb hE hM hS (hG.1 31 (by decide)) rfl (vp_in_iff.mpr (by omega)) dX0_gather_41 (fun H locs I10 eI10 hM hS => ?_)
            subst eI10
            have hI := hI.put (n := 31) (k := ((Ia7 (30) 5).toNatClampNeg)) (v := x3_7) (lo := 0) (hi := 23) rfl (by first | omega | decide)
            have hK := hK.put (n := 31) (k := ((Ia7 (30) 5).toNatClampNeg)) (v := x3_7) (by first | rfl | simp [inR])
            refine lv_aload_n hx hb dX0_gather_42 rfl (lv_at hl 1 rfl) ?_
            refine m_getr (30) 2 (32) hx hb hts hown hE oc0 hM (hG.1 30 (by decide)) rfl (by decide) rfl (hG.2 (30, 2, 32) (by decide)) (by decide) tb_207 dX0_gather_43 ?_
            refine lv_aload_n hx hb dX0_gather_46 rfl (lv_at hl 1 rfl) ?_
            refine m_geti (30) 5 hx hb hts hown hE oc0 hM (hG.1 30 (by decide)) rfl (by decide) rfl tb_210 dX0_gather_47 ?_
            have z11 : (u2 Ia7 (31) ((Ia7 (30) 5).toNatClampNeg) (x3_7)) (30) 5 = Ia7 (30) 5 := (show (u2 Ia7 (31) ((Ia7 (30) 5).toNatClampNeg) (x3_7)) (30) 5 = Ia7 (30) 5 from by simp [u2_v])
            rw [z11]
            refine lv_aload_n hx hb dX0_gather_50 rfl (lv_at hl 2 rfl) ?_
            refine lv_iload_n hx hb dX0_gather_51 rfl (lv_at hl 0 rfl) ?_
            refine lv_iconst (v := (2)) hx hb dX0_gather_52 (by decide) ?_
            refine m_calli (m_runV (100) (As := [.int (x3_7), .int (2)]) (rest := [.int (Ia7 (30) 5), .ref (ad (32))]) hx hb hml hown hts hE hM hS hA ce_X8_ofMirror tb_974 (V_X8_ofMirror_100 l D A ad ns (u2 Ia7 (31) ((Ia7 (30) 5).toNatClampNeg) (x3_7)) La7 G (x3_7) (2) hG hI (by first | omega | decide) (by first | omega | decide)) rfl rfl ⟨Nat.le_of_ble_eq_true rfl, Nat.le_of_ble_eq_true rfl⟩ (hG.1 100 (by decide)) rfl rfl (by decide) rfl hl.1 rfl (Nat.le_of_ble_eq_true rfl) dX0_gather_53 ⟨Nat.le_of_ble_eq_true rfl, Nat.le_of_ble_eq_true rfl⟩) hS (fun r12 u H locs hw hM hS => ?_)
            obtain ⟨rfl, xr12⟩ := hw
            have hM : Mem D A ad ns (u2 Ia7 (31) ((Ia7 (30) 5).toNatClampNeg) (x3_7)) La7 G H := hM
            refine m_iast (32) hx hb hE hM hS (hG.1 32 (by decide)) rfl (vp_in_iff.mpr (by omega)) dX0_gather_56 (fun H locs I13 eI13 hM hS => ?_)
            subst eI13
            have hI := hI.putF (n := 32) (k := ((Ia7 (30) 5).toNatClampNeg)) (v := r12) rfl
            have hK := hK.put (n := 32) (k := ((Ia7 (30) 5).toNatClampNeg)) (v := r12) (by first | rfl | simp [inR])
            refine lv_aload_n hx hb dX0_gather_57 rfl (lv_at hl 1 rfl) ?_
            refine m_getr (30) 3 (33) hx hb hts hown hE oc0 hM (hG.1 30 (by decide)) rfl (by decide) rfl (hG.2 (30, 3, 33) (by decide)) (by decide) tb_208 dX0_gather_58 ?_
            refine lv_aload_n hx hb dX0_gather_61 rfl (lv_at hl 1 rfl) ?_
            refine m_geti (30) 5 hx hb hts hown hE oc0 hM (hG.1 30 (by decide)) rfl (by decide) rfl tb_210 dX0_gather_62 ?_
            have z14 : (u2 (u2 Ia7 (31) ((Ia7 (30) 5).toNatClampNeg) (x3_7)) (32) ((Ia7 (30) 5).toNatClampNeg) (r12)) (30) 5 = Ia7 (30) 5 := (show (u2 (u2 Ia7 (31) ((Ia7 (30) 5).toNatClampNeg) (x3_7)) (32) ((Ia7 (30) 5).toNatClampNeg) (r12)) (30) 5 = Ia7 (30) 5 from by simp [u2_v])
            rw [z14]
            refine lv_iconst (v := (0)) hx hb dX0_gather_65 (by decide) ?_
            refine m_iast (33) hx hb hE hM hS (hG.1 33 (by decide)) rfl (vp_in_iff.mpr (by omega)) dX0_gather_66 (fun H locs I15 eI15 hM hS => ?_)
            subst eI15
            have hI := hI.putF (n := 33) (k := ((Ia7 (30) 5).toNatClampNeg)) (v := 0) rfl
            have hK := hK.put (n := 33) (k := ((Ia7 (30) 5).toNatClampNeg)) (v := 0) (by first | rfl | simp [inR])
            refine lv_aload_n hx hb dX0_gather_67 rfl (lv_at hl 1 rfl) ?_
            refine lv_dup hx hb dX0_gather_68 rfl ?_
            refine m_geti (30) 5 hx hb hts hown hE oc0 hM (hG.1 30 (by decide)) rfl (by decide) rfl tb_210 dX0_gather_69 ?_
            have z16 : (u2 (u2 (u2 Ia7 (31) ((Ia7 (30) 5).toNatClampNeg) (x3_7)) (32) ((Ia7 (30) 5).toNatClampNeg) (r12)) (33) ((Ia7 (30) 5).toNatClampNeg) (0)) (30) 5 = Ia7 (30) 5 := (show (u2 (u2 (u2 Ia7 (31) ((Ia7 (30) 5).toNatClampNeg) (x3_7)) (32) ((Ia7 (30) 5).toNatClampNeg) (r12)) (33) ((Ia7 (30) 5).toNatClampNeg) (0)) (30) 5 = Ia7 (30) 5 from by simp [u2_v])
            rw [z16]
            refine lv_iconst (v := (1)) hx hb dX0_gather_72 (by decide) ?_
            refine lv_iadd hx hb dX0_gather_73 ?_
            refine lv_topi (fun v17 ev17 => ?_)
            have tv17 := a_add ev17 (by omega) (by omega)
            refine m_puti (30) 5 hx hb hts hown hE oc0 hM hS (hG.1 30 (by decide)) rfl (by decide) rfl rfl rfl rfl tb_210 dX0_gather_74 (fun H locs I18 eI18 hM hS => ?_)
            subst eI18
            have hI := hI.put (n := 30) (k := 5) (v := v17) (lo := 0) (hi := 4) rfl (by first | omega | decide)
            have hK := hK.put (n := 30) (k := 5) (v := v17) (by first | rfl | simp [inR])
            obtain ⟨v19, ev19⟩ : ∃ z : Int32, z = x3_7 + Int32.ofInt (1) := ⟨_, rfl⟩
            have tv19 := a_inc ev19 (by decide) (by omega) (by omega)
            refine lv_iinc (v := v19) (lv' := [(3, .int (v19)), (0, .ref (ad (30))), (1, .ref (ad (100))), (2, .int (a0))]) hx hb dX0_gather_77 hl (k := 0) rfl ev19.symm (by decide) rfl (fun ls hl => ?_)
            refine lv_goto (tgt := 7) hx hb dX0_gather_80 (by decide) ?_
            exact ih7 (v19) (u2 (u2 (u2 (u2 Ia7 (31) ((Ia7 (30) 5).toNatClampNeg) (x3_7)) (32) ((Ia7 (30) 5).toNatClampNeg) (r12)) (33) ((Ia7 (30) 5).toNatClampNeg) (0)) (30) 5 (v17)) La7 _ _ ls hI hK (by first | omega | decide) (by omega) hM hS (lv_sub hl [0, 1, 2, 3] rfl)
  exact loop7 (_ + 1) (0) (u2 I (30) 5 (0)) L _ _ ls hI hK (by first | omega | decide) (Nat.lt_succ_self _) hM hS (lv_sub hl [0, 1, 2, 3] rfl)
theorem dX0_putSlants_0 : decode cX0_putSlants 0 = .ok (.iconst 0, 1) := by decide +kernel
theorem dX0_putSlants_1 : decode cX0_putSlants 1 = .ok (.istore_n 3, 1) := by decide +kernel
theorem dX0_putSlants_2 : decode cX0_putSlants 2 = .ok (.iload_n 3, 1) := by decide +kernel
theorem dX0_putSlants_3 : decode cX0_putSlants 3 = .ok (.aload_n 0, 1) := by decide +kernel
theorem dX0_putSlants_4 : decode cX0_putSlants 4 = .ok (.getfield 28, 3) := by decide +kernel
theorem dX0_putSlants_7 : decode cX0_putSlants 7 = .ok (.if_icmp .ge 23, 3) := by decide +kernel
theorem dX0_putSlants_10 : decode cX0_putSlants 10 = .ok (.aload_n 1, 1) := by decide +kernel
theorem dX0_putSlants_11 : decode cX0_putSlants 11 = .ok (.aload_n 0, 1) := by decide +kernel
theorem dX0_putSlants_12 : decode cX0_putSlants 12 = .ok (.getfield 9, 3) := by decide +kernel
theorem dX0_putSlants_15 : decode cX0_putSlants 15 = .ok (.iload_n 3, 1) := by decide +kernel
theorem dX0_putSlants_16 : decode cX0_putSlants 16 = .ok (.iaload, 1) := by decide +kernel
theorem dX0_putSlants_17 : decode cX0_putSlants 17 = .ok (.iconst 2, 1) := by decide +kernel
theorem dX0_putSlants_18 : decode cX0_putSlants 18 = .ok (.aload_n 2, 1) := by decide +kernel
theorem dX0_putSlants_19 : decode cX0_putSlants 19 = .ok (.iload_n 3, 1) := by decide +kernel
theorem dX0_putSlants_20 : decode cX0_putSlants 20 = .ok (.iaload, 1) := by decide +kernel
theorem dX0_putSlants_21 : decode cX0_putSlants 21 = .ok (.invokevirtual 82, 3) := by decide +kernel
theorem dX0_putSlants_24 : decode cX0_putSlants 24 = .ok (.iinc 3 1, 3) := by decide +kernel
theorem dX0_putSlants_27 : decode cX0_putSlants 27 = .ok (.goto (-25), 3) := by decide +kernel
theorem dX0_putSlants_30 : decode cX0_putSlants 30 = .ok (.return_, 1) := by decide +kernel
theorem ce_X0_putSlants : CeV RX0 yX0_putSlants cX0_putSlants 4 none 2 := ⟨tb_977, tp_39, tb_5, tb_978, rfl, by decide, by decide, by decide +kernel⟩
set_option maxHeartbeats 4000000 in
set_option maxRecDepth 20000 in
theorem V_X0_putSlants_32 (l : Launch) (D : va_G) (A : Nat → Prop) (ad : Nat → Nat) (ns : List Nat) (I : MI) (L : ML) (G : MG) (hG : SGC ns G) (hI : INV I) : Met l yX0_putSlants (wd yX0_putSlants cX0_putSlants 4 none) ({ frames := 1, cells := 0, slots := 0, locals := 23 }) (va_Pc [.ref (ad (30)), .ref (ad (100)), .ref (ad (32))] (PM D A ad ns I L G)) (va_Qv (fun u => ∃ I2 L2, u = (ad, ns, I2, L2, G) ∧ INV I2 ∧ Kp [(107, 108)] [] I I2) (BM D A) A) 0 0 A := by
  refine m_ofW (by decide) (Nat.le_of_ble_eq_true rfl) ?_
  intro p e s m below meth c ls args hC hE hM hA hS hl
  obtain ⟨hx, hb, hml, hown, hts, hr, hlocks, hin⟩ := hC
  have k0 : (0 : Int32).toInt = 0 := by decide
  have k2 : (2 : Int32).toInt = 2 := by decide
  have hK : Kp [(107, 108)] [] I I := Kp.rf
  have hl : lv_has ls 4 [(0, .ref (ad (30))), (1, .ref (ad (100))), (2, .ref (ad (32)))] := hl
  refine lv_iconst (v := (0)) hx hb dX0_putSlants_0 (by decide) ?_
  refine lv_istore_n (lv' := [(3, .int (0)), (0, .ref (ad (30))), (1, .ref (ad (100))), (2, .ref (ad (32)))]) hx hb dX0_putSlants_1 rfl hl (by decide) rfl (fun ls hl => ?_)
  have loop2 : ∀ (n : Nat) (x3_2 : Int32) (Ia2 : MI) (La2 : ML) (H : Heap) (locs : List Loc) (ls : Array Slot), INV Ia2 → Kp [(107, 108)] [] I Ia2 → (0 ≤ x3_2.toInt ∧ x3_2.toInt ≤ 4) → (4 - x3_2.toInt).toNat < n → Mem D A ad ns Ia2 La2 G H → va_S A s.heap H locs → lv_has ls 4 [(3, .int (x3_2)), (0, .ref (ad (30))), (1, .ref (ad (100))), (2, .ref (ad (32)))] → W p l e ({ frames := 1, cells := 0, slots := 0, locals := 23 } : Room) s m args below meth c H locs 0 0 (MQ below (va_Qv (fun u => ∃ I2 L2, u = (ad, ns, I2, L2, G) ∧ INV I2 ∧ Kp [(107, 108)] [] I I2) (BM D A) A) args s 0 0 A) (F0 m 2 ls []) := by
    intro n
    induction n with
    | zero =>
      intro x3_2 Ia2 La2 H locs ls hI hK hr3_2 hmu
      exact absurd hmu (Nat.not_lt_zero _)
    | succ n ih2 =>
      intro x3_2 Ia2 La2 H locs ls hI hK hr3_2 hmu2 hM hS hl
      refine lv_iload_n hx hb dX0_putSlants_2 rfl (lv_at hl 0 rfl) ?_
      refine lv_aload_n hx hb dX0_putSlants_3 rfl (lv_at hl 1 rfl) ?_
      refine m_geti (30) 5 hx hb hts hown hE oc0 hM (hG.1 30 (by decide)) rfl (by decide) rfl tb_210 dX0_putSlants_4 ?_
      have g1 := hI.get (30) 5 (lo := 0) (hi := 4) rfl
      refine lv_icmp_ge (tgt := 30) hx hb dX0_putSlants_7 (by decide) (fun c2 => ?_) (fun c2 => ?_)
      · have hc2 := c2
        have q2 := q_le hc2
        exact m_vret hx hb hr hlocks hM hS (Nat.le_of_ble_eq_true rfl) (Nat.le_of_ble_eq_true rfl) ⟨_, _, rfl, hI, hK⟩ dX0_putSlants_30
      · have hc2 := c2
        have q2 := q_nle hc2
        refine lv_aload_n hx hb dX0_putSlants_10 rfl (lv_at hl 2 rfl) ?_
        refine lv_aload_n hx hb dX0_putSlants_11 rfl (lv_at hl 1 rfl) ?_
        refine m_getr (30) 1 (31) hx hb hts hown hE oc0 hM (hG.1 30 (by decide)) rfl (by decide) rfl (hG.2 (30, 1, 31) (by decide)) (by decide) tb_206 dX0_putSlants_12 ?_
        refine lv_iload_n hx hb dX0_putSlants_15 rfl (lv_at hl 0 rfl) ?_
        refine m_iald (31) hx hb hE hM (hG.1 31 (by decide)) rfl (vp_in_iff.mpr (by omega)) dX0_putSlants_16 ?_
        have g3 := hI.get (31) ((x3_2).toNatClampNeg) (lo := 0) (hi := 23) rfl
        refine lv_iconst (v := (2)) hx hb dX0_putSlants_17 (by decide) ?_
        refine lv_aload_n hx hb dX0_putSlants_18 rfl (lv_at hl 3 rfl) ?_
        refine lv_iload_n hx hb dX0_putSlants_19 rfl (lv_at hl 0 rfl) ?_
        refine m_iald (32) hx hb hE hM (hG.1 32 (by decide)) rfl (vp_in_iff.mpr (by omega)) dX0_putSlants_20 ?_
        refine m_callv (m_runV (100) (As := [.int (Ia2 (31) (x3_2).toNatClampNeg), .int (2), .int (Ia2 (32) (x3_2).toNatClampNeg)]) (rest := []) hx hb hml hown hts hE hM hS hA ce_X8_setMirror tb_979 (V_X8_setMirror_100 l D A ad ns Ia2 La2 G (Ia2 (31) (x3_2).toNatClampNeg) (2) (Ia2 (32) (x3_2).toNatClampNeg) hG hI (by first | omega | decide) (by first | omega | decide)) rfl rfl ⟨Nat.le_of_ble_eq_true rfl, Nat.le_of_ble_eq_true rfl⟩ (hG.1 100 (by decide)) rfl rfl (by decide) rfl hl.1 rfl (Nat.le_of_ble_eq_true rfl) dX0_putSlants_21 ⟨Nat.le_of_ble_eq_true rfl, Nat.le_of_ble_eq_true rfl⟩) hS (fun u H locs hw hM hS => ?_)
        obtain ⟨I4, L5, rfl, hI, hkI4⟩ := hw
        have hM : Mem D A ad ns I4 L5 G H := hM
        have hK := hK.trans hkI4 rfl
        obtain ⟨v6, ev6⟩ : ∃ z : Int32, z = x3_2 + Int32.ofInt (1) := ⟨_, rfl⟩
        have tv6 := a_inc ev6 (by decide) (by omega) (by omega)
        refine lv_iinc (v := v6) (lv' := [(3, .int (v6)), (0, .ref (ad (30))), (1, .ref (ad (100))), (2, .ref (ad (32)))]) hx hb dX0_putSlants_24 hl (k := 0) rfl ev6.symm (by decide) rfl (fun ls hl => ?_)
        refine lv_goto (tgt := 2) hx hb dX0_putSlants_27 (by decide) ?_
        exact ih2 (v6) I4 L5 _ _ ls hI hK (by first | omega | decide) (by omega) hM hS (lv_sub hl [0, 1, 2, 3] rfl)
  exact loop2 (_ + 1) (0) I L _ _ ls hI hK (by first | omega | decide) (Nat.lt_succ_self _) hM hS (lv_sub hl [0, 1, 2, 3] rfl)
set_option maxHeartbeats 4000000 in
set_option maxRecDepth 20000 in
theorem V_X0_putSlants_33 (l : Launch) (D : va_G) (A : Nat → Prop) (ad : Nat → Nat) (ns : List Nat) (I : MI) (L : ML) (G : MG) (hG : SGC ns G) (hI : INV I) : Met l yX0_putSlants (wd yX0_putSlants cX0_putSlants 4 none) ({ frames := 1, cells := 0, slots := 0, locals := 23 }) (va_Pc [.ref (ad (30)), .ref (ad (100)), .ref (ad (33))] (PM D A ad ns I L G)) (va_Qv (fun u => ∃ I2 L2, u = (ad, ns, I2, L2, G) ∧ INV I2 ∧ Kp [(107, 108)] [] I I2) (BM D A) A) 0 0 A := by
  refine m_ofW (by decide) (Nat.le_of_ble_eq_true rfl) ?_
  intro p e s m below meth c ls args hC hE hM hA hS hl
  obtain ⟨hx, hb, hml, hown, hts, hr, hlocks, hin⟩ := hC
  have k0 : (0 : Int32).toInt = 0 := by decide
  have k2 : (2 : Int32).toInt = 2 := by decide
  have hK : Kp [(107, 108)] [] I I := Kp.rf
  have hl : lv_has ls 4 [(0, .ref (ad (30))), (1, .ref (ad (100))), (2, .ref (ad (33)))] := hl
  refine lv_iconst (v := (0)) hx hb dX0_putSlants_0 (by decide) ?_
  refine lv_istore_n (lv' := [(3, .int (0)), (0, .ref (ad (30))), (1, .ref (ad (100))), (2, .ref (ad (33)))]) hx hb dX0_putSlants_1 rfl hl (by decide) rfl (fun ls hl => ?_)
  have loop2 : ∀ (n : Nat) (x3_2 : Int32) (Ia2 : MI) (La2 : ML) (H : Heap) (locs : List Loc) (ls : Array Slot), INV Ia2 → Kp [(107, 108)] [] I Ia2 → (0 ≤ x3_2.toInt ∧ x3_2.toInt ≤ 4) → (4 - x3_2.toInt).toNat < n → Mem D A ad ns Ia2 La2 G H → va_S A s.heap H locs → lv_has ls 4 [(3, .int (x3_2)), (0, .ref (ad (30))), (1, .ref (ad (100))), (2, .ref (ad (33)))] → W p l e ({ frames := 1, cells := 0, slots := 0, locals := 23 } : Room) s m args below meth c H locs 0 0 (MQ below (va_Qv (fun u => ∃ I2 L2, u = (ad, ns, I2, L2, G) ∧ INV I2 ∧ Kp [(107, 108)] [] I I2) (BM D A) A) args s 0 0 A) (F0 m 2 ls []) := by
    intro n
    induction n with
    | zero =>
      intro x3_2 Ia2 La2 H locs ls hI hK hr3_2 hmu
      exact absurd hmu (Nat.not_lt_zero _)
    | succ n ih2 =>
      intro x3_2 Ia2 La2 H locs ls hI hK hr3_2 hmu2 hM hS hl
      refine lv_iload_n hx hb dX0_putSlants_2 rfl (lv_at hl 0 rfl) ?_
      refine lv_aload_n hx hb dX0_putSlants_3 rfl (lv_at hl 1 rfl) ?_
      refine m_geti (30) 5 hx hb hts hown hE oc0 hM (hG.1 30 (by decide)) rfl (by decide) rfl tb_210 dX0_putSlants_4 ?_
      have g1 := hI.get (30) 5 (lo := 0) (hi := 4) rfl
      refine lv_icmp_ge (tgt := 30) hx hb dX0_putSlants_7 (by decide) (fun c2 => ?_) (fun c2 => ?_)
      · have hc2 := c2
        have q2 := q_le hc2
        exact m_vret hx hb hr hlocks hM hS (Nat.le_of_ble_eq_true rfl) (Nat.le_of_ble_eq_true rfl) ⟨_, _, rfl, hI, hK⟩ dX0_putSlants_30
      · have hc2 := c2
        have q2 := q_nle hc2
        refine lv_aload_n hx hb dX0_putSlants_10 rfl (lv_at hl 2 rfl) ?_
        refine lv_aload_n hx hb dX0_putSlants_11 rfl (lv_at hl 1 rfl) ?_
        refine m_getr (30) 1 (31) hx hb hts hown hE oc0 hM (hG.1 30 (by decide)) rfl (by decide) rfl (hG.2 (30, 1, 31) (by decide)) (by decide) tb_206 dX0_putSlants_12 ?_
        refine lv_iload_n hx hb dX0_putSlants_15 rfl (lv_at hl 0 rfl) ?_
        refine m_iald (31) hx hb hE hM (hG.1 31 (by decide)) rfl (vp_in_iff.mpr (by omega)) dX0_putSlants_16 ?_
        have g3 := hI.get (31) ((x3_2).toNatClampNeg) (lo := 0) (hi := 23) rfl
        refine lv_iconst (v := (2)) hx hb dX0_putSlants_17 (by decide) ?_
        refine lv_aload_n hx hb dX0_putSlants_18 rfl (lv_at hl 3 rfl) ?_
        refine lv_iload_n hx hb dX0_putSlants_19 rfl (lv_at hl 0 rfl) ?_
        refine m_iald (33) hx hb hE hM (hG.1 33 (by decide)) rfl (vp_in_iff.mpr (by omega)) dX0_putSlants_20 ?_
        refine m_callv (m_runV (100) (As := [.int (Ia2 (31) (x3_2).toNatClampNeg), .int (2), .int (Ia2 (33) (x3_2).toNatClampNeg)]) (rest := []) hx hb hml hown hts hE hM hS hA ce_X8_setMirror tb_979 (V_X8_setMirror_100 l D A ad ns Ia2 La2 G (Ia2 (31) (x3_2).toNatClampNeg) (2) (Ia2 (33) (x3_2).toNatClampNeg) hG hI (by first | omega | decide) (by first | omega | decide)) rfl rfl ⟨Nat.le_of_ble_eq_true rfl, Nat.le_of_ble_eq_true rfl⟩ (hG.1 100 (by decide)) rfl rfl (by decide) rfl hl.1 rfl (Nat.le_of_ble_eq_true rfl) dX0_putSlants_21 ⟨Nat.le_of_ble_eq_true rfl, Nat.le_of_ble_eq_true rfl⟩) hS (fun u H locs hw hM hS => ?_)
        obtain ⟨I4, L5, rfl, hI, hkI4⟩ := hw
        have hM : Mem D A ad ns I4 L5 G H := hM
        have hK := hK.trans hkI4 rfl
        obtain ⟨v6, ev6⟩ : ∃ z : Int32, z = x3_2 + Int32.ofInt (1) := ⟨_, rfl⟩
        have tv6 := a_inc ev6 (by decide) (by omega) (by omega)
        refine lv_iinc (v := v6) (lv' := [(3, .int (v6)), (0, .ref (ad (30))), (1, .ref (ad (100))), (2, .ref (ad (33)))]) hx hb dX0_putSlants_24 hl (k := 0) rfl ev6.symm (by decide) rfl (fun ls hl => ?_)
        refine lv_goto (tgt := 2) hx hb dX0_putSlants_27 (by decide) ?_
        exact ih2 (v6) I4 L5 _ _ ls hI hK (by first | omega | decide) (by omega) hM hS (lv_sub hl [0, 1, 2, 3] rfl)
  exact loop2 (_ + 1) (0) I L _ _ ls hI hK (by first | omega | decide) (Nat.lt_succ_self _) hM hS (lv_sub hl [0, 1, 2, 3] rfl)
theorem dX0_lastTouched_0 : decode cX0_lastTouched 0 = .ok (.aload_n 0, 1) := by decide +kernel
theorem dX0_lastTouched_1 : decode cX0_lastTouched 1 = .ok (.getfield 28, 3) := by decide +kernel
theorem dX0_lastTouched_4 : decode cX0_lastTouched 4 = .ok (.iconst 1, 1) := by decide +kernel
theorem dX0_lastTouched_5 : decode cX0_lastTouched 5 = .ok (.isub, 1) := by decide +kernel
theorem dX0_lastTouched_6 : decode cX0_lastTouched 6 = .ok (.istore_n 1, 1) := by decide +kernel
theorem dX0_lastTouched_7 : decode cX0_lastTouched 7 = .ok (.iload_n 1, 1) := by decide +kernel
theorem dX0_lastTouched_8 : decode cX0_lastTouched 8 = .ok (.ifCond .lt 27, 3) := by decide +kernel
theorem dX0_lastTouched_11 : decode cX0_lastTouched 11 = .ok (.aload_n 0, 1) := by decide +kernel
theorem dX0_lastTouched_12 : decode cX0_lastTouched 12 = .ok (.getfield 24, 3) := by decide +kernel
theorem dX0_lastTouched_15 : decode cX0_lastTouched 15 = .ok (.aload_n 0, 1) := by decide +kernel
theorem dX0_lastTouched_16 : decode cX0_lastTouched 16 = .ok (.getfield 9, 3) := by decide +kernel
theorem dX0_lastTouched_19 : decode cX0_lastTouched 19 = .ok (.iload_n 1, 1) := by decide +kernel
theorem dX0_lastTouched_20 : decode cX0_lastTouched 20 = .ok (.iaload, 1) := by decide +kernel
theorem dX0_lastTouched_21 : decode cX0_lastTouched 21 = .ok (.invokevirtual 86, 3) := by decide +kernel
theorem dX0_lastTouched_24 : decode cX0_lastTouched 24 = .ok (.ifCond .eq 5, 3) := by decide +kernel
theorem dX0_lastTouched_27 : decode cX0_lastTouched 27 = .ok (.iload_n 1, 1) := by decide +kernel
theorem dX0_lastTouched_28 : decode cX0_lastTouched 28 = .ok (.ireturn, 1) := by decide +kernel
theorem dX0_lastTouched_29 : decode cX0_lastTouched 29 = .ok (.iinc 1 (-1), 3) := by decide +kernel
theorem dX0_lastTouched_32 : decode cX0_lastTouched 32 = .ok (.goto (-25), 3) := by decide +kernel
theorem dX0_lastTouched_35 : decode cX0_lastTouched 35 = .ok (.iconst (-1), 1) := by decide +kernel
theorem dX0_lastTouched_36 : decode cX0_lastTouched 36 = .ok (.ireturn, 1) := by decide +kernel
theorem ce_X0_lastTouched : CeV RX0 yX0_lastTouched cX0_lastTouched 2 (some .int) 0 := ⟨tb_989, tp_41, tb_5, tb_990, rfl, by decide, by decide, by decide +kernel⟩
set_option maxHeartbeats 4000000 in
set_option maxRecDepth 20000 in
theorem V_X0_lastTouched (l : Launch) (D : va_G) (A : Nat → Prop) (ad : Nat → Nat) (ns : List Nat) (I : MI) (L : ML) (G : MG) (hG : SGC ns G) (hI : INV I) : Met l yX0_lastTouched (wd yX0_lastTouched cX0_lastTouched 2 (some .int)) ({ frames := 1, cells := 0, slots := 0, locals := 21 }) (va_Pc [.ref (ad (30))] (PM D A ad ns I L G)) (va_Qi (fun r u => u = (ad, ns, I, L, G) ∧ (-1 ≤ r.toInt ∧ r.toInt ≤ 3)) (BM D A) A) 0 0 A := by
  refine m_ofW (by decide) (Nat.le_of_ble_eq_true rfl) ?_
  intro p e s m below meth c ls args hC hE hM hA hS hl
  obtain ⟨hx, hb, hml, hown, hts, hr, hlocks, hin⟩ := hC
  have km1 : (-1 : Int32).toInt = -1 := by decide
  have k0 : (0 : Int32).toInt = 0 := by decide
  have k1 : (1 : Int32).toInt = 1 := by decide
  have hl : lv_has ls 2 [(0, .ref (ad (30)))] := hl
  refine lv_aload_n hx hb dX0_lastTouched_0 rfl (lv_at hl 0 rfl) ?_
  refine m_geti (30) 5 hx hb hts hown hE oc0 hM (hG.1 30 (by decide)) rfl (by decide) rfl tb_210 dX0_lastTouched_1 ?_
  have g1 := hI.get (30) 5 (lo := 0) (hi := 4) rfl
  refine lv_iconst (v := (1)) hx hb dX0_lastTouched_4 (by decide) ?_
  refine lv_isub hx hb dX0_lastTouched_5 ?_
  refine lv_topi (fun v2 ev2 => ?_)
  have tv2 := a_sub ev2 (by omega) (by omega)
  refine lv_istore_n (lv' := [(1, .int (v2)), (0, .ref (ad (30)))]) hx hb dX0_lastTouched_6 rfl hl (by decide) rfl (fun ls hl => ?_)
  have loop7 : ∀ (n : Nat) (x1_7 : Int32) (H : Heap) (locs : List Loc) (ls : Array Slot), (-1 ≤ x1_7.toInt ∧ x1_7.toInt ≤ 3) → (x1_7.toInt + 1).toNat < n → Mem D A ad ns I L G H → va_S A s.heap H locs → lv_has ls 2 [(1, .int (x1_7)), (0, .ref (ad (30)))] → W p l e ({ frames := 1, cells := 0, slots := 0, locals := 21 } : Room) s m args below meth c H locs 0 0 (MQ below (va_Qi (fun r u => u = (ad, ns, I, L, G) ∧ (-1 ≤ r.toInt ∧ r.toInt ≤ 3)) (BM D A) A) args s 0 0 A) (F0 m 7 ls []) := by
    intro n
    induction n with
    | zero =>
      intro x1_7 H locs ls hr1_7 hmu
      exact absurd hmu (Nat.not_lt_zero _)
    | succ n ih7 =>
      intro x1_7 H locs ls hr1_7 hmu7 hM hS hl
      refine lv_iload_n hx hb dX0_lastTouched_7 rfl (lv_at hl 0 rfl) ?_
      refine lv_if_lt (tgt := 35) hx hb dX0_lastTouched_8 (by decide) (fun c3 => ?_) (fun c3 => ?_)
      · have hc3 := c3
        have q3 := q_lt hc3
        refine lv_iconst (v := (-1)) hx hb dX0_lastTouched_35 (by decide) ?_
        exact m_iret hx hb hr hlocks hM hS (Nat.le_of_ble_eq_true rfl) (Nat.le_of_ble_eq_true rfl) ⟨rfl, (by first | omega | decide)⟩ dX0_lastTouched_36
      · have hc3 := c3
        have q3 := q_nlt hc3
        refine lv_aload_n hx hb dX0_lastTouched_11 rfl (lv_at hl 1 rfl) ?_
        refine m_getr (30) 0 (10) hx hb hts hown hE oc0 hM (hG.1 30 (by decide)) rfl (by decide) rfl (hG.2 (30, 0, 10) (by decide)) (by decide) tb_205 dX0_lastTouched_12 ?_
        refine lv_aload_n hx hb dX0_lastTouched_15 rfl (lv_at hl 1 rfl) ?_
        refine m_getr (30) 1 (31) hx hb hts hown hE oc0 hM (hG.1 30 (by decide)) rfl (by decide) rfl (hG.2 (30, 1, 31) (by decide)) (by decide) tb_206 dX0_lastTouched_16 ?_
        refine lv_iload_n hx hb dX0_lastTouched_19 rfl (lv_at hl 0 rfl) ?_
        refine m_iald (31) hx hb hE hM (hG.1 31 (by decide)) rfl (vp_in_iff.mpr (by omega)) dX0_lastTouched_20 ?_
        have g4 := hI.get (31) ((x1_7).toNatClampNeg) (lo := 0) (hi := 23) rfl
        refine m_calli (m_runV (10) (As := [.int (I (31) (x1_7).toNatClampNeg)]) (rest := []) hx hb hml hown hts hE hM hS hA ce_X1_touches tb_991 (V_X1_touches l D A ad ns I L G (I (31) (x1_7).toNatClampNeg) hG hI) rfl rfl ⟨Nat.le_of_ble_eq_true rfl, Nat.le_of_ble_eq_true rfl⟩ (hG.1 10 (by decide)) rfl rfl (by decide) rfl hl.1 rfl (Nat.le_of_ble_eq_true rfl) dX0_lastTouched_21 ⟨Nat.le_of_ble_eq_true rfl, Nat.le_of_ble_eq_true rfl⟩) hS (fun r5 u H locs hw hM hS => ?_)
        obtain ⟨rfl, xr5⟩ := hw
        have hM : Mem D A ad ns I L G H := hM
        refine lv_if_eq (tgt := 29) hx hb dX0_lastTouched_24 (by decide) (fun c6 => ?_) (fun c6 => ?_)
        · have hc6 := c6
          have q6 := q_eq hc6
          obtain ⟨v7, ev7⟩ : ∃ z : Int32, z = x1_7 + Int32.ofInt (-1) := ⟨_, rfl⟩
          have tv7 := a_inc ev7 (by decide) (by omega) (by omega)
          refine lv_iinc (v := v7) (lv' := [(1, .int (v7)), (0, .ref (ad (30)))]) hx hb dX0_lastTouched_29 hl (k := 0) rfl ev7.symm (by decide) rfl (fun ls hl => ?_)
          refine lv_goto (tgt := 7) hx hb dX0_lastTouched_32 (by decide) ?_
          exact ih7 (v7) _ _ ls (by first | omega | decide) (by omega) hM hS (lv_sub hl [0, 1] rfl)
        · have hc6 := c6
          have q6 := q_ne hc6
          refine lv_iload_n hx hb dX0_lastTouched_27 rfl (lv_at hl 0 rfl) ?_
          exact m_iret hx hb hr hlocks hM hS (Nat.le_of_ble_eq_true rfl) (Nat.le_of_ble_eq_true rfl) ⟨rfl, (by first | omega | decide)⟩ dX0_lastTouched_28
  exact loop7 (_ + 1) (v2) _ _ ls (by first | omega | decide) (Nat.lt_succ_self _) hM hS (lv_sub hl [0, 1] rfl)
theorem dX0_goOn_0 : decode cX0_goOn 0 = .ok (.iload_n 1, 1) := by decide +kernel
theorem dX0_goOn_1 : decode cX0_goOn 1 = .ok (.istore_n 2, 1) := by decide +kernel
theorem dX0_goOn_2 : decode cX0_goOn 2 = .ok (.iload_n 2, 1) := by decide +kernel
theorem dX0_goOn_3 : decode cX0_goOn 3 = .ok (.ifCond .lt 39, 3) := by decide +kernel
theorem dX0_goOn_6 : decode cX0_goOn 6 = .ok (.aload_n 0, 1) := by decide +kernel
theorem dX0_goOn_7 : decode cX0_goOn 7 = .ok (.getfield 18, 3) := by decide +kernel
theorem dX0_goOn_10 : decode cX0_goOn 10 = .ok (.iload_n 2, 1) := by decide +kernel
theorem dX0_goOn_11 : decode cX0_goOn 11 = .ok (.iaload, 1) := by decide +kernel
theorem dX0_goOn_12 : decode cX0_goOn 12 = .ok (.bipush 7, 2) := by decide +kernel
theorem dX0_goOn_14 : decode cX0_goOn 14 = .ok (.if_icmp .ge 15, 3) := by decide +kernel
theorem dX0_goOn_17 : decode cX0_goOn 17 = .ok (.aload_n 0, 1) := by decide +kernel
theorem dX0_goOn_18 : decode cX0_goOn 18 = .ok (.getfield 18, 3) := by decide +kernel
theorem dX0_goOn_21 : decode cX0_goOn 21 = .ok (.iload_n 2, 1) := by decide +kernel
theorem dX0_goOn_22 : decode cX0_goOn 22 = .ok (.dup2, 1) := by decide +kernel
theorem dX0_goOn_23 : decode cX0_goOn 23 = .ok (.iaload, 1) := by decide +kernel
theorem dX0_goOn_24 : decode cX0_goOn 24 = .ok (.iconst 1, 1) := by decide +kernel
theorem dX0_goOn_25 : decode cX0_goOn 25 = .ok (.iadd, 1) := by decide +kernel
theorem dX0_goOn_26 : decode cX0_goOn 26 = .ok (.iastore, 1) := by decide +kernel
theorem dX0_goOn_27 : decode cX0_goOn 27 = .ok (.iconst 1, 1) := by decide +kernel
theorem dX0_goOn_28 : decode cX0_goOn 28 = .ok (.ireturn, 1) := by decide +kernel
theorem dX0_goOn_29 : decode cX0_goOn 29 = .ok (.aload_n 0, 1) := by decide +kernel
theorem dX0_goOn_30 : decode cX0_goOn 30 = .ok (.getfield 18, 3) := by decide +kernel
theorem dX0_goOn_33 : decode cX0_goOn 33 = .ok (.iload_n 2, 1) := by decide +kernel
theorem dX0_goOn_34 : decode cX0_goOn 34 = .ok (.iconst 0, 1) := by decide +kernel
theorem dX0_goOn_35 : decode cX0_goOn 35 = .ok (.iastore, 1) := by decide +kernel
theorem dX0_goOn_36 : decode cX0_goOn 36 = .ok (.iinc 2 (-1), 3) := by decide +kernel
theorem dX0_goOn_39 : decode cX0_goOn 39 = .ok (.goto (-37), 3) := by decide +kernel
theorem dX0_goOn_42 : decode cX0_goOn 42 = .ok (.iconst 0, 1) := by decide +kernel
theorem dX0_goOn_43 : decode cX0_goOn 43 = .ok (.ireturn, 1) := by decide +kernel
theorem ce_X0_goOn : CeV RX0 yX0_goOn cX0_goOn 3 (some .boolean) 1 := ⟨tb_997, tp_42, tb_5, tb_998, rfl, by decide, by decide, by decide +kernel⟩
set_option maxHeartbeats 4000000 in
set_option maxRecDepth 20000 in
theorem V_X0_goOn (l : Launch) (D : va_G) (A : Nat → Prop) (ad : Nat → Nat) (ns : List Nat) (I : MI) (L : ML) (G : MG) (a0 : Int32) (hG : SGC ns G) (hI : INV I) (ha0 : -1 ≤ a0.toInt ∧ a0.toInt ≤ 3) : Met l yX0_goOn (wd yX0_goOn cX0_goOn 3 (some .boolean)) ({ frames := 0, cells := 0, slots := 0, locals := 0 }) (va_Pc [.ref (ad (30)), .int a0] (PM D A ad ns I L G)) (va_Qi (fun r u => ∃ I2 L2, u = (ad, ns, I2, L2, G) ∧ INV I2 ∧ Kp [(33, 34)] [] I I2 ∧ (0 ≤ r.toInt ∧ r.toInt ≤ 1)) (BM D A) A) 0 0 A := by
  refine m_ofW (by decide) (Nat.le_of_ble_eq_true rfl) ?_
  intro p e s m below meth c ls args hC hE hM hA hS hl
  obtain ⟨hx, hb, hml, hown, hts, hr, hlocks, hin⟩ := hC
  have k0 : (0 : Int32).toInt = 0 := by decide
  have k1 : (1 : Int32).toInt = 1 := by decide
  have k7 : (7 : Int32).toInt = 7 := by decide
  have hK : Kp [(33, 34)] [] I I := Kp.rf
  have hl : lv_has ls 3 [(0, .ref (ad (30))), (1, .int (a0))] := hl
  refine lv_iload_n hx hb dX0_goOn_0 rfl (lv_at hl 1 rfl) ?_
  refine lv_istore_n (lv' := [(2, .int (a0)), (0, .ref (ad (30))), (1, .int (a0))]) hx hb dX0_goOn_1 rfl hl (by decide) rfl (fun ls hl => ?_)
  have loop2 : ∀ (n : Nat) (x2_2 : Int32) (Ia2 : MI) (La2 : ML) (H : Heap) (locs : List Loc) (ls : Array Slot), INV Ia2 → Kp [(33, 34)] [] I Ia2 → (-1 ≤ x2_2.toInt ∧ x2_2.toInt ≤ 3) → (x2_2.toInt + 1).toNat < n → Mem D A ad ns Ia2 La2 G H → va_S A s.heap H locs → lv_has ls 3 [(2, .int (x2_2)), (0, .ref (ad (30))), (1, .int (a0))] → W p l e ({ frames := 0, cells := 0, slots := 0, locals := 0 } : Room) s m args below meth c H locs 0 0 (MQ below (va_Qi (fun r u => ∃ I2 L2, u = (ad, ns, I2, L2, G) ∧ INV I2 ∧ Kp [(33, 34)] [] I I2 ∧ (0 ≤ r.toInt ∧ r.toInt ≤ 1)) (BM D A) A) args s 0 0 A) (F0 m 2 ls []) := by
    intro n
    induction n with
    | zero =>
      intro x2_2 Ia2 La2 H locs ls hI hK hr2_2 hmu
      exact absurd hmu (Nat.not_lt_zero _)
    | succ n ih2 =>
      intro x2_2 Ia2 La2 H locs ls hI hK hr2_2 hmu2 hM hS hl
      refine lv_iload_n hx hb dX0_goOn_2 rfl (lv_at hl 0 rfl) ?_
      refine lv_if_lt (tgt := 42) hx hb dX0_goOn_3 (by decide) (fun c1 => ?_) (fun c1 => ?_)
      · have hc1 := c1
        have q1 := q_lt hc1
        refine lv_iconst (v := (0)) hx hb dX0_goOn_42 (by decide) ?_
        exact m_zret hx hb hr rfl hlocks hM hS (Nat.le_of_ble_eq_true rfl) (Nat.le_of_ble_eq_true rfl) ⟨_, _, rfl, hI, hK, (by first | omega | decide)⟩ dX0_goOn_43
      · have hc1 := c1
        have q1 := q_nlt hc1
        refine lv_aload_n hx hb dX0_goOn_6 rfl (lv_at hl 1 rfl) ?_
        refine m_getr (30) 3 (33) hx hb hts hown hE oc0 hM (hG.1 30 (by decide)) rfl (by decide) rfl (hG.2 (30, 3, 33) (by decide)) (by decide) tb_208 dX0_goOn_7 ?_
        refine lv_iload_n hx hb dX0_goOn_10 rfl (lv_at hl 0 rfl) ?_
        refine m_iald (33) hx hb hE hM (hG.1 33 (by decide)) rfl (vp_in_iff.mpr (by omega)) dX0_goOn_11 ?_
        refine lv_bipush (v := (7)) hx hb dX0_goOn_12 (by decide) ?_
        refine lv_icmp_ge (tgt := 29) hx hb dX0_goOn_14 (by decide) (fun c2 => ?_) (fun c2 => ?_)
        · have hc2 := c2
          have q2 := q_le hc2
          refine lv_aload_n hx hb dX0_goOn_29 rfl (lv_at hl 1 rfl) ?_
          refine m_getr (30) 3 (33) hx hb hts hown hE oc0 hM (hG.1 30 (by decide)) rfl (by decide) rfl (hG.2 (30, 3, 33) (by decide)) (by decide) tb_208 dX0_goOn_30 ?_
          refine lv_iload_n hx hb dX0_goOn_33 rfl (lv_at hl 0 rfl) ?_
          refine lv_iconst (v := (0)) hx hb dX0_goOn_34 (by decide) ?_
          refine m_iast (33) hx hb hE hM hS (hG.1 33 (by decide)) rfl (vp_in_iff.mpr (by omega)) dX0_goOn_35 (fun H locs I3 eI3 hM hS => ?_)
          subst eI3
          have hI := hI.putF (n := 33) (k := ((x2_2).toNatClampNeg)) (v := 0) rfl
          have hK := hK.put (n := 33) (k := ((x2_2).toNatClampNeg)) (v := 0) (by first | rfl | simp [inR])
          obtain ⟨v4, ev4⟩ : ∃ z : Int32, z = x2_2 + Int32.ofInt (-1) := ⟨_, rfl⟩
          have tv4 := a_inc ev4 (by decide) (by omega) (by omega)
          refine lv_iinc (v := v4) (lv' := [(2, .int (v4)), (0, .ref (ad (30))), (1, .int (a0))]) hx hb dX0_goOn_36 hl (k := 0) rfl ev4.symm (by decide) rfl (fun ls hl => ?_)
          refine lv_goto (tgt := 2) hx hb dX0_goOn_39 (by decide) ?_
          exact ih2 (v4) (u2 Ia2 (33) ((x2_2).toNatClampNeg) (0)) La2 _ _ ls hI hK (by first | omega | decide) (by omega) hM hS (lv_sub hl [0, 1, 2] rfl)
        · have hc2 := c2
          have q2 := q_nle hc2
          refine lv_aload_n hx hb dX0_goOn_17 rfl (lv_at hl 1 rfl) ?_
          refine m_getr (30) 3 (33) hx hb hts hown hE oc0 hM (hG.1 30 (by decide)) rfl (by decide) rfl (hG.2 (30, 3, 33) (by decide)) (by decide) tb_208 dX0_goOn_18 ?_
          refine lv_iload_n hx hb dX0_goOn_21 rfl (lv_at hl 0 rfl) ?_
          refine lv_dup2_11 hx hb dX0_goOn_22 rfl rfl ?_
          refine m_iald (33) hx hb hE hM (hG.1 33 (by decide)) rfl (vp_in_iff.mpr (by omega)) dX0_goOn_23 ?_
          refine lv_iconst (v := (1)) hx hb dX0_goOn_24 (by decide) ?_
          refine lv_iadd hx hb dX0_goOn_25 ?_
          refine lv_topi (fun v5 ev5 => ?_)
          refine m_iast (33) hx hb hE hM hS (hG.1 33 (by decide)) rfl (vp_in_iff.mpr (by omega)) dX0_goOn_26 (fun H locs I6 eI6 hM hS => ?_)
          subst eI6
          have hI := hI.putF (n := 33) (k := ((x2_2).toNatClampNeg)) (v := v5) rfl
          have hK := hK.put (n := 33) (k := ((x2_2).toNatClampNeg)) (v := v5) (by first | rfl | simp [inR])
          refine lv_iconst (v := (1)) hx hb dX0_goOn_27 (by decide) ?_
          exact m_zret hx hb hr rfl hlocks hM hS (Nat.le_of_ble_eq_true rfl) (Nat.le_of_ble_eq_true rfl) ⟨_, _, rfl, hI, hK, (by first | omega | decide)⟩ dX0_goOn_28
  exact loop2 (_ + 1) (a0) I L _ _ ls hI hK (by first | omega | decide) (Nat.lt_succ_self _) hM hS (lv_sub hl [0, 1, 2] rfl)
theorem dX0_leastGot_0 : decode cX0_leastGot 0 = .ok (.iconst (-1), 1) := by decide +kernel
theorem dX0_leastGot_1 : decode cX0_leastGot 1 = .ok (.istore_n 2, 1) := by decide +kernel
theorem dX0_leastGot_2 : decode cX0_leastGot 2 = .ok (.iconst 0, 1) := by decide +kernel
theorem dX0_leastGot_3 : decode cX0_leastGot 3 = .ok (.istore_n 3, 1) := by decide +kernel
theorem dX0_leastGot_4 : decode cX0_leastGot 4 = .ok (.iconst 0, 1) := by decide +kernel
theorem dX0_leastGot_5 : decode cX0_leastGot 5 = .ok (.istore 4, 2) := by decide +kernel
theorem dX0_leastGot_7 : decode cX0_leastGot 7 = .ok (.iload 4, 2) := by decide +kernel
theorem dX0_leastGot_9 : decode cX0_leastGot 9 = .ok (.aload_n 1, 1) := by decide +kernel
theorem dX0_leastGot_10 : decode cX0_leastGot 10 = .ok (.getfield 89, 3) := by decide +kernel
theorem dX0_leastGot_13 : decode cX0_leastGot 13 = .ok (.if_icmp .ge 86, 3) := by decide +kernel
theorem dX0_leastGot_16 : decode cX0_leastGot 16 = .ok (.aload_n 1, 1) := by decide +kernel
theorem dX0_leastGot_17 : decode cX0_leastGot 17 = .ok (.iload 4, 2) := by decide +kernel
theorem dX0_leastGot_19 : decode cX0_leastGot 19 = .ok (.iconst 1, 1) := by decide +kernel
theorem dX0_leastGot_20 : decode cX0_leastGot 20 = .ok (.invokevirtual 92, 3) := by decide +kernel
theorem dX0_leastGot_23 : decode cX0_leastGot 23 = .ok (.ifCond .le 7, 3) := by decide +kernel
theorem dX0_leastGot_26 : decode cX0_leastGot 26 = .ok (.iconst 1, 1) := by decide +kernel
theorem dX0_leastGot_27 : decode cX0_leastGot 27 = .ok (.goto 4, 3) := by decide +kernel
theorem dX0_leastGot_30 : decode cX0_leastGot 30 = .ok (.iconst 0, 1) := by decide +kernel
theorem dX0_leastGot_31 : decode cX0_leastGot 31 = .ok (.istore 5, 2) := by decide +kernel
theorem dX0_leastGot_33 : decode cX0_leastGot 33 = .ok (.iload_n 2, 1) := by decide +kernel
theorem dX0_leastGot_34 : decode cX0_leastGot 34 = .ok (.iconst (-1), 1) := by decide +kernel
theorem dX0_leastGot_35 : decode cX0_leastGot 35 = .ok (.if_icmp .eq 12, 3) := by decide +kernel
theorem dX0_leastGot_38 : decode cX0_leastGot 38 = .ok (.iload 5, 2) := by decide +kernel
theorem dX0_leastGot_40 : decode cX0_leastGot 40 = .ok (.ifCond .eq 11, 3) := by decide +kernel
theorem dX0_leastGot_43 : decode cX0_leastGot 43 = .ok (.iload_n 3, 1) := by decide +kernel
theorem dX0_leastGot_44 : decode cX0_leastGot 44 = .ok (.ifCond .ne 7, 3) := by decide +kernel
theorem dX0_leastGot_47 : decode cX0_leastGot 47 = .ok (.iconst 1, 1) := by decide +kernel
theorem dX0_leastGot_48 : decode cX0_leastGot 48 = .ok (.goto 4, 3) := by decide +kernel
theorem dX0_leastGot_51 : decode cX0_leastGot 51 = .ok (.iconst 0, 1) := by decide +kernel
theorem dX0_leastGot_52 : decode cX0_leastGot 52 = .ok (.istore 6, 2) := by decide +kernel
theorem dX0_leastGot_54 : decode cX0_leastGot 54 = .ok (.iload 6, 2) := by decide +kernel
theorem dX0_leastGot_56 : decode cX0_leastGot 56 = .ok (.ifCond .ne 23, 3) := by decide +kernel
theorem dX0_leastGot_59 : decode cX0_leastGot 59 = .ok (.iload 5, 2) := by decide +kernel
theorem dX0_leastGot_61 : decode cX0_leastGot 61 = .ok (.iload_n 3, 1) := by decide +kernel
theorem dX0_leastGot_62 : decode cX0_leastGot 62 = .ok (.if_icmp .ne 31, 3) := by decide +kernel
theorem dX0_leastGot_65 : decode cX0_leastGot 65 = .ok (.aload_n 0, 1) := by decide +kernel
theorem dX0_leastGot_66 : decode cX0_leastGot 66 = .ok (.getfield 24, 3) := by decide +kernel
theorem dX0_leastGot_69 : decode cX0_leastGot 69 = .ok (.getfield 56, 3) := by decide +kernel
theorem dX0_leastGot_72 : decode cX0_leastGot 72 = .ok (.iload 4, 2) := by decide +kernel
theorem dX0_leastGot_74 : decode cX0_leastGot 74 = .ok (.iaload, 1) := by decide +kernel
theorem dX0_leastGot_75 : decode cX0_leastGot 75 = .ok (.iload_n 2, 1) := by decide +kernel
theorem dX0_leastGot_76 : decode cX0_leastGot 76 = .ok (.if_icmp .ge 17, 3) := by decide +kernel
theorem dX0_leastGot_79 : decode cX0_leastGot 79 = .ok (.aload_n 0, 1) := by decide +kernel
theorem dX0_leastGot_80 : decode cX0_leastGot 80 = .ok (.getfield 24, 3) := by decide +kernel
theorem dX0_leastGot_83 : decode cX0_leastGot 83 = .ok (.getfield 56, 3) := by decide +kernel
theorem dX0_leastGot_86 : decode cX0_leastGot 86 = .ok (.iload 4, 2) := by decide +kernel
theorem dX0_leastGot_88 : decode cX0_leastGot 88 = .ok (.iaload, 1) := by decide +kernel
theorem dX0_leastGot_89 : decode cX0_leastGot 89 = .ok (.istore_n 2, 1) := by decide +kernel
theorem dX0_leastGot_90 : decode cX0_leastGot 90 = .ok (.iload 5, 2) := by decide +kernel
theorem dX0_leastGot_92 : decode cX0_leastGot 92 = .ok (.istore_n 3, 1) := by decide +kernel
theorem dX0_leastGot_93 : decode cX0_leastGot 93 = .ok (.iinc 4 1, 3) := by decide +kernel
theorem dX0_leastGot_96 : decode cX0_leastGot 96 = .ok (.goto (-89), 3) := by decide +kernel
theorem dX0_leastGot_99 : decode cX0_leastGot 99 = .ok (.iload_n 2, 1) := by decide +kernel
theorem dX0_leastGot_100 : decode cX0_leastGot 100 = .ok (.ireturn, 1) := by decide +kernel
theorem ce_X0_leastGot : CeV RX0 yX0_leastGot cX0_leastGot 7 (some .int) 1 := ⟨tb_983, tp_40, tb_5, tb_984, rfl, by decide, by decide, by decide +kernel⟩
set_option maxHeartbeats 4000000 in
set_option maxRecDepth 20000 in
theorem V_X0_leastGot (l : Launch) (D : va_G) (A : Nat → Prop) (ad : Nat → Nat) (ns : List Nat) (I : MI) (L : ML) (G : MG) (hG : SGC ns G) (hI : INV I) : Met l yX0_leastGot (wd yX0_leastGot cX0_leastGot 7 (some .int)) ({ frames := 1, cells := 0, slots := 0, locals := 22 }) (va_Pc [.ref (ad (30)), .ref (ad (100))] (PM D A ad ns I L G)) (va_Qi (fun r u => u = (ad, ns, I, L, G) ∧ (True)) (BM D A) A) 0 0 A := by
  refine m_ofW (by decide) (Nat.le_of_ble_eq_true rfl) ?_
  intro p e s m below meth c ls args hC hE hM hA hS hl
  obtain ⟨hx, hb, hml, hown, hts, hr, hlocks, hin⟩ := hC
  have km1 : (-1 : Int32).toInt = -1 := by decide
  have k0 : (0 : Int32).toInt = 0 := by decide
  have k1 : (1 : Int32).toInt = 1 := by decide
  have hl : lv_has ls 7 [(0, .ref (ad (30))), (1, .ref (ad (100)))] := hl
  refine lv_iconst (v := (-1)) hx hb dX0_leastGot_0 (by decide) ?_
  refine lv_istore_n (lv' := [(2, .int ((-1 : Int32))), (0, .ref (ad (30))), (1, .ref (ad (100)))]) hx hb dX0_leastGot_1 rfl hl (by decide) rfl (fun ls hl => ?_)
  refine lv_iconst (v := (0)) hx hb dX0_leastGot_2 (by decide) ?_
  refine lv_istore_n (lv' := [(3, .int (0)), (2, .int ((-1 : Int32))), (0, .ref (ad (30))), (1, .ref (ad (100)))]) hx hb dX0_leastGot_3 rfl hl (by decide) rfl (fun ls hl => ?_)
  refine lv_iconst (v := (0)) hx hb dX0_leastGot_4 (by decide) ?_
  refine lv_istore (lv' := [(4, .int (0)), (3, .int (0)), (2, .int ((-1 : Int32))), (0, .ref (ad (30))), (1, .ref (ad (100)))]) hx hb dX0_leastGot_5 hl (by decide) rfl (fun ls hl => ?_)
  have loop7 : ∀ (n : Nat) (x4_7 : Int32) (x3_7 : Int32) (x2_7 : Int32) (H : Heap) (locs : List Loc) (ls : Array Slot), (0 ≤ x4_7.toInt ∧ x4_7.toInt ≤ 8) → (8 - x4_7.toInt).toNat < n → Mem D A ad ns I L G H → va_S A s.heap H locs → lv_has ls 7 [(4, .int (x4_7)), (3, .int (x3_7)), (2, .int (x2_7)), (0, .ref (ad (30))), (1, .ref (ad (100)))] → W p l e ({ frames := 1, cells := 0, slots := 0, locals := 22 } : Room) s m args below meth c H locs 0 0 (MQ below (va_Qi (fun r u => u = (ad, ns, I, L, G) ∧ (True)) (BM D A) A) args s 0 0 A) (F0 m 7 ls []) := by
    intro n
    induction n with
    | zero =>
      intro x4_7 x3_7 x2_7 H locs ls hr4_7 hmu
      exact absurd hmu (Nat.not_lt_zero _)
    | succ n ih7 =>
      intro x4_7 x3_7 x2_7 H locs ls hr4_7 hmu7 hM hS hl
      refine lv_iload hx hb dX0_leastGot_7 (lv_at hl 0 rfl) ?_
      refine lv_aload_n hx hb dX0_leastGot_9 rfl (lv_at hl 4 rfl) ?_
      refine m_geti (100) 9 hx hb hts hown hE oc8 hM (hG.1 100 (by decide)) rfl (by decide) rfl tb_65 dX0_leastGot_10 ?_
      have g1 := hI.get (100) 9 (lo := 0) (hi := 8) rfl
      refine lv_icmp_ge (tgt := 99) hx hb dX0_leastGot_13 (by decide) (fun c2 => ?_) (fun c2 => ?_)
      · have hc2 := c2
        have q2 := q_le hc2
        refine lv_iload_n hx hb dX0_leastGot_99 rfl (lv_at hl 2 rfl) ?_
        exact m_iret hx hb hr hlocks hM hS (Nat.le_of_ble_eq_true rfl) (Nat.le_of_ble_eq_true rfl) ⟨rfl, trivial⟩ dX0_leastGot_100
      · have hc2 := c2
        have q2 := q_nle hc2
        refine lv_aload_n hx hb dX0_leastGot_16 rfl (lv_at hl 4 rfl) ?_
        refine lv_iload hx hb dX0_leastGot_17 (lv_at hl 0 rfl) ?_
        refine lv_iconst (v := (1)) hx hb dX0_leastGot_19 (by decide) ?_
        refine m_calli (m_runV (100) (As := [.int (x4_7), .int (1)]) (rest := []) hx hb hml hown hts hE hM hS hA ce_X8_ofYard tb_985 (V_X8_ofYard_100 l D A ad ns I L G (x4_7) (1) hG hI (by first | omega | decide) (by first | omega | decide)) rfl rfl ⟨Nat.le_of_ble_eq_true rfl, Nat.le_of_ble_eq_true rfl⟩ (hG.1 100 (by decide)) rfl rfl (by decide) rfl hl.1 rfl (Nat.le_of_ble_eq_true rfl) dX0_leastGot_20 ⟨Nat.le_of_ble_eq_true rfl, Nat.le_of_ble_eq_true rfl⟩) hS (fun r3 u H locs hw hM hS => ?_)
        obtain ⟨rfl, xr3⟩ := hw
        have hM : Mem D A ad ns I L G H := hM
        refine lv_if_le (tgt := 30) hx hb dX0_leastGot_23 (by decide) (fun c4 => ?_) (fun c4 => ?_)
        · have hc4 := c4
          have q4 := q_le hc4
          refine lv_iconst (v := (0)) hx hb dX0_leastGot_30 (by decide) ?_
          refine lv_istore (lv' := [(5, .int (0)), (4, .int (x4_7)), (3, .int (x3_7)), (2, .int (x2_7)), (0, .ref (ad (30))), (1, .ref (ad (100)))]) hx hb dX0_leastGot_31 hl (by decide) rfl (fun ls hl => ?_)
          refine lv_iload_n hx hb dX0_leastGot_33 rfl (lv_at hl 3 rfl) ?_
          refine lv_iconst (v := (-1)) hx hb dX0_leastGot_34 (by decide) ?_
          refine lv_icmp_eq (tgt := 47) hx hb dX0_leastGot_35 (by decide) (fun c5 => ?_) (fun c5 => ?_)
          · have hc5 := c5
            have q5 := q_eq hc5
            refine lv_iconst (v := (1)) hx hb dX0_leastGot_47 (by decide) ?_
            refine lv_goto (tgt := 52) hx hb dX0_leastGot_48 (by decide) ?_
            refine lv_istore (lv' := [(6, .int (1)), (5, .int (0)), (4, .int (x4_7)), (3, .int (x3_7)), (2, .int (x2_7)), (0, .ref (ad (30))), (1, .ref (ad (100)))]) hx hb dX0_leastGot_52 hl (by decide) rfl (fun ls hl => ?_)
            refine lv_iload hx hb dX0_leastGot_54 (lv_at hl 0 rfl) ?_
            refine lv_if_ne (tgt := 79) hx hb dX0_leastGot_56 (by decide) (fun c6 => ?_) (fun c6 => ?_)
            · have hc6 := c6
              have q6 := q_ne hc6
              refine lv_aload_n hx hb dX0_leastGot_79 rfl (lv_at hl 5 rfl) ?_
              refine m_getr (30) 0 (10) hx hb hts hown hE oc0 hM (hG.1 30 (by decide)) rfl (by decide) rfl (hG.2 (30, 0, 10) (by decide)) (by decide) tb_205 dX0_leastGot_80 ?_
              refine m_getr (10) 0 (11) hx hb hts hown hE oc1 hM (hG.1 10 (by decide)) rfl (by decide) rfl (hG.2 (10, 0, 11) (by decide)) (by decide) tb_131 dX0_leastGot_83 ?_
              refine lv_iload hx hb dX0_leastGot_86 (lv_at hl 2 rfl) ?_
              refine m_iald (11) hx hb hE hM (hG.1 11 (by decide)) rfl (vp_in_iff.mpr (by omega)) dX0_leastGot_88 ?_
              refine lv_istore_n (lv' := [(2, .int (I (11) (x4_7).toNatClampNeg)), (6, .int (1)), (5, .int (0)), (4, .int (x4_7)), (3, .int (x3_7)), (0, .ref (ad (30))), (1, .ref (ad (100)))]) hx hb dX0_leastGot_89 rfl hl (by decide) rfl (fun ls hl => ?_)
              refine lv_iload hx hb dX0_leastGot_90 (lv_at hl 2 rfl) ?_
              refine lv_istore_n (lv' := [(3, .int (0)), (2, .int (I (11) (x4_7).toNatClampNeg)), (6, .int (1)), (5, .int (0)), (4, .int (x4_7)), (0, .ref (ad (30))), (1, .ref (ad (100)))]) hx hb dX0_leastGot_92 rfl hl (by decide) rfl (fun ls hl => ?_)
              obtain ⟨v7, ev7⟩ : ∃ z : Int32, z = x4_7 + Int32.ofInt (1) := ⟨_, rfl⟩
              have tv7 := a_inc ev7 (by decide) (by omega) (by omega)
              refine lv_iinc (v := v7) (lv' := [(4, .int (v7)), (3, .int (0)), (2, .int (I (11) (x4_7).toNatClampNeg)), (6, .int (1)), (5, .int (0)), (0, .ref (ad (30))), (1, .ref (ad (100)))]) hx hb dX0_leastGot_93 hl (k := 4) rfl ev7.symm (by decide) rfl (fun ls hl => ?_)
              refine lv_goto (tgt := 7) hx hb dX0_leastGot_96 (by decide) ?_
              exact ih7 (v7) (0) (I (11) (x4_7).toNatClampNeg) _ _ ls (by first | omega | decide) (by omega) hM hS (lv_sub hl [0, 1, 2, 5, 6] rfl)
            · exact absurd c6 (by decide)
          · have hc5 := c5
            have q5 := q_ne hc5
            refine lv_iload hx hb dX0_leastGot_38 (lv_at hl 0 rfl) ?_
            refine lv_if_eq (tgt := 51) hx hb dX0_leastGot_40 (by decide) (fun c8 => ?_) (fun c8 => ?_)
            · have hc8 := c8
              have q8 := q_eq hc8
              refine lv_iconst (v := (0)) hx hb dX0_leastGot_51 (by decide) ?_
              refine lv_istore (lv' := [(6, .int (0)), (5, .int (0)), (4, .int (x4_7)), (3, .int (x3_7)), (2, .int (x2_7)), (0, .ref (ad (30))), (1, .ref (ad (100)))]) hx hb dX0_leastGot_52 hl (by decide) rfl (fun ls hl => ?_)
              refine lv_iload hx hb dX0_leastGot_54 (lv_at hl 0 rfl) ?_
              refine lv_if_ne (tgt := 79) hx hb dX0_leastGot_56 (by decide) (fun c9 => ?_) (fun c9 => ?_)
              · exact absurd c9 (by decide)
              · have hc9 := c9
                have q9 := q_eq hc9
                refine lv_iload hx hb dX0_leastGot_59 (lv_at hl 1 rfl) ?_
                refine lv_iload_n hx hb dX0_leastGot_61 rfl (lv_at hl 3 rfl) ?_
                refine lv_icmp_ne (tgt := 93) hx hb dX0_leastGot_62 (by decide) (fun c10 => ?_) (fun c10 => ?_)
                · have hc10 := c10
                  have q10 := q_ne hc10
                  obtain ⟨v11, ev11⟩ : ∃ z : Int32, z = x4_7 + Int32.ofInt (1) := ⟨_, rfl⟩
                  have tv11 := a_inc ev11 (by decide) (by omega) (by omega)
                  refine lv_iinc (v := v11) (lv' := [(4, .int (v11)), (6, .int (0)), (5, .int (0)), (3, .int (x3_7)), (2, .int (x2_7)), (0, .ref (ad (30))), (1, .ref (ad (100)))]) hx hb dX0_leastGot_93 hl (k := 2) rfl ev11.symm (by decide) rfl (fun ls hl => ?_)
                  refine lv_goto (tgt := 7) hx hb dX0_leastGot_96 (by decide) ?_
                  exact ih7 (v11) (x3_7) (x2_7) _ _ ls (by first | omega | decide) (by omega) hM hS (lv_sub hl [0, 3, 4, 5, 6] rfl)
                · have hc10 := c10
                  have q10 := q_eq hc10
                  refine lv_aload_n hx hb dX0_leastGot_65 rfl (lv_at hl 5 rfl) ?_
                  refine m_getr (30) 0 (10) hx hb hts hown hE oc0 hM (hG.1 30 (by decide)) rfl (by decide) rfl (hG.2 (30, 0, 10) (by decide)) (by decide) tb_205 dX0_leastGot_66 ?_
                  refine m_getr (10) 0 (11) hx hb hts hown hE oc1 hM (hG.1 10 (by decide)) rfl (by decide) rfl (hG.2 (10, 0, 11) (by decide)) (by decide) tb_131 dX0_leastGot_69 ?_
                  refine lv_iload hx hb dX0_leastGot_72 (lv_at hl 2 rfl) ?_
                  refine m_iald (11) hx hb hE hM (hG.1 11 (by decide)) rfl (vp_in_iff.mpr (by omega)) dX0_leastGot_74 ?_
                  refine lv_iload_n hx hb dX0_leastGot_75 rfl (lv_at hl 4 rfl) ?_
                  refine lv_icmp_ge (tgt := 93) hx hb dX0_leastGot_76 (by decide) (fun c12 => ?_) (fun c12 => ?_)
                  · have hc12 := c12
                    have q12 := q_le hc12
                    obtain ⟨v13, ev13⟩ : ∃ z : Int32, z = x4_7 + Int32.ofInt (1) := ⟨_, rfl⟩
                    have tv13 := a_inc ev13 (by decide) (by omega) (by omega)
                    refine lv_iinc (v := v13) (lv' := [(4, .int (v13)), (6, .int (0)), (5, .int (0)), (3, .int (x3_7)), (2, .int (x2_7)), (0, .ref (ad (30))), (1, .ref (ad (100)))]) hx hb dX0_leastGot_93 hl (k := 2) rfl ev13.symm (by decide) rfl (fun ls hl => ?_)
                    refine lv_goto (tgt := 7) hx hb dX0_leastGot_96 (by decide) ?_
                    exact ih7 (v13) (x3_7) (x2_7) _ _ ls (by first | omega | decide) (by omega) hM hS (lv_sub hl [0, 3, 4, 5, 6] rfl)
                  · have hc12 := c12
                    have q12 := q_nle hc12
                    refine lv_aload_n hx hb dX0_leastGot_79 rfl (lv_at hl 5 rfl) ?_
                    refine m_getr (30) 0 (10) hx hb hts hown hE oc0 hM (hG.1 30 (by decide)) rfl (by decide) rfl (hG.2 (30, 0, 10) (by decide)) (by decide) tb_205 dX0_leastGot_80 ?_
                    refine m_getr (10) 0 (11) hx hb hts hown hE oc1 hM (hG.1 10 (by decide)) rfl (by decide) rfl (hG.2 (10, 0, 11) (by decide)) (by decide) tb_131 dX0_leastGot_83 ?_
                    refine lv_iload hx hb dX0_leastGot_86 (lv_at hl 2 rfl) ?_
                    refine m_iald (11) hx hb hE hM (hG.1 11 (by decide)) rfl (vp_in_iff.mpr (by omega)) dX0_leastGot_88 ?_
                    refine lv_istore_n (lv' := [(2, .int (I (11) (x4_7).toNatClampNeg)), (6, .int (0)), (5, .int (0)), (4, .int (x4_7)), (3, .int (x3_7)), (0, .ref (ad (30))), (1, .ref (ad (100)))]) hx hb dX0_leastGot_89 rfl hl (by decide) rfl (fun ls hl => ?_)
                    refine lv_iload hx hb dX0_leastGot_90 (lv_at hl 2 rfl) ?_
                    refine lv_istore_n (lv' := [(3, .int (0)), (2, .int (I (11) (x4_7).toNatClampNeg)), (6, .int (0)), (5, .int (0)), (4, .int (x4_7)), (0, .ref (ad (30))), (1, .ref (ad (100)))]) hx hb dX0_leastGot_92 rfl hl (by decide) rfl (fun ls hl => ?_)
                    obtain ⟨v14, ev14⟩ : ∃ z : Int32, z = x4_7 + Int32.ofInt (1) := ⟨_, rfl⟩
                    have tv14 := a_inc ev14 (by decide) (by omega) (by omega)
                    refine lv_iinc (v := v14) (lv' := [(4, .int (v14)), (3, .int (0)), (2, .int (I (11) (x4_7).toNatClampNeg)), (6, .int (0)), (5, .int (0)), (0, .ref (ad (30))), (1, .ref (ad (100)))]) hx hb dX0_leastGot_93 hl (k := 4) rfl ev14.symm (by decide) rfl (fun ls hl => ?_)
                    refine lv_goto (tgt := 7) hx hb dX0_leastGot_96 (by decide) ?_
                    exact ih7 (v14) (0) (I (11) (x4_7).toNatClampNeg) _ _ ls (by first | omega | decide) (by omega) hM hS (lv_sub hl [0, 1, 2, 5, 6] rfl)
            · exact absurd c8 (by decide)
        · have hc4 := c4
          have q4 := q_nle hc4
          refine lv_iconst (v := (1)) hx hb dX0_leastGot_26 (by decide) ?_
          refine lv_goto (tgt := 31) hx hb dX0_leastGot_27 (by decide) ?_
          refine lv_istore (lv' := [(5, .int (1)), (4, .int (x4_7)), (3, .int (x3_7)), (2, .int (x2_7)), (0, .ref (ad (30))), (1, .ref (ad (100)))]) hx hb dX0_leastGot_31 hl (by decide) rfl (fun ls hl => ?_)
          refine lv_iload_n hx hb dX0_leastGot_33 rfl (lv_at hl 3 rfl) ?_
          refine lv_iconst (v := (-1)) hx hb dX0_leastGot_34 (by decide) ?_
          refine lv_icmp_eq (tgt := 47) hx hb dX0_leastGot_35 (by decide) (fun c15 => ?_) (fun c15 => ?_)
          · have hc15 := c15
            have q15 := q_eq hc15
            refine lv_iconst (v := (1)) hx hb dX0_leastGot_47 (by decide) ?_
            refine lv_goto (tgt := 52) hx hb dX0_leastGot_48 (by decide) ?_
            refine lv_istore (lv' := [(6, .int (1)), (5, .int (1)), (4, .int (x4_7)), (3, .int (x3_7)), (2, .int (x2_7)), (0, .ref (ad (30))), (1, .ref (ad (100)))]) hx hb dX0_leastGot_52 hl (by decide) rfl (fun ls hl => ?_)
            refine lv_iload hx hb dX0_leastGot_54 (lv_at hl 0 rfl) ?_
            refine lv_if_ne (tgt := 79) hx hb dX0_leastGot_56 (by decide) (fun c16 => ?_) (fun c16 => ?_)
            · have hc16 := c16
              have q16 := q_ne hc16
              refine lv_aload_n hx hb dX0_leastGot_79 rfl (lv_at hl 5 rfl) ?_
              refine m_getr (30) 0 (10) hx hb hts hown hE oc0 hM (hG.1 30 (by decide)) rfl (by decide) rfl (hG.2 (30, 0, 10) (by decide)) (by decide) tb_205 dX0_leastGot_80 ?_
              refine m_getr (10) 0 (11) hx hb hts hown hE oc1 hM (hG.1 10 (by decide)) rfl (by decide) rfl (hG.2 (10, 0, 11) (by decide)) (by decide) tb_131 dX0_leastGot_83 ?_
              refine lv_iload hx hb dX0_leastGot_86 (lv_at hl 2 rfl) ?_
              refine m_iald (11) hx hb hE hM (hG.1 11 (by decide)) rfl (vp_in_iff.mpr (by omega)) dX0_leastGot_88 ?_
              refine lv_istore_n (lv' := [(2, .int (I (11) (x4_7).toNatClampNeg)), (6, .int (1)), (5, .int (1)), (4, .int (x4_7)), (3, .int (x3_7)), (0, .ref (ad (30))), (1, .ref (ad (100)))]) hx hb dX0_leastGot_89 rfl hl (by decide) rfl (fun ls hl => ?_)
              refine lv_iload hx hb dX0_leastGot_90 (lv_at hl 2 rfl) ?_
              refine lv_istore_n (lv' := [(3, .int (1)), (2, .int (I (11) (x4_7).toNatClampNeg)), (6, .int (1)), (5, .int (1)), (4, .int (x4_7)), (0, .ref (ad (30))), (1, .ref (ad (100)))]) hx hb dX0_leastGot_92 rfl hl (by decide) rfl (fun ls hl => ?_)
              obtain ⟨v17, ev17⟩ : ∃ z : Int32, z = x4_7 + Int32.ofInt (1) := ⟨_, rfl⟩
              have tv17 := a_inc ev17 (by decide) (by omega) (by omega)
              refine lv_iinc (v := v17) (lv' := [(4, .int (v17)), (3, .int (1)), (2, .int (I (11) (x4_7).toNatClampNeg)), (6, .int (1)), (5, .int (1)), (0, .ref (ad (30))), (1, .ref (ad (100)))]) hx hb dX0_leastGot_93 hl (k := 4) rfl ev17.symm (by decide) rfl (fun ls hl => ?_)
              refine lv_goto (tgt := 7) hx hb dX0_leastGot_96 (by decide) ?_
              exact ih7 (v17) (1) (I (11) (x4_7).toNatClampNeg) _ _ ls (by first | omega | decide) (by omega) hM hS (lv_sub hl [0, 1, 2, 5, 6] rfl)
            · exact absurd c16 (by decide)
          · have hc15 := c15
            have q15 := q_ne hc15
            refine lv_iload hx hb dX0_leastGot_38 (lv_at hl 0 rfl) ?_
            refine lv_if_eq (tgt := 51) hx hb dX0_leastGot_40 (by decide) (fun c18 => ?_) (fun c18 => ?_)
            · exact absurd c18 (by decide)
            · have hc18 := c18
              have q18 := q_ne hc18
              refine lv_iload_n hx hb dX0_leastGot_43 rfl (lv_at hl 2 rfl) ?_
              refine lv_if_ne (tgt := 51) hx hb dX0_leastGot_44 (by decide) (fun c19 => ?_) (fun c19 => ?_)
              · have hc19 := c19
                have q19 := q_ne hc19
                refine lv_iconst (v := (0)) hx hb dX0_leastGot_51 (by decide) ?_
                refine lv_istore (lv' := [(6, .int (0)), (5, .int (1)), (4, .int (x4_7)), (3, .int (x3_7)), (2, .int (x2_7)), (0, .ref (ad (30))), (1, .ref (ad (100)))]) hx hb dX0_leastGot_52 hl (by decide) rfl (fun ls hl => ?_)
                refine lv_iload hx hb dX0_leastGot_54 (lv_at hl 0 rfl) ?_
                refine lv_if_ne (tgt := 79) hx hb dX0_leastGot_56 (by decide) (fun c20 => ?_) (fun c20 => ?_)
                · exact absurd c20 (by decide)
                · have hc20 := c20
                  have q20 := q_eq hc20
                  refine lv_iload hx hb dX0_leastGot_59 (lv_at hl 1 rfl) ?_
                  refine lv_iload_n hx hb dX0_leastGot_61 rfl (lv_at hl 3 rfl) ?_
                  refine lv_icmp_ne (tgt := 93) hx hb dX0_leastGot_62 (by decide) (fun c21 => ?_) (fun c21 => ?_)
                  · have hc21 := c21
                    have q21 := q_ne hc21
                    obtain ⟨v22, ev22⟩ : ∃ z : Int32, z = x4_7 + Int32.ofInt (1) := ⟨_, rfl⟩
                    have tv22 := a_inc ev22 (by decide) (by omega) (by omega)
                    refine lv_iinc (v := v22) (lv' := [(4, .int (v22)), (6, .int (0)), (5, .int (1)), (3, .int (x3_7)), (2, .int (x2_7)), (0, .ref (ad (30))), (1, .ref (ad (100)))]) hx hb dX0_leastGot_93 hl (k := 2) rfl ev22.symm (by decide) rfl (fun ls hl => ?_)
                    refine lv_goto (tgt := 7) hx hb dX0_leastGot_96 (by decide) ?_
                    exact ih7 (v22) (x3_7) (x2_7) _ _ ls (by first | omega | decide) (by omega) hM hS (lv_sub hl [0, 3, 4, 5, 6] rfl)
                  · have hc21 := c21
                    have q21 := q_eq hc21
                    refine lv_aload_n hx hb dX0_leastGot_65 rfl (lv_at hl 5 rfl) ?_
                    refine m_getr (30) 0 (10) hx hb hts hown hE oc0 hM (hG.1 30 (by decide)) rfl (by decide) rfl (hG.2 (30, 0, 10) (by decide)) (by decide) tb_205 dX0_leastGot_66 ?_
                    refine m_getr (10) 0 (11) hx hb hts hown hE oc1 hM (hG.1 10 (by decide)) rfl (by decide) rfl (hG.2 (10, 0, 11) (by decide)) (by decide) tb_131 dX0_leastGot_69 ?_
                    refine lv_iload hx hb dX0_leastGot_72 (lv_at hl 2 rfl) ?_
                    refine m_iald (11) hx hb hE hM (hG.1 11 (by decide)) rfl (vp_in_iff.mpr (by omega)) dX0_leastGot_74 ?_
                    refine lv_iload_n hx hb dX0_leastGot_75 rfl (lv_at hl 4 rfl) ?_
                    refine lv_icmp_ge (tgt := 93) hx hb dX0_leastGot_76 (by decide) (fun c23 => ?_) (fun c23 => ?_)
                    · have hc23 := c23
                      have q23 := q_le hc23
                      obtain ⟨v24, ev24⟩ : ∃ z : Int32, z = x4_7 + Int32.ofInt (1) := ⟨_, rfl⟩
                      have tv24 := a_inc ev24 (by decide) (by omega) (by omega)
                      refine lv_iinc (v := v24) (lv' := [(4, .int (v24)), (6, .int (0)), (5, .int (1)), (3, .int (x3_7)), (2, .int (x2_7)), (0, .ref (ad (30))), (1, .ref (ad (100)))]) hx hb dX0_leastGot_93 hl (k := 2) rfl ev24.symm (by decide) rfl (fun ls hl => ?_)
                      refine lv_goto (tgt := 7) hx hb dX0_leastGot_96 (by decide) ?_
                      exact ih7 (v24) (x3_7) (x2_7) _ _ ls (by first | omega | decide) (by omega) hM hS (lv_sub hl [0, 3, 4, 5, 6] rfl)
                    · have hc23 := c23
                      have q23 := q_nle hc23
                      refine lv_aload_n hx hb dX0_leastGot_79 rfl (lv_at hl 5 rfl) ?_
                      refine m_getr (30) 0 (10) hx hb hts hown hE oc0 hM (hG.1 30 (by decide)) rfl (by decide) rfl (hG.2 (30, 0, 10) (by decide)) (by decide) tb_205 dX0_leastGot_80 ?_
                      refine m_getr (10) 0 (11) hx hb hts hown hE oc1 hM (hG.1 10 (by decide)) rfl (by decide) rfl (hG.2 (10, 0, 11) (by decide)) (by decide) tb_131 dX0_leastGot_83 ?_
                      refine lv_iload hx hb dX0_leastGot_86 (lv_at hl 2 rfl) ?_
                      refine m_iald (11) hx hb hE hM (hG.1 11 (by decide)) rfl (vp_in_iff.mpr (by omega)) dX0_leastGot_88 ?_
                      refine lv_istore_n (lv' := [(2, .int (I (11) (x4_7).toNatClampNeg)), (6, .int (0)), (5, .int (1)), (4, .int (x4_7)), (3, .int (x3_7)), (0, .ref (ad (30))), (1, .ref (ad (100)))]) hx hb dX0_leastGot_89 rfl hl (by decide) rfl (fun ls hl => ?_)
                      refine lv_iload hx hb dX0_leastGot_90 (lv_at hl 2 rfl) ?_
                      refine lv_istore_n (lv' := [(3, .int (1)), (2, .int (I (11) (x4_7).toNatClampNeg)), (6, .int (0)), (5, .int (1)), (4, .int (x4_7)), (0, .ref (ad (30))), (1, .ref (ad (100)))]) hx hb dX0_leastGot_92 rfl hl (by decide) rfl (fun ls hl => ?_)
                      obtain ⟨v25, ev25⟩ : ∃ z : Int32, z = x4_7 + Int32.ofInt (1) := ⟨_, rfl⟩
                      have tv25 := a_inc ev25 (by decide) (by omega) (by omega)
                      refine lv_iinc (v := v25) (lv' := [(4, .int (v25)), (3, .int (1)), (2, .int (I (11) (x4_7).toNatClampNeg)), (6, .int (0)), (5, .int (1)), (0, .ref (ad (30))), (1, .ref (ad (100)))]) hx hb dX0_leastGot_93 hl (k := 4) rfl ev25.symm (by decide) rfl (fun ls hl => ?_)
                      refine lv_goto (tgt := 7) hx hb dX0_leastGot_96 (by decide) ?_
                      exact ih7 (v25) (1) (I (11) (x4_7).toNatClampNeg) _ _ ls (by first | omega | decide) (by omega) hM hS (lv_sub hl [0, 1, 2, 5, 6] rfl)
              · have hc19 := c19
                have q19 := q_eq hc19
                refine lv_iconst (v := (1)) hx hb dX0_leastGot_47 (by decide) ?_
                refine lv_goto (tgt := 52) hx hb dX0_leastGot_48 (by decide) ?_
                refine lv_istore (lv' := [(6, .int (1)), (5, .int (1)), (4, .int (x4_7)), (3, .int (x3_7)), (2, .int (x2_7)), (0, .ref (ad (30))), (1, .ref (ad (100)))]) hx hb dX0_leastGot_52 hl (by decide) rfl (fun ls hl => ?_)
                refine lv_iload hx hb dX0_leastGot_54 (lv_at hl 0 rfl) ?_
                refine lv_if_ne (tgt := 79) hx hb dX0_leastGot_56 (by decide) (fun c26 => ?_) (fun c26 => ?_)
                · have hc26 := c26
                  have q26 := q_ne hc26
                  refine lv_aload_n hx hb dX0_leastGot_79 rfl (lv_at hl 5 rfl) ?_
                  refine m_getr (30) 0 (10) hx hb hts hown hE oc0 hM (hG.1 30 (by decide)) rfl (by decide) rfl (hG.2 (30, 0, 10) (by decide)) (by decide) tb_205 dX0_leastGot_80 ?_
                  refine m_getr (10) 0 (11) hx hb hts hown hE oc1 hM (hG.1 10 (by decide)) rfl (by decide) rfl (hG.2 (10, 0, 11) (by decide)) (by decide) tb_131 dX0_leastGot_83 ?_
                  refine lv_iload hx hb dX0_leastGot_86 (lv_at hl 2 rfl) ?_
                  refine m_iald (11) hx hb hE hM (hG.1 11 (by decide)) rfl (vp_in_iff.mpr (by omega)) dX0_leastGot_88 ?_
                  refine lv_istore_n (lv' := [(2, .int (I (11) (x4_7).toNatClampNeg)), (6, .int (1)), (5, .int (1)), (4, .int (x4_7)), (3, .int (x3_7)), (0, .ref (ad (30))), (1, .ref (ad (100)))]) hx hb dX0_leastGot_89 rfl hl (by decide) rfl (fun ls hl => ?_)
                  refine lv_iload hx hb dX0_leastGot_90 (lv_at hl 2 rfl) ?_
                  refine lv_istore_n (lv' := [(3, .int (1)), (2, .int (I (11) (x4_7).toNatClampNeg)), (6, .int (1)), (5, .int (1)), (4, .int (x4_7)), (0, .ref (ad (30))), (1, .ref (ad (100)))]) hx hb dX0_leastGot_92 rfl hl (by decide) rfl (fun ls hl => ?_)
                  obtain ⟨v27, ev27⟩ : ∃ z : Int32, z = x4_7 + Int32.ofInt (1) := ⟨_, rfl⟩
                  have tv27 := a_inc ev27 (by decide) (by omega) (by omega)
                  refine lv_iinc (v := v27) (lv' := [(4, .int (v27)), (3, .int (1)), (2, .int (I (11) (x4_7).toNatClampNeg)), (6, .int (1)), (5, .int (1)), (0, .ref (ad (30))), (1, .ref (ad (100)))]) hx hb dX0_leastGot_93 hl (k := 4) rfl ev27.symm (by decide) rfl (fun ls hl => ?_)
                  refine lv_goto (tgt := 7) hx hb dX0_leastGot_96 (by decide) ?_
                  exact ih7 (v27) (1) (I (11) (x4_7).toNatClampNeg) _ _ ls (by first | omega | decide) (by omega) hM hS (lv_sub hl [0, 1, 2, 5, 6] rfl)
                · exact absurd c26 (by decide)
  exact loop7 (_ + 1) (0) (0) ((-1 : Int32)) _ _ ls (by first | omega | decide) (Nat.lt_succ_self _) hM hS (lv_sub hl [0, 1, 2, 3, 4] rfl)
theorem dX0_search_0 : decode cX0_search 0 = .ok (.aload_n 0, 1) := by decide +kernel
theorem dX0_search_1 : decode cX0_search 1 = .ok (.aload_n 1, 1) := by decide +kernel
theorem dX0_search_2 : decode cX0_search 2 = .ok (.iload_n 3, 1) := by decide +kernel
theorem dX0_search_3 : decode cX0_search 3 = .ok (.invokevirtual 39, 3) := by decide +kernel
theorem dX0_search_6 : decode cX0_search 6 = .ok (.aload_n 0, 1) := by decide +kernel
theorem dX0_search_7 : decode cX0_search 7 = .ok (.iconst (-1), 1) := by decide +kernel
theorem dX0_search_8 : decode cX0_search 8 = .ok (.putfield 36, 3) := by decide +kernel
theorem dX0_search_11 : decode cX0_search 11 = .ok (.iconst 1, 1) := by decide +kernel
theorem dX0_search_12 : decode cX0_search 12 = .ok (.istore 5, 2) := by decide +kernel
theorem dX0_search_14 : decode cX0_search 14 = .ok (.iconst 0, 1) := by decide +kernel
theorem dX0_search_15 : decode cX0_search 15 = .ok (.istore 6, 2) := by decide +kernel
theorem dX0_search_17 : decode cX0_search 17 = .ok (.iload 5, 2) := by decide +kernel
theorem dX0_search_19 : decode cX0_search 19 = .ok (.ifCond .eq 100, 3) := by decide +kernel
theorem dX0_search_22 : decode cX0_search 22 = .ok (.iload 6, 2) := by decide +kernel
theorem dX0_search_24 : decode cX0_search 24 = .ok (.sipush 4096, 3) := by decide +kernel
theorem dX0_search_27 : decode cX0_search 27 = .ok (.if_icmp .ge 92, 3) := by decide +kernel
theorem dX0_search_30 : decode cX0_search 30 = .ok (.aload_n 0, 1) := by decide +kernel
theorem dX0_search_31 : decode cX0_search 31 = .ok (.aload_n 1, 1) := by decide +kernel
theorem dX0_search_32 : decode cX0_search 32 = .ok (.aload_n 0, 1) := by decide +kernel
theorem dX0_search_33 : decode cX0_search 33 = .ok (.getfield 18, 3) := by decide +kernel
theorem dX0_search_36 : decode cX0_search 36 = .ok (.invokevirtual 43, 3) := by decide +kernel
theorem dX0_search_39 : decode cX0_search 39 = .ok (.aload_n 0, 1) := by decide +kernel
theorem dX0_search_40 : decode cX0_search 40 = .ok (.getfield 24, 3) := by decide +kernel
theorem dX0_search_43 : decode cX0_search 43 = .ok (.aload_n 1, 1) := by decide +kernel
theorem dX0_search_44 : decode cX0_search 44 = .ok (.iload_n 2, 1) := by decide +kernel
theorem dX0_search_45 : decode cX0_search 45 = .ok (.invokevirtual 47, 3) := by decide +kernel
theorem dX0_search_48 : decode cX0_search 48 = .ok (.iload 4, 2) := by decide +kernel
theorem dX0_search_50 : decode cX0_search 50 = .ok (.iconst (-1), 1) := by decide +kernel
theorem dX0_search_51 : decode cX0_search 51 = .ok (.if_icmp .ne 11, 3) := by decide +kernel
theorem dX0_search_54 : decode cX0_search 54 = .ok (.aload_n 0, 1) := by decide +kernel
theorem dX0_search_55 : decode cX0_search 55 = .ok (.aload_n 1, 1) := by decide +kernel
theorem dX0_search_56 : decode cX0_search 56 = .ok (.invokevirtual 52, 3) := by decide +kernel
theorem dX0_search_59 : decode cX0_search 59 = .ok (.goto 13, 3) := by decide +kernel
theorem dX0_search_62 : decode cX0_search 62 = .ok (.aload_n 0, 1) := by decide +kernel
theorem dX0_search_63 : decode cX0_search 63 = .ok (.getfield 24, 3) := by decide +kernel
theorem dX0_search_66 : decode cX0_search 66 = .ok (.getfield 56, 3) := by decide +kernel
theorem dX0_search_69 : decode cX0_search 69 = .ok (.iload 4, 2) := by decide +kernel
theorem dX0_search_71 : decode cX0_search 71 = .ok (.iaload, 1) := by decide +kernel
theorem dX0_search_72 : decode cX0_search 72 = .ok (.istore 7, 2) := by decide +kernel
theorem dX0_search_74 : decode cX0_search 74 = .ok (.iload 7, 2) := by decide +kernel
theorem dX0_search_76 : decode cX0_search 76 = .ok (.aload_n 0, 1) := by decide +kernel
theorem dX0_search_77 : decode cX0_search 77 = .ok (.getfield 36, 3) := by decide +kernel
theorem dX0_search_80 : decode cX0_search 80 = .ok (.if_icmp .le 23, 3) := by decide +kernel
theorem dX0_search_83 : decode cX0_search 83 = .ok (.aload_n 0, 1) := by decide +kernel
theorem dX0_search_84 : decode cX0_search 84 = .ok (.iload 7, 2) := by decide +kernel
theorem dX0_search_86 : decode cX0_search 86 = .ok (.putfield 36, 3) := by decide +kernel
theorem dX0_search_89 : decode cX0_search 89 = .ok (.aload_n 0, 1) := by decide +kernel
theorem dX0_search_90 : decode cX0_search 90 = .ok (.getfield 18, 3) := by decide +kernel
theorem dX0_search_93 : decode cX0_search 93 = .ok (.iconst 0, 1) := by decide +kernel
theorem dX0_search_94 : decode cX0_search 94 = .ok (.aload_n 0, 1) := by decide +kernel
theorem dX0_search_95 : decode cX0_search 95 = .ok (.getfield 21, 3) := by decide +kernel
theorem dX0_search_98 : decode cX0_search 98 = .ok (.iconst 0, 1) := by decide +kernel
theorem dX0_search_99 : decode cX0_search 99 = .ok (.iconst 4, 1) := by decide +kernel
theorem dX0_search_100 : decode cX0_search 100 = .ok (.invokestatic 59, 3) := by decide +kernel
theorem dX0_search_103 : decode cX0_search 103 = .ok (.aload_n 0, 1) := by decide +kernel
theorem dX0_search_104 : decode cX0_search 104 = .ok (.aload_n 0, 1) := by decide +kernel
theorem dX0_search_105 : decode cX0_search 105 = .ok (.invokevirtual 65, 3) := by decide +kernel
theorem dX0_search_108 : decode cX0_search 108 = .ok (.invokevirtual 69, 3) := by decide +kernel
theorem dX0_search_111 : decode cX0_search 111 = .ok (.istore 5, 2) := by decide +kernel
theorem dX0_search_113 : decode cX0_search 113 = .ok (.iinc 6 1, 3) := by decide +kernel
theorem dX0_search_116 : decode cX0_search 116 = .ok (.goto (-99), 3) := by decide +kernel
theorem dX0_search_119 : decode cX0_search 119 = .ok (.aload_n 0, 1) := by decide +kernel
theorem dX0_search_120 : decode cX0_search 120 = .ok (.aload_n 1, 1) := by decide +kernel
theorem dX0_search_121 : decode cX0_search 121 = .ok (.aload_n 0, 1) := by decide +kernel
theorem dX0_search_122 : decode cX0_search 122 = .ok (.getfield 15, 3) := by decide +kernel
theorem dX0_search_125 : decode cX0_search 125 = .ok (.invokevirtual 43, 3) := by decide +kernel
theorem dX0_search_128 : decode cX0_search 128 = .ok (.return_, 1) := by decide +kernel
theorem ce_X0_search : CeV RX0 yX0_search cX0_search 8 none 4 := ⟨tb_967, tb_968, tb_5, tb_969, rfl, by decide, by decide, by decide +kernel⟩
set_option maxHeartbeats 4000000 in
set_option maxRecDepth 20000 in
theorem V_X0_search (l : Launch) (D : va_G) (A : Nat → Prop) (ad : Nat → Nat) (ns : List Nat) (I : MI) (L : ML) (G : MG) (a0 : Int32) (a1 : Int32) (a2 : Int32) (hG : SGC ns G) (hI : INV I) (hlit : Lit 100 I a0) (ha0 : 0 ≤ a0.toInt ∧ a0.toInt ≤ 23) (ha2 : -1 ≤ a2.toInt ∧ a2.toInt ≤ 7) : Met l yX0_search (wd yX0_search cX0_search 8 none) ({ frames := 4, cells := 0, slots := 0, locals := 107 }) (va_Pc [.ref (ad (30)), .ref (ad (100)), .int a0, .int a1, .int a2] (PM D A ad ns I L G)) (va_Qv (fun u => ∃ I2 L2, u = (ad, ns, I2, L2, G) ∧ INV I2 ∧ Kp [(11, 15), (31, 35), (107, 108)] [(10, 2), (10, 3), (10, 4), (10, 5), (10, 6), (10, 7), (10, 11), (10, 12), (30, 5), (30, 6)] I I2) (BM D A) A) 0 0 A := by
  refine m_ofW (by decide) (Nat.le_of_ble_eq_true rfl) ?_
  intro p e s m below meth c ls args hC hE hM hA hS hl
  obtain ⟨hx, hb, hml, hown, hts, hr, hlocks, hin⟩ := hC
  have km1 : (-1 : Int32).toInt = -1 := by decide
  have k0 : (0 : Int32).toInt = 0 := by decide
  have k1 : (1 : Int32).toInt = 1 := by decide
  have k4 : (4 : Int32).toInt = 4 := by decide
  have k4096 : (4096 : Int32).toInt = 4096 := by decide
  have hK : Kp [(11, 15), (31, 35), (107, 108)] [(10, 2), (10, 3), (10, 4), (10, 5), (10, 6), (10, 7), (10, 11), (10, 12), (30, 5), (30, 6)] I I := Kp.rf
  have hl : lv_has ls 8 [(0, .ref (ad (30))), (1, .ref (ad (100))), (2, .int (a0)), (3, .int (a1)), (4, .int (a2))] := hl
  refine lv_aload_n hx hb dX0_search_0 rfl (lv_at hl 0 rfl) ?_
  refine lv_aload_n hx hb dX0_search_1 rfl (lv_at hl 1 rfl) ?_
  refine lv_iload_n hx hb dX0_search_2 rfl (lv_at hl 3 rfl) ?_
  refine m_callv (m_runV (30) (As := [.ref (ad (100)), .int (a1)]) (rest := []) hx hb hml hown hts hE hM hS hA ce_X0_gather tb_970 (V_X0_gather l D A ad ns I L G (a1) hG hI) rfl rfl ⟨Nat.le_of_ble_eq_true rfl, Nat.le_of_ble_eq_true rfl⟩ (hG.1 30 (by decide)) rfl rfl (by decide) rfl hl.1 rfl (Nat.le_of_ble_eq_true rfl) dX0_search_3 ⟨Nat.le_of_ble_eq_true rfl, Nat.le_of_ble_eq_true rfl⟩) hS (fun u H locs hw hM hS => ?_)
  obtain ⟨I1, L2, rfl, hI, hkI1⟩ := hw
  have hM : Mem D A ad ns I1 L2 G H := hM
  have hK := hK.trans hkI1 rfl
  refine lv_aload_n hx hb dX0_search_6 rfl (lv_at hl 0 rfl) ?_
  refine lv_iconst (v := (-1)) hx hb dX0_search_7 (by decide) ?_
  refine m_puti (30) 6 hx hb hts hown hE oc0 hM hS (hG.1 30 (by decide)) rfl (by decide) rfl rfl rfl rfl tb_211 dX0_search_8 (fun H locs I3 eI3 hM hS => ?_)
  subst eI3
  have hI := hI.putF (n := 30) (k := 6) (v := (-1 : Int32)) rfl
  have hK := hK.put (n := 30) (k := 6) (v := (-1 : Int32)) (by first | rfl | simp [inR])
  refine lv_iconst (v := (1)) hx hb dX0_search_11 (by decide) ?_
  refine lv_istore (lv' := [(5, .int (1)), (0, .ref (ad (30))), (1, .ref (ad (100))), (2, .int (a0)), (3, .int (a1)), (4, .int (a2))]) hx hb dX0_search_12 hl (by decide) rfl (fun ls hl => ?_)
  refine lv_iconst (v := (0)) hx hb dX0_search_14 (by decide) ?_
  refine lv_istore (lv' := [(6, .int (0)), (5, .int (1)), (0, .ref (ad (30))), (1, .ref (ad (100))), (2, .int (a0)), (3, .int (a1)), (4, .int (a2))]) hx hb dX0_search_15 hl (by decide) rfl (fun ls hl => ?_)
  have loop17 : ∀ (n : Nat) (x6_17 : Int32) (x5_17 : Int32) (Ia17 : MI) (La17 : ML) (H : Heap) (locs : List Loc) (ls : Array Slot), INV Ia17 → Kp [(11, 15), (31, 35), (107, 108)] [(10, 2), (10, 3), (10, 4), (10, 5), (10, 6), (10, 7), (10, 11), (10, 12), (30, 5), (30, 6)] I Ia17 → (0 ≤ x6_17.toInt ∧ x6_17.toInt ≤ 4096) → (4096 - x6_17.toInt).toNat < n → Mem D A ad ns Ia17 La17 G H → va_S A s.heap H locs → lv_has ls 8 [(6, .int (x6_17)), (5, .int (x5_17)), (0, .ref (ad (30))), (1, .ref (ad (100))), (2, .int (a0)), (3, .int (a1)), (4, .int (a2))] → W p l e ({ frames := 4, cells := 0, slots := 0, locals := 107 } : Room) s m args below meth c H locs 0 0 (MQ below (va_Qv (fun u => ∃ I2 L2, u = (ad, ns, I2, L2, G) ∧ INV I2 ∧ Kp [(11, 15), (31, 35), (107, 108)] [(10, 2), (10, 3), (10, 4), (10, 5), (10, 6), (10, 7), (10, 11), (10, 12), (30, 5), (30, 6)] I I2) (BM D A) A) args s 0 0 A) (F0 m 17 ls []) := by
    intro n
    induction n with
    | zero =>
      intro x6_17 x5_17 Ia17 La17 H locs ls hI hK hr6_17 hmu
      exact absurd hmu (Nat.not_lt_zero _)
    | succ n ih17 =>
      intro x6_17 x5_17 Ia17 La17 H locs ls hI hK hr6_17 hmu17 hM hS hl
      refine lv_iload hx hb dX0_search_17 (lv_at hl 1 rfl) ?_
      refine lv_if_eq (tgt := 119) hx hb dX0_search_19 (by decide) (fun c4 => ?_) (fun c4 => ?_)
      · have hc4 := c4
        have q4 := q_eq hc4
        refine lv_aload_n hx hb dX0_search_119 rfl (lv_at hl 2 rfl) ?_
        refine lv_aload_n hx hb dX0_search_120 rfl (lv_at hl 3 rfl) ?_
        refine lv_aload_n hx hb dX0_search_121 rfl (lv_at hl 2 rfl) ?_
        refine m_getr (30) 2 (32) hx hb hts hown hE oc0 hM (hG.1 30 (by decide)) rfl (by decide) rfl (hG.2 (30, 2, 32) (by decide)) (by decide) tb_207 dX0_search_122 ?_
        refine m_callv (m_runV (30) (As := [.ref (ad (100)), .ref (ad (32))]) (rest := []) hx hb hml hown hts hE hM hS hA ce_X0_putSlants tb_975 (V_X0_putSlants_32 l D A ad ns Ia17 La17 G hG hI) rfl rfl ⟨Nat.le_of_ble_eq_true rfl, Nat.le_of_ble_eq_true rfl⟩ (hG.1 30 (by decide)) rfl rfl (by decide) rfl hl.1 rfl (Nat.le_of_ble_eq_true rfl) dX0_search_125 ⟨Nat.le_of_ble_eq_true rfl, Nat.le_of_ble_eq_true rfl⟩) hS (fun u H locs hw hM hS => ?_)
        obtain ⟨I5, L6, rfl, hI, hkI5⟩ := hw
        have hM : Mem D A ad ns I5 L6 G H := hM
        have hK := hK.trans hkI5 rfl
        exact m_vret hx hb hr hlocks hM hS (Nat.le_of_ble_eq_true rfl) (Nat.le_of_ble_eq_true rfl) ⟨_, _, rfl, hI, hK⟩ dX0_search_128
      · have hc4 := c4
        have q4 := q_ne hc4
        refine lv_iload hx hb dX0_search_22 (lv_at hl 0 rfl) ?_
        refine lv_sipush (v := (4096)) hx hb dX0_search_24 (by decide) ?_
        refine lv_icmp_ge (tgt := 119) hx hb dX0_search_27 (by decide) (fun c7 => ?_) (fun c7 => ?_)
        · have hc7 := c7
          have q7 := q_le hc7
          refine lv_aload_n hx hb dX0_search_119 rfl (lv_at hl 2 rfl) ?_
          refine lv_aload_n hx hb dX0_search_120 rfl (lv_at hl 3 rfl) ?_
          refine lv_aload_n hx hb dX0_search_121 rfl (lv_at hl 2 rfl) ?_
          refine m_getr (30) 2 (32) hx hb hts hown hE oc0 hM (hG.1 30 (by decide)) rfl (by decide) rfl (hG.2 (30, 2, 32) (by decide)) (by decide) tb_207 dX0_search_122 ?_
          refine m_callv (m_runV (30) (As := [.ref (ad (100)), .ref (ad (32))]) (rest := []) hx hb hml hown hts hE hM hS hA ce_X0_putSlants tb_975 (V_X0_putSlants_32 l D A ad ns Ia17 La17 G hG hI) rfl rfl ⟨Nat.le_of_ble_eq_true rfl, Nat.le_of_ble_eq_true rfl⟩ (hG.1 30 (by decide)) rfl rfl (by decide) rfl hl.1 rfl (Nat.le_of_ble_eq_true rfl) dX0_search_125 ⟨Nat.le_of_ble_eq_true rfl, Nat.le_of_ble_eq_true rfl⟩) hS (fun u H locs hw hM hS => ?_)
          obtain ⟨I8, L9, rfl, hI, hkI8⟩ := hw
          have hM : Mem D A ad ns I8 L9 G H := hM
          have hK := hK.trans hkI8 rfl
          exact m_vret hx hb hr hlocks hM hS (Nat.le_of_ble_eq_true rfl) (Nat.le_of_ble_eq_true rfl) ⟨_, _, rfl, hI, hK⟩ dX0_search_128
        · have hc7 := c7
          have q7 := q_nle hc7
          refine lv_aload_n hx hb dX0_search_30 rfl (lv_at hl 2 rfl) ?_
          refine lv_aload_n hx hb dX0_search_31 rfl (lv_at hl 3 rfl) ?_
          refine lv_aload_n hx hb dX0_search_32 rfl (lv_at hl 2 rfl) ?_
          refine m_getr (30) 3 (33) hx hb hts hown hE oc0 hM (hG.1 30 (by decide)) rfl (by decide) rfl (hG.2 (30, 3, 33) (by decide)) (by decide) tb_208 dX0_search_33 ?_
          refine m_callv (m_runV (30) (As := [.ref (ad (100)), .ref (ad (33))]) (rest := []) hx hb hml hown hts hE hM hS hA ce_X0_putSlants tb_975 (V_X0_putSlants_33 l D A ad ns Ia17 La17 G hG hI) rfl rfl ⟨Nat.le_of_ble_eq_true rfl, Nat.le_of_ble_eq_true rfl⟩ (hG.1 30 (by decide)) rfl rfl (by decide) rfl hl.1 rfl (Nat.le_of_ble_eq_true rfl) dX0_search_36 ⟨Nat.le_of_ble_eq_true rfl, Nat.le_of_ble_eq_true rfl⟩) hS (fun u H locs hw hM hS => ?_)
          obtain ⟨I10, L11, rfl, hI, hkI10⟩ := hw
          have hM : Mem D A ad ns I10 L11 G H := hM
          have hK := hK.trans hkI10 rfl
          refine lv_aload_n hx hb dX0_search_39 rfl (lv_at hl 2 rfl) ?_
          refine m_getr (30) 0 (10) hx hb hts hown hE oc0 hM (hG.1 30 (by decide)) rfl (by decide) rfl (hG.2 (30, 0, 10) (by decide)) (by decide) tb_205 dX0_search_40 ?_
          refine lv_aload_n hx hb dX0_search_43 rfl (lv_at hl 3 rfl) ?_
          refine lv_iload_n hx hb dX0_search_44 rfl (lv_at hl 4 rfl) ?_
          refine m_callv (m_runV (10) (As := [.ref (ad (100)), .int (a0)]) (rest := []) hx hb hml hown hts hE hM hS hA ce_X1_shine tb_980 (V_X1_shine_100 l D A ad ns I10 L11 G (a0) hG hI (hlit.kp hK rfl) (by first | omega | decide)) rfl rfl ⟨Nat.le_of_ble_eq_true rfl, Nat.le_of_ble_eq_true rfl⟩ (hG.1 10 (by decide)) rfl rfl (by decide) rfl hl.1 rfl (Nat.le_of_ble_eq_true rfl) dX0_search_45 ⟨Nat.le_of_ble_eq_true rfl, Nat.le_of_ble_eq_true rfl⟩) hS (fun u H locs hw hM hS => ?_)
          obtain ⟨I12, L13, rfl, hI, hkI12⟩ := hw
          have hM : Mem D A ad ns I12 L13 G H := hM
          have hK := hK.trans hkI12 rfl
          refine lv_iload hx hb dX0_search_48 (lv_at hl 6 rfl) ?_
          refine lv_iconst (v := (-1)) hx hb dX0_search_50 (by decide) ?_
          refine lv_icmp_ne (tgt := 62) hx hb dX0_search_51 (by decide) (fun c14 => ?_) (fun c14 => ?_)
          · have hc14 := c14
            have q14 := q_ne hc14
            refine lv_aload_n hx hb dX0_search_62 rfl (lv_at hl 2 rfl) ?_
            refine m_getr (30) 0 (10) hx hb hts hown hE oc0 hM (hG.1 30 (by decide)) rfl (by decide) rfl (hG.2 (30, 0, 10) (by decide)) (by decide) tb_205 dX0_search_63 ?_
            refine m_getr (10) 0 (11) hx hb hts hown hE oc1 hM (hG.1 10 (by decide)) rfl (by decide) rfl (hG.2 (10, 0, 11) (by decide)) (by decide) tb_131 dX0_search_66 ?_
            refine lv_iload hx hb dX0_search_69 (lv_at hl 6 rfl) ?_
            refine m_iald (11) hx hb hE hM (hG.1 11 (by decide)) rfl (vp_in_iff.mpr (by omega)) dX0_search_71 ?_
            refine lv_istore (lv' := [(7, .int (I12 (11) (a2).toNatClampNeg)), (6, .int (x6_17)), (5, .int (x5_17)), (0, .ref (ad (30))), (1, .ref (ad (100))), (2, .int (a0)), (3, .int (a1)), (4, .int (a2))]) hx hb dX0_search_72 hl (by decide) rfl (fun ls hl => ?_)
            refine lv_iload hx hb dX0_search_74 (lv_at hl 0 rfl) ?_
            refine lv_aload_n hx hb dX0_search_76 rfl (lv_at hl 3 rfl) ?_
            refine m_geti (30) 6 hx hb hts hown hE oc0 hM (hG.1 30 (by decide)) rfl (by decide) rfl tb_211 dX0_search_77 ?_
            have z15 : I12 (30) 6 = Ia17 (30) 6 := ((hkI12.get (30) 6 rfl)).trans (hkI10.get (30) 6 rfl)
            rw [z15]
            refine lv_icmp_le (tgt := 103) hx hb dX0_search_80 (by decide) (fun c16 => ?_) (fun c16 => ?_)
            · have hc16 := c16
              have q16 := q_le hc16
              refine lv_aload_n hx hb dX0_search_103 rfl (lv_at hl 3 rfl) ?_
              refine lv_aload_n hx hb dX0_search_104 rfl (lv_at hl 3 rfl) ?_
              refine m_calli (m_runV (30) (As := []) (rest := [.ref (ad (30))]) hx hb hml hown hts hE hM hS hA ce_X0_lastTouched tb_987 (V_X0_lastTouched l D A ad ns I12 L13 G hG hI) rfl rfl ⟨Nat.le_of_ble_eq_true rfl, Nat.le_of_ble_eq_true rfl⟩ (hG.1 30 (by decide)) rfl rfl (by decide) rfl hl.1 rfl (Nat.le_of_ble_eq_true rfl) dX0_search_105 ⟨Nat.le_of_ble_eq_true rfl, Nat.le_of_ble_eq_true rfl⟩) hS (fun r17 u H locs hw hM hS => ?_)
              obtain ⟨rfl, xr17⟩ := hw
              have hM : Mem D A ad ns I12 L13 G H := hM
              refine m_calli (m_runV (30) (As := [.int (r17)]) (rest := []) hx hb hml hown hts hE hM hS hA ce_X0_goOn tb_995 (V_X0_goOn l D A ad ns I12 L13 G (r17) hG hI (by first | omega | decide)) rfl rfl ⟨Nat.le_of_ble_eq_true rfl, Nat.le_of_ble_eq_true rfl⟩ (hG.1 30 (by decide)) rfl rfl (by decide) rfl hl.1 rfl (Nat.le_of_ble_eq_true rfl) dX0_search_108 ⟨Nat.le_of_ble_eq_true rfl, Nat.le_of_ble_eq_true rfl⟩) hS (fun r18 u H locs hw hM hS => ?_)
              obtain ⟨I19, L20, rfl, hI, hkI19, xr18⟩ := hw
              have hM : Mem D A ad ns I19 L20 G H := hM
              have hK := hK.trans hkI19 rfl
              refine lv_istore (lv' := [(5, .int (r18)), (7, .int (I12 (11) (a2).toNatClampNeg)), (6, .int (x6_17)), (0, .ref (ad (30))), (1, .ref (ad (100))), (2, .int (a0)), (3, .int (a1)), (4, .int (a2))]) hx hb dX0_search_111 hl (by decide) rfl (fun ls hl => ?_)
              obtain ⟨v21, ev21⟩ : ∃ z : Int32, z = x6_17 + Int32.ofInt (1) := ⟨_, rfl⟩
              have tv21 := a_inc ev21 (by decide) (by omega) (by omega)
              refine lv_iinc (v := v21) (lv' := [(6, .int (v21)), (5, .int (r18)), (7, .int (I12 (11) (a2).toNatClampNeg)), (0, .ref (ad (30))), (1, .ref (ad (100))), (2, .int (a0)), (3, .int (a1)), (4, .int (a2))]) hx hb dX0_search_113 hl (k := 2) rfl ev21.symm (by decide) rfl (fun ls hl => ?_)
              refine lv_goto (tgt := 17) hx hb dX0_search_116 (by decide) ?_
              exact ih17 (v21) (r18) I19 L20 _ _ ls hI hK (by first | omega | decide) (by omega) hM hS (lv_sub hl [0, 1, 3, 4, 5, 6, 7] rfl)
            · have hc16 := c16
              have q16 := q_nle hc16
              refine lv_aload_n hx hb dX0_search_83 rfl (lv_at hl 3 rfl) ?_
              refine lv_iload hx hb dX0_search_84 (lv_at hl 0 rfl) ?_
              refine m_puti (30) 6 hx hb hts hown hE oc0 hM hS (hG.1 30 (by decide)) rfl (by decide) rfl rfl rfl rfl tb_211 dX0_search_86 (fun H locs I22 eI22 hM hS => ?_)
              subst eI22
              have hI := hI.putF (n := 30) (k := 6) (v := I12 (11) (a2).toNatClampNeg) rfl
              have hK := hK.put (n := 30) (k := 6) (v := I12 (11) (a2).toNatClampNeg) (by first | rfl | simp [inR])
              refine lv_aload_n hx hb dX0_search_89 rfl (lv_at hl 3 rfl) ?_
              refine m_getr (30) 3 (33) hx hb hts hown hE oc0 hM (hG.1 30 (by decide)) rfl (by decide) rfl (hG.2 (30, 3, 33) (by decide)) (by decide) tb_208 dX0_search_90 ?_
              refine lv_iconst (v := (0)) hx hb dX0_search_93 (by decide) ?_
              refine lv_aload_n hx hb dX0_search_94 rfl (lv_at hl 3 rfl) ?_
              refine m_getr (30) 4 (34) hx hb hts hown hE oc0 hM (hG.1 30 (by decide)) rfl (by decide) rfl (hG.2 (30, 4, 34) (by decide)) (by decide) tb_209 dX0_search_95 ?_
              refine lv_iconst (v := (0)) hx hb dX0_search_98 (by decide) ?_
              refine lv_iconst (v := (4)) hx hb dX0_search_99 (by decide) ?_
              refine m_copyi (33) (34) hx hb (hml.trans hl.1.symm) hown hE hM hS (hG.1 33 (by decide)) rfl (hG.1 34 (by decide)) rfl (hts _ tb_986) (hts _ tb_568) (hts _ tb_567) (hts _ tb_13) ⟨⟨by decide, by decide, by decide⟩, by decide, by decide⟩ (Nat.le_of_ble_eq_true rfl) (Nat.le_of_ble_eq_true rfl) dX0_search_100 (fun H locs I23 eI23 hM hS => ?_)
              have hI : INV I23 := by rw [eI23]; exact hI.cpy (by intro i hi; left; rfl)
              have hK : Kp [(11, 15), (31, 35), (107, 108)] [(10, 2), (10, 3), (10, 4), (10, 5), (10, 6), (10, 7), (10, 11), (10, 12), (30, 5), (30, 6)] I I23 := by rw [eI23]; exact hK.cpy rfl
              refine lv_aload_n hx hb dX0_search_103 rfl (lv_at hl 3 rfl) ?_
              refine lv_aload_n hx hb dX0_search_104 rfl (lv_at hl 3 rfl) ?_
              refine m_calli (m_runV (30) (As := []) (rest := [.ref (ad (30))]) hx hb hml hown hts hE hM hS hA ce_X0_lastTouched tb_987 (V_X0_lastTouched l D A ad ns I23 L13 G hG hI) rfl rfl ⟨Nat.le_of_ble_eq_true rfl, Nat.le_of_ble_eq_true rfl⟩ (hG.1 30 (by decide)) rfl rfl (by decide) rfl hl.1 rfl (Nat.le_of_ble_eq_true rfl) dX0_search_105 ⟨Nat.le_of_ble_eq_true rfl, Nat.le_of_ble_eq_true rfl⟩) hS (fun r24 u H locs hw hM hS => ?_)
              obtain ⟨rfl, xr24⟩ := hw
              have hM : Mem D A ad ns I23 L13 G H := hM
              refine m_calli (m_runV (30) (As := [.int (r24)]) (rest := []) hx hb hml hown hts hE hM hS hA ce_X0_goOn tb_995 (V_X0_goOn l D A ad ns I23 L13 G (r24) hG hI (by first | omega | decide)) rfl rfl ⟨Nat.le_of_ble_eq_true rfl, Nat.le_of_ble_eq_true rfl⟩ (hG.1 30 (by decide)) rfl rfl (by decide) rfl hl.1 rfl (Nat.le_of_ble_eq_true rfl) dX0_search_108 ⟨Nat.le_of_ble_eq_true rfl, Nat.le_of_ble_eq_true rfl⟩) hS (fun r25 u H locs hw hM hS => ?_)
              obtain ⟨I26, L27, rfl, hI, hkI26, xr25⟩ := hw
              have hM : Mem D A ad ns I26 L27 G H := hM
              have hK := hK.trans hkI26 rfl
              refine lv_istore (lv' := [(5, .int (r25)), (7, .int (I12 (11) (a2).toNatClampNeg)), (6, .int (x6_17)), (0, .ref (ad (30))), (1, .ref (ad (100))), (2, .int (a0)), (3, .int (a1)), (4, .int (a2))]) hx hb dX0_search_111 hl (by decide) rfl (fun ls hl => ?_)
              obtain ⟨v28, ev28⟩ : ∃ z : Int32, z = x6_17 + Int32.ofInt (1) := ⟨_, rfl⟩
              have tv28 := a_inc ev28 (by decide) (by omega) (by omega)
              refine lv_iinc (v := v28) (lv' := [(6, .int (v28)), (5, .int (r25)), (7, .int (I12 (11) (a2).toNatClampNeg)), (0, .ref (ad (30))), (1, .ref (ad (100))), (2, .int (a0)), (3, .int (a1)), (4, .int (a2))]) hx hb dX0_search_113 hl (k := 2) rfl ev28.symm (by decide) rfl (fun ls hl => ?_)
              refine lv_goto (tgt := 17) hx hb dX0_search_116 (by decide) ?_
              exact ih17 (v28) (r25) I26 L27 _ _ ls hI hK (by first | omega | decide) (by omega) hM hS (lv_sub hl [0, 1, 3, 4, 5, 6, 7] rfl)
          · have hc14 := c14
            have q14 := q_eq hc14
            refine lv_aload_n hx hb dX0_search_54 rfl (lv_at hl 2 rfl) ?_
            refine lv_aload_n hx hb dX0_search_55 rfl (lv_at hl 3 rfl) ?_
            refine m_calli (m_runV (30) (As := [.ref (ad (100))]) (rest := []) hx hb hml hown hts hE hM hS hA ce_X0_leastGot tb_981 (V_X0_leastGot l D A ad ns I12 L13 G hG hI) rfl rfl ⟨Nat.le_of_ble_eq_true rfl, Nat.le_of_ble_eq_true rfl⟩ (hG.1 30 (by decide)) rfl rfl (by decide) rfl hl.1 rfl (Nat.le_of_ble_eq_true rfl) dX0_search_56 ⟨Nat.le_of_ble_eq_true rfl, Nat.le_of_ble_eq_true rfl⟩) hS (fun r29 u H locs hw hM hS => ?_)
            obtain ⟨rfl, xr29⟩ := hw
            have hM : Mem D A ad ns I12 L13 G H := hM
            refine lv_goto (tgt := 72) hx hb dX0_search_59 (by decide) ?_
            refine lv_istore (lv' := [(7, .int (r29)), (6, .int (x6_17)), (5, .int (x5_17)), (0, .ref (ad (30))), (1, .ref (ad (100))), (2, .int (a0)), (3, .int (a1)), (4, .int (a2))]) hx hb dX0_search_72 hl (by decide) rfl (fun ls hl => ?_)
            refine lv_iload hx hb dX0_search_74 (lv_at hl 0 rfl) ?_
            refine lv_aload_n hx hb dX0_search_76 rfl (lv_at hl 3 rfl) ?_
            refine m_geti (30) 6 hx hb hts hown hE oc0 hM (hG.1 30 (by decide)) rfl (by decide) rfl tb_211 dX0_search_77 ?_
            have z30 : I12 (30) 6 = Ia17 (30) 6 := ((hkI12.get (30) 6 rfl)).trans (hkI10.get (30) 6 rfl)
            rw [z30]
            refine lv_icmp_le (tgt := 103) hx hb dX0_search_80 (by decide) (fun c31 => ?_) (fun c31 => ?_)
            · have hc31 := c31
              have q31 := q_le hc31
              refine lv_aload_n hx hb dX0_search_103 rfl (lv_at hl 3 rfl) ?_
              refine lv_aload_n hx hb dX0_search_104 rfl (lv_at hl 3 rfl) ?_
              refine m_calli (m_runV (30) (As := []) (rest := [.ref (ad (30))]) hx hb hml hown hts hE hM hS hA ce_X0_lastTouched tb_987 (V_X0_lastTouched l D A ad ns I12 L13 G hG hI) rfl rfl ⟨Nat.le_of_ble_eq_true rfl, Nat.le_of_ble_eq_true rfl⟩ (hG.1 30 (by decide)) rfl rfl (by decide) rfl hl.1 rfl (Nat.le_of_ble_eq_true rfl) dX0_search_105 ⟨Nat.le_of_ble_eq_true rfl, Nat.le_of_ble_eq_true rfl⟩) hS (fun r32 u H locs hw hM hS => ?_)
              obtain ⟨rfl, xr32⟩ := hw
              have hM : Mem D A ad ns I12 L13 G H := hM
              refine m_calli (m_runV (30) (As := [.int (r32)]) (rest := []) hx hb hml hown hts hE hM hS hA ce_X0_goOn tb_995 (V_X0_goOn l D A ad ns I12 L13 G (r32) hG hI (by first | omega | decide)) rfl rfl ⟨Nat.le_of_ble_eq_true rfl, Nat.le_of_ble_eq_true rfl⟩ (hG.1 30 (by decide)) rfl rfl (by decide) rfl hl.1 rfl (Nat.le_of_ble_eq_true rfl) dX0_search_108 ⟨Nat.le_of_ble_eq_true rfl, Nat.le_of_ble_eq_true rfl⟩) hS (fun r33 u H locs hw hM hS => ?_)
              obtain ⟨I34, L35, rfl, hI, hkI34, xr33⟩ := hw
              have hM : Mem D A ad ns I34 L35 G H := hM
              have hK := hK.trans hkI34 rfl
              refine lv_istore (lv' := [(5, .int (r33)), (7, .int (r29)), (6, .int (x6_17)), (0, .ref (ad (30))), (1, .ref (ad (100))), (2, .int (a0)), (3, .int (a1)), (4, .int (a2))]) hx hb dX0_search_111 hl (by decide) rfl (fun ls hl => ?_)
              obtain ⟨v36, ev36⟩ : ∃ z : Int32, z = x6_17 + Int32.ofInt (1) := ⟨_, rfl⟩
              have tv36 := a_inc ev36 (by decide) (by omega) (by omega)
              refine lv_iinc (v := v36) (lv' := [(6, .int (v36)), (5, .int (r33)), (7, .int (r29)), (0, .ref (ad (30))), (1, .ref (ad (100))), (2, .int (a0)), (3, .int (a1)), (4, .int (a2))]) hx hb dX0_search_113 hl (k := 2) rfl ev36.symm (by decide) rfl (fun ls hl => ?_)
              refine lv_goto (tgt := 17) hx hb dX0_search_116 (by decide) ?_
              exact ih17 (v36) (r33) I34 L35 _ _ ls hI hK (by first | omega | decide) (by omega) hM hS (lv_sub hl [0, 1, 3, 4, 5, 6, 7] rfl)
            · have hc31 := c31
              have q31 := q_nle hc31
              refine lv_aload_n hx hb dX0_search_83 rfl (lv_at hl 3 rfl) ?_
              refine lv_iload hx hb dX0_search_84 (lv_at hl 0 rfl) ?_
              refine m_puti (30) 6 hx hb hts hown hE oc0 hM hS (hG.1 30 (by decide)) rfl (by decide) rfl rfl rfl rfl tb_211 dX0_search_86 (fun H locs I37 eI37 hM hS => ?_)
              subst eI37
              have hI := hI.putF (n := 30) (k := 6) (v := r29) rfl
              have hK := hK.put (n := 30) (k := 6) (v := r29) (by first | rfl | simp [inR])
              refine lv_aload_n hx hb dX0_search_89 rfl (lv_at hl 3 rfl) ?_
              refine m_getr (30) 3 (33) hx hb hts hown hE oc0 hM (hG.1 30 (by decide)) rfl (by decide) rfl (hG.2 (30, 3, 33) (by decide)) (by decide) tb_208 dX0_search_90 ?_
              refine lv_iconst (v := (0)) hx hb dX0_search_93 (by decide) ?_
              refine lv_aload_n hx hb dX0_search_94 rfl (lv_at hl 3 rfl) ?_
              refine m_getr (30) 4 (34) hx hb hts hown hE oc0 hM (hG.1 30 (by decide)) rfl (by decide) rfl (hG.2 (30, 4, 34) (by decide)) (by decide) tb_209 dX0_search_95 ?_
              refine lv_iconst (v := (0)) hx hb dX0_search_98 (by decide) ?_
              refine lv_iconst (v := (4)) hx hb dX0_search_99 (by decide) ?_
              refine m_copyi (33) (34) hx hb (hml.trans hl.1.symm) hown hE hM hS (hG.1 33 (by decide)) rfl (hG.1 34 (by decide)) rfl (hts _ tb_986) (hts _ tb_568) (hts _ tb_567) (hts _ tb_13) ⟨⟨by decide, by decide, by decide⟩, by decide, by decide⟩ (Nat.le_of_ble_eq_true rfl) (Nat.le_of_ble_eq_true rfl) dX0_search_100 (fun H locs I38 eI38 hM hS => ?_)
              have hI : INV I38 := by rw [eI38]; exact hI.cpy (by intro i hi; left; rfl)
              have hK : Kp [(11, 15), (31, 35), (107, 108)] [(10, 2), (10, 3), (10, 4), (10, 5), (10, 6), (10, 7), (10, 11), (10, 12), (30, 5), (30, 6)] I I38 := by rw [eI38]; exact hK.cpy rfl
              refine lv_aload_n hx hb dX0_search_103 rfl (lv_at hl 3 rfl) ?_
              refine lv_aload_n hx hb dX0_search_104 rfl (lv_at hl 3 rfl) ?_
              refine m_calli (m_runV (30) (As := []) (rest := [.ref (ad (30))]) hx hb hml hown hts hE hM hS hA ce_X0_lastTouched tb_987 (V_X0_lastTouched l D A ad ns I38 L13 G hG hI) rfl rfl ⟨Nat.le_of_ble_eq_true rfl, Nat.le_of_ble_eq_true rfl⟩ (hG.1 30 (by decide)) rfl rfl (by decide) rfl hl.1 rfl (Nat.le_of_ble_eq_true rfl) dX0_search_105 ⟨Nat.le_of_ble_eq_true rfl, Nat.le_of_ble_eq_true rfl⟩) hS (fun r39 u H locs hw hM hS => ?_)
              obtain ⟨rfl, xr39⟩ := hw
              have hM : Mem D A ad ns I38 L13 G H := hM
              refine m_calli (m_runV (30) (As := [.int (r39)]) (rest := []) hx hb hml hown hts hE hM hS hA ce_X0_goOn tb_995 (V_X0_goOn l D A ad ns I38 L13 G (r39) hG hI (by first | omega | decide)) rfl rfl ⟨Nat.le_of_ble_eq_true rfl, Nat.le_of_ble_eq_true rfl⟩ (hG.1 30 (by decide)) rfl rfl (by decide) rfl hl.1 rfl (Nat.le_of_ble_eq_true rfl) dX0_search_108 ⟨Nat.le_of_ble_eq_true rfl, Nat.le_of_ble_eq_true rfl⟩) hS (fun r40 u H locs hw hM hS => ?_)
              obtain ⟨I41, L42, rfl, hI, hkI41, xr40⟩ := hw
              have hM : Mem D A ad ns I41 L42 G H := hM
              have hK := hK.trans hkI41 rfl
              refine lv_istore (lv' := [(5, .int (r40)), (7, .int (r29)), (6, .int (x6_17)), (0, .ref (ad (30))), (1, .ref (ad (100))), (2, .int (a0)), (3, .int (a1)), (4, .int (a2))]) hx hb dX0_search_111 hl (by decide) rfl (fun ls hl => ?_)
              obtain ⟨v43, ev43⟩ : ∃ z : Int32, z = x6_17 + Int32.ofInt (1) := ⟨_, rfl⟩
              have tv43 := a_inc ev43 (by decide) (by omega) (by omega)
              refine lv_iinc (v := v43) (lv' := [(6, .int (v43)), (5, .int (r40)), (7, .int (r29)), (0, .ref (ad (30))), (1, .ref (ad (100))), (2, .int (a0)), (3, .int (a1)), (4, .int (a2))]) hx hb dX0_search_113 hl (k := 2) rfl ev43.symm (by decide) rfl (fun ls hl => ?_)
              refine lv_goto (tgt := 17) hx hb dX0_search_116 (by decide) ?_
              exact ih17 (v43) (r40) I41 L42 _ _ ls hI hK (by first | omega | decide) (by omega) hM hS (lv_sub hl [0, 1, 3, 4, 5, 6, 7] rfl)
  exact loop17 (_ + 1) (0) (1) (u2 I1 (30) 6 ((-1 : Int32))) L2 _ _ ls hI hK (by first | omega | decide) (Nat.lt_succ_self _) hM hS (lv_sub hl [0, 1, 2, 3, 4, 5, 6] rfl)
theorem dX5_isIn_0 : decode cX5_isIn 0 = .ok (.iload_n 0, 1) := by decide +kernel
theorem dX5_isIn_1 : decode cX5_isIn 1 = .ok (.iload_n 1, 1) := by decide +kernel
theorem dX5_isIn_2 : decode cX5_isIn 2 = .ok (.ishr, 1) := by decide +kernel
theorem dX5_isIn_3 : decode cX5_isIn 3 = .ok (.iconst 1, 1) := by decide +kernel
theorem dX5_isIn_4 : decode cX5_isIn 4 = .ok (.iand, 1) := by decide +kernel
theorem dX5_isIn_5 : decode cX5_isIn 5 = .ok (.iconst 1, 1) := by decide +kernel
theorem dX5_isIn_6 : decode cX5_isIn 6 = .ok (.if_icmp .ne 7, 3) := by decide +kernel
theorem dX5_isIn_9 : decode cX5_isIn 9 = .ok (.iconst 1, 1) := by decide +kernel
theorem dX5_isIn_10 : decode cX5_isIn 10 = .ok (.goto 4, 3) := by decide +kernel
theorem dX5_isIn_13 : decode cX5_isIn 13 = .ok (.iconst 0, 1) := by decide +kernel
theorem dX5_isIn_14 : decode cX5_isIn 14 = .ok (.ireturn, 1) := by decide +kernel
theorem ce_X5_isIn : CeS yX5_isIn cX5_isIn 2 (some .boolean) 2 := ⟨tb_1037, tb_6, tb_1038, by decide, by decide, by decide +kernel⟩
set_option maxHeartbeats 4000000 in
set_option maxRecDepth 20000 in
theorem V_X5_isIn (l : Launch) (D : va_G) (A : Nat → Prop) (ad : Nat → Nat) (ns : List Nat) (I : MI) (L : ML) (G : MG) (a0 : Int32) (a1 : Int32) (hI : INV I) : Met l yX5_isIn (wd yX5_isIn cX5_isIn 2 (some .boolean)) ({ frames := 0, cells := 0, slots := 0, locals := 0 }) (va_Pc [.int a0, .int a1] (PM D A ad ns I L G)) (va_Qi (fun r u => u = (ad, ns, I, L, G) ∧ (0 ≤ r.toInt ∧ r.toInt ≤ 1)) (BM D A) A) 0 0 A := by
  refine m_ofW (by decide) (Nat.le_of_ble_eq_true rfl) ?_
  intro p e s m below meth c ls args hC hE hM hA hS hl
  obtain ⟨hx, hb, hml, hown, hts, hr, hlocks, hin⟩ := hC
  have k0 : (0 : Int32).toInt = 0 := by decide
  have k1 : (1 : Int32).toInt = 1 := by decide
  have hl : lv_has ls 2 [(0, .int (a0)), (1, .int (a1))] := hl
  refine lv_iload_n hx hb dX5_isIn_0 rfl (lv_at hl 0 rfl) ?_
  refine lv_iload_n hx hb dX5_isIn_1 rfl (lv_at hl 1 rfl) ?_
  refine lv_ishr hx hb dX5_isIn_2 ?_
  refine lv_topi (fun v1 ev1 => ?_)
  refine lv_iconst (v := (1)) hx hb dX5_isIn_3 (by decide) ?_
  refine lv_iand hx hb dX5_isIn_4 ?_
  refine lv_topi (fun v2 ev2 => ?_)
  have tv2 := a_and (c := 1) ev2 (by decide) (by decide)
  refine lv_iconst (v := (1)) hx hb dX5_isIn_5 (by decide) ?_
  refine lv_icmp_ne (tgt := 13) hx hb dX5_isIn_6 (by decide) (fun c3 => ?_) (fun c3 => ?_)
  · have hc3 := c3
    have q3 := q_ne hc3
    refine lv_iconst (v := (0)) hx hb dX5_isIn_13 (by decide) ?_
    exact m_zret hx hb hr rfl hlocks hM hS (Nat.le_of_ble_eq_true rfl) (Nat.le_of_ble_eq_true rfl) ⟨rfl, (by first | omega | decide)⟩ dX5_isIn_14
  · have hc3 := c3
    have q3 := q_eq hc3
    refine lv_iconst (v := (1)) hx hb dX5_isIn_9 (by decide) ?_
    refine lv_goto (tgt := 14) hx hb dX5_isIn_10 (by decide) ?_
    exact m_zret hx hb hr rfl hlocks hM hS (Nat.le_of_ble_eq_true rfl) (Nat.le_of_ble_eq_true rfl) ⟨rfl, (by first | omega | decide)⟩ dX5_isIn_14
theorem dX5_restore_0 : decode cX5_restore 0 = .ok (.aload_n 0, 1) := by decide +kernel
theorem dX5_restore_1 : decode cX5_restore 1 = .ok (.getfield 21, 3) := by decide +kernel
theorem dX5_restore_4 : decode cX5_restore 4 = .ok (.aload_n 0, 1) := by decide +kernel
theorem dX5_restore_5 : decode cX5_restore 5 = .ok (.getfield 33, 3) := by decide +kernel
theorem dX5_restore_8 : decode cX5_restore 8 = .ok (.bipush 8, 2) := by decide +kernel
theorem dX5_restore_10 : decode cX5_restore 10 = .ok (.aload_n 0, 1) := by decide +kernel
theorem dX5_restore_11 : decode cX5_restore 11 = .ok (.getfield 42, 3) := by decide +kernel
theorem dX5_restore_14 : decode cX5_restore 14 = .ok (.invokevirtual 60, 3) := by decide +kernel
theorem dX5_restore_17 : decode cX5_restore 17 = .ok (.return_, 1) := by decide +kernel
theorem ce_X5_restore : CeV RX5 yX5_restore cX5_restore 1 none 0 := ⟨tb_1056, tb_1057, tb_6, tb_1058, rfl, by decide, by decide, by decide +kernel⟩
set_option maxHeartbeats 4000000 in
set_option maxRecDepth 20000 in
theorem V_X5_restore (l : Launch) (D : va_G) (A : Nat → Prop) (ad : Nat → Nat) (ns : List Nat) (I : MI) (L : ML) (G : MG) (hG : SGC ns G) (hI : INV I) : Met l yX5_restore (wd yX5_restore cX5_restore 1 none) ({ frames := 1, cells := 0, slots := 0, locals := 23 }) (va_Pc [.ref (ad (40))] (PM D A ad ns I L G)) (va_Qv (fun u => ∃ I2 L2, u = (ad, ns, I2, L2, G) ∧ INV I2 ∧ Kp [(107, 108)] [] I I2) (BM D A) A) 0 0 A := by
  refine m_ofW (by decide) (Nat.le_of_ble_eq_true rfl) ?_
  intro p e s m below meth c ls args hC hE hM hA hS hl
  obtain ⟨hx, hb, hml, hown, hts, hr, hlocks, hin⟩ := hC
  have k0 : (0 : Int32).toInt = 0 := by decide
  have k8 : (8 : Int32).toInt = 8 := by decide
  have hK : Kp [(107, 108)] [] I I := Kp.rf
  have hl : lv_has ls 1 [(0, .ref (ad (40)))] := hl
  refine lv_aload_n hx hb dX5_restore_0 rfl (lv_at hl 0 rfl) ?_
  refine m_getr (40) 1 (100) hx hb hts hown hE oc5 hM (hG.1 40 (by decide)) rfl (by decide) rfl (hG.2 (40, 1, 100) (by decide)) (by decide) tb_235 dX5_restore_1 ?_
  refine lv_aload_n hx hb dX5_restore_4 rfl (lv_at hl 0 rfl) ?_
  refine m_geti (40) 6 hx hb hts hown hE oc5 hM (hG.1 40 (by decide)) rfl (by decide) rfl tb_240 dX5_restore_5 ?_
  have g1 := hI.get (40) 6 (lo := 0) (hi := 23) rfl
  refine lv_bipush (v := (8)) hx hb dX5_restore_8 (by decide) ?_
  refine lv_aload_n hx hb dX5_restore_10 rfl (lv_at hl 0 rfl) ?_
  refine m_geti (40) 7 hx hb hts hown hE oc5 hM (hG.1 40 (by decide)) rfl (by decide) rfl tb_241 dX5_restore_11 ?_
  refine m_callv (m_runV (100) (As := [.int (I (40) 6), .int (8), .int (I (40) 7)]) (rest := []) hx hb hml hown hts hE hM hS hA ce_X8_setMirror tb_1019 (V_X8_setMirror_100 l D A ad ns I L G (I (40) 6) (8) (I (40) 7) hG hI (by first | omega | decide) (by first | omega | decide)) rfl rfl ⟨Nat.le_of_ble_eq_true rfl, Nat.le_of_ble_eq_true rfl⟩ (hG.1 100 (by decide)) rfl rfl (by decide) rfl hl.1 rfl (Nat.le_of_ble_eq_true rfl) dX5_restore_14 ⟨Nat.le_of_ble_eq_true rfl, Nat.le_of_ble_eq_true rfl⟩) hS (fun u H locs hw hM hS => ?_)
  obtain ⟨I2, L3, rfl, hI, hkI2⟩ := hw
  have hM : Mem D A ad ns I2 L3 G H := hM
  have hK := hK.trans hkI2 rfl
  exact m_vret hx hb hr hlocks hM hS (Nat.le_of_ble_eq_true rfl) (Nat.le_of_ble_eq_true rfl) ⟨_, _, rfl, hI, hK⟩ dX5_restore_17
theorem dX5_isEnough_0 : decode cX5_isEnough 0 = .ok (.aload_n 0, 1) := by decide +kernel
theorem dX5_isEnough_1 : decode cX5_isEnough 1 = .ok (.getfield 25, 3) := by decide +kernel
theorem dX5_isEnough_4 : decode cX5_isEnough 4 = .ok (.aload_n 0, 1) := by decide +kernel
theorem dX5_isEnough_5 : decode cX5_isEnough 5 = .ok (.getfield 21, 3) := by decide +kernel
theorem dX5_isEnough_8 : decode cX5_isEnough 8 = .ok (.aload_n 0, 1) := by decide +kernel
theorem dX5_isEnough_9 : decode cX5_isEnough 9 = .ok (.getfield 29, 3) := by decide +kernel
theorem dX5_isEnough_12 : decode cX5_isEnough 12 = .ok (.invokevirtual 51, 3) := by decide +kernel
theorem dX5_isEnough_15 : decode cX5_isEnough 15 = .ok (.iconst 0, 1) := by decide +kernel
theorem dX5_isEnough_16 : decode cX5_isEnough 16 = .ok (.istore_n 1, 1) := by decide +kernel
theorem dX5_isEnough_17 : decode cX5_isEnough 17 = .ok (.iload_n 1, 1) := by decide +kernel
theorem dX5_isEnough_18 : decode cX5_isEnough 18 = .ok (.bipush 8, 2) := by decide +kernel
theorem dX5_isEnough_20 : decode cX5_isEnough 20 = .ok (.if_icmp .ge 29, 3) := by decide +kernel
theorem dX5_isEnough_23 : decode cX5_isEnough 23 = .ok (.aload_n 0, 1) := by decide +kernel
theorem dX5_isEnough_24 : decode cX5_isEnough 24 = .ok (.getfield 25, 3) := by decide +kernel
theorem dX5_isEnough_27 : decode cX5_isEnough 27 = .ok (.getfield 57, 3) := by decide +kernel
theorem dX5_isEnough_30 : decode cX5_isEnough 30 = .ok (.iload_n 1, 1) := by decide +kernel
theorem dX5_isEnough_31 : decode cX5_isEnough 31 = .ok (.iaload, 1) := by decide +kernel
theorem dX5_isEnough_32 : decode cX5_isEnough 32 = .ok (.aload_n 0, 1) := by decide +kernel
theorem dX5_isEnough_33 : decode cX5_isEnough 33 = .ok (.getfield 15, 3) := by decide +kernel
theorem dX5_isEnough_36 : decode cX5_isEnough 36 = .ok (.iload_n 1, 1) := by decide +kernel
theorem dX5_isEnough_37 : decode cX5_isEnough 37 = .ok (.iaload, 1) := by decide +kernel
theorem dX5_isEnough_38 : decode cX5_isEnough 38 = .ok (.if_icmp .ge 5, 3) := by decide +kernel
theorem dX5_isEnough_41 : decode cX5_isEnough 41 = .ok (.iconst 0, 1) := by decide +kernel
theorem dX5_isEnough_42 : decode cX5_isEnough 42 = .ok (.ireturn, 1) := by decide +kernel
theorem dX5_isEnough_43 : decode cX5_isEnough 43 = .ok (.iinc 1 1, 3) := by decide +kernel
theorem dX5_isEnough_46 : decode cX5_isEnough 46 = .ok (.goto (-29), 3) := by decide +kernel
theorem dX5_isEnough_49 : decode cX5_isEnough 49 = .ok (.iconst 1, 1) := by decide +kernel
theorem dX5_isEnough_50 : decode cX5_isEnough 50 = .ok (.ireturn, 1) := by decide +kernel
theorem ce_X5_isEnough : CeV RX5 yX5_isEnough cX5_isEnough 2 (some .boolean) 0 := ⟨tb_1026, tp_43, tb_6, tb_1027, rfl, by decide, by decide, by decide +kernel⟩
set_option maxHeartbeats 4000000 in
set_option maxRecDepth 20000 in
theorem V_X5_isEnough (l : Launch) (D : va_G) (A : Nat → Prop) (ad : Nat → Nat) (ns : List Nat) (I : MI) (L : ML) (G : MG) (hG : SGC ns G) (hI : INV I) (hlit : Lit 100 I (I 40 5)) : Met l yX5_isEnough (wd yX5_isEnough cX5_isEnough 2 (some .boolean)) ({ frames := 4, cells := 0, slots := 0, locals := 107 }) (va_Pc [.ref (ad (40))] (PM D A ad ns I L G)) (va_Qi (fun r u => ∃ I2 L2, u = (ad, ns, I2, L2, G) ∧ INV I2 ∧ Kp [(11, 15)] [(10, 2), (10, 3), (10, 4), (10, 5), (10, 6), (10, 7), (10, 11), (10, 12)] I I2 ∧ (0 ≤ r.toInt ∧ r.toInt ≤ 1)) (BM D A) A) 0 0 A := by
  refine m_ofW (by decide) (Nat.le_of_ble_eq_true rfl) ?_
  intro p e s m below meth c ls args hC hE hM hA hS hl
  obtain ⟨hx, hb, hml, hown, hts, hr, hlocks, hin⟩ := hC
  have k0 : (0 : Int32).toInt = 0 := by decide
  have k1 : (1 : Int32).toInt = 1 := by decide
  have k8 : (8 : Int32).toInt = 8 := by decide
  have hK : Kp [(11, 15)] [(10, 2), (10, 3), (10, 4), (10, 5), (10, 6), (10, 7), (10, 11), (10, 12)] I I := Kp.rf
  have hl : lv_has ls 2 [(0, .ref (ad (40)))] := hl
  refine lv_aload_n hx hb dX5_isEnough_0 rfl (lv_at hl 0 rfl) ?_
  refine m_getr (40) 2 (10) hx hb hts hown hE oc5 hM (hG.1 40 (by decide)) rfl (by decide) rfl (hG.2 (40, 2, 10) (by decide)) (by decide) tb_236 dX5_isEnough_1 ?_
  refine lv_aload_n hx hb dX5_isEnough_4 rfl (lv_at hl 0 rfl) ?_
  refine m_getr (40) 1 (100) hx hb hts hown hE oc5 hM (hG.1 40 (by decide)) rfl (by decide) rfl (hG.2 (40, 1, 100) (by decide)) (by decide) tb_235 dX5_isEnough_5 ?_
  refine lv_aload_n hx hb dX5_isEnough_8 rfl (lv_at hl 0 rfl) ?_
  refine m_geti (40) 5 hx hb hts hown hE oc5 hM (hG.1 40 (by decide)) rfl (by decide) rfl tb_239 dX5_isEnough_9 ?_
  have g1 := hI.get (40) 5 (lo := 0) (hi := 23) rfl
  refine m_callv (m_runV (10) (As := [.ref (ad (100)), .int (I (40) 5)]) (rest := []) hx hb hml hown hts hE hM hS hA ce_X1_shine tb_1018 (V_X1_shine_100 l D A ad ns I L G (I (40) 5) hG hI (hlit.kp hK rfl) (by first | omega | decide)) rfl rfl ⟨Nat.le_of_ble_eq_true rfl, Nat.le_of_ble_eq_true rfl⟩ (hG.1 10 (by decide)) rfl rfl (by decide) rfl hl.1 rfl (Nat.le_of_ble_eq_true rfl) dX5_isEnough_12 ⟨Nat.le_of_ble_eq_true rfl, Nat.le_of_ble_eq_true rfl⟩) hS (fun u H locs hw hM hS => ?_)
  obtain ⟨I2, L3, rfl, hI, hkI2⟩ := hw
  have hM : Mem D A ad ns I2 L3 G H := hM
  have hK := hK.trans hkI2 rfl
  refine lv_iconst (v := (0)) hx hb dX5_isEnough_15 (by decide) ?_
  refine lv_istore_n (lv' := [(1, .int (0)), (0, .ref (ad (40)))]) hx hb dX5_isEnough_16 rfl hl (by decide) rfl (fun ls hl => ?_)
  have loop17 : ∀ (n : Nat) (x1_17 : Int32) (Ia17 : MI) (La17 : ML) (H : Heap) (locs : List Loc) (ls : Array Slot), INV Ia17 → Kp [(11, 15)] [(10, 2), (10, 3), (10, 4), (10, 5), (10, 6), (10, 7), (10, 11), (10, 12)] I Ia17 → (0 ≤ x1_17.toInt ∧ x1_17.toInt ≤ 8) → (8 - x1_17.toInt).toNat < n → Mem D A ad ns Ia17 La17 G H → va_S A s.heap H locs → lv_has ls 2 [(1, .int (x1_17)), (0, .ref (ad (40)))] → W p l e ({ frames := 4, cells := 0, slots := 0, locals := 107 } : Room) s m args below meth c H locs 0 0 (MQ below (va_Qi (fun r u => ∃ I2 L2, u = (ad, ns, I2, L2, G) ∧ INV I2 ∧ Kp [(11, 15)] [(10, 2), (10, 3), (10, 4), (10, 5), (10, 6), (10, 7), (10, 11), (10, 12)] I I2 ∧ (0 ≤ r.toInt ∧ r.toInt ≤ 1)) (BM D A) A) args s 0 0 A) (F0 m 17 ls []) := by
    intro n
    induction n with
    | zero =>
      intro x1_17 Ia17 La17 H locs ls hI hK hr1_17 hmu
      exact absurd hmu (Nat.not_lt_zero _)
    | succ n ih17 =>
      intro x1_17 Ia17 La17 H locs ls hI hK hr1_17 hmu17 hM hS hl
      refine lv_iload_n hx hb dX5_isEnough_17 rfl (lv_at hl 0 rfl) ?_
      refine lv_bipush (v := (8)) hx hb dX5_isEnough_18 (by decide) ?_
      refine lv_icmp_ge (tgt := 49) hx hb dX5_isEnough_20 (by decide) (fun c4 => ?_) (fun c4 => ?_)
      · have hc4 := c4
        have q4 := q_le hc4
        refine lv_iconst (v := (1)) hx hb dX5_isEnough_49 (by decide) ?_
        exact m_zret hx hb hr rfl hlocks hM hS (Nat.le_of_ble_eq_true rfl) (Nat.le_of_ble_eq_true rfl) ⟨_, _, rfl, hI, hK, (by first | omega | decide)⟩ dX5_isEnough_50
      · have hc4 := c4
        have q4 := q_nle hc4
        refine lv_aload_n hx hb dX5_isEnough_23 rfl (lv_at hl 1 rfl) ?_
        refine m_getr (40) 2 (10) hx hb hts hown hE oc5 hM (hG.1 40 (by decide)) rfl (by decide) rfl (hG.2 (40, 2, 10) (by decide)) (by decide) tb_236 dX5_isEnough_24 ?_
        refine m_getr (10) 0 (11) hx hb hts hown hE oc1 hM (hG.1 10 (by decide)) rfl (by decide) rfl (hG.2 (10, 0, 11) (by decide)) (by decide) tb_130 dX5_isEnough_27 ?_
        refine lv_iload_n hx hb dX5_isEnough_30 rfl (lv_at hl 0 rfl) ?_
        refine m_iald (11) hx hb hE hM (hG.1 11 (by decide)) rfl (vp_in_iff.mpr (by omega)) dX5_isEnough_31 ?_
        refine lv_aload_n hx hb dX5_isEnough_32 rfl (lv_at hl 1 rfl) ?_
        refine m_getr (40) 3 (42) hx hb hts hown hE oc5 hM (hG.1 40 (by decide)) rfl (by decide) rfl (hG.2 (40, 3, 42) (by decide)) (by decide) tb_237 dX5_isEnough_33 ?_
        refine lv_iload_n hx hb dX5_isEnough_36 rfl (lv_at hl 0 rfl) ?_
        refine m_iald (42) hx hb hE hM (hG.1 42 (by decide)) rfl (vp_in_iff.mpr (by omega)) dX5_isEnough_37 ?_
        refine lv_icmp_ge (tgt := 43) hx hb dX5_isEnough_38 (by decide) (fun c5 => ?_) (fun c5 => ?_)
        · have hc5 := c5
          have q5 := q_le hc5
          obtain ⟨v6, ev6⟩ : ∃ z : Int32, z = x1_17 + Int32.ofInt (1) := ⟨_, rfl⟩
          have tv6 := a_inc ev6 (by decide) (by omega) (by omega)
          refine lv_iinc (v := v6) (lv' := [(1, .int (v6)), (0, .ref (ad (40)))]) hx hb dX5_isEnough_43 hl (k := 0) rfl ev6.symm (by decide) rfl (fun ls hl => ?_)
          refine lv_goto (tgt := 17) hx hb dX5_isEnough_46 (by decide) ?_
          exact ih17 (v6) Ia17 La17 _ _ ls hI hK (by first | omega | decide) (by omega) hM hS (lv_sub hl [0, 1] rfl)
        · have hc5 := c5
          have q5 := q_nle hc5
          refine lv_iconst (v := (0)) hx hb dX5_isEnough_41 (by decide) ?_
          exact m_zret hx hb hr rfl hlocks hM hS (Nat.le_of_ble_eq_true rfl) (Nat.le_of_ble_eq_true rfl) ⟨_, _, rfl, hI, hK, (by first | omega | decide)⟩ dX5_isEnough_42
  exact loop17 (_ + 1) (0) I2 L3 _ _ ls hI hK (by first | omega | decide) (Nat.lt_succ_self _) hM hS (lv_sub hl [0, 1] rfl)
theorem dX5_begin_0 : decode cX5_begin 0 = .ok (.aload_n 0, 1) := by decide +kernel
theorem dX5_begin_1 : decode cX5_begin 1 = .ok (.iload_n 1, 1) := by decide +kernel
theorem dX5_begin_2 : decode cX5_begin 2 = .ok (.putfield 29, 3) := by decide +kernel
theorem dX5_begin_5 : decode cX5_begin 5 = .ok (.aload_n 0, 1) := by decide +kernel
theorem dX5_begin_6 : decode cX5_begin 6 = .ok (.iload_n 2, 1) := by decide +kernel
theorem dX5_begin_7 : decode cX5_begin 7 = .ok (.putfield 33, 3) := by decide +kernel
theorem dX5_begin_10 : decode cX5_begin 10 = .ok (.aload_n 0, 1) := by decide +kernel
theorem dX5_begin_11 : decode cX5_begin 11 = .ok (.aload_n 0, 1) := by decide +kernel
theorem dX5_begin_12 : decode cX5_begin 12 = .ok (.getfield 21, 3) := by decide +kernel
theorem dX5_begin_15 : decode cX5_begin 15 = .ok (.iload_n 2, 1) := by decide +kernel
theorem dX5_begin_16 : decode cX5_begin 16 = .ok (.bipush 8, 2) := by decide +kernel
theorem dX5_begin_18 : decode cX5_begin 18 = .ok (.invokevirtual 36, 3) := by decide +kernel
theorem dX5_begin_21 : decode cX5_begin 21 = .ok (.putfield 42, 3) := by decide +kernel
theorem dX5_begin_24 : decode cX5_begin 24 = .ok (.aload_n 0, 1) := by decide +kernel
theorem dX5_begin_25 : decode cX5_begin 25 = .ok (.getfield 11, 3) := by decide +kernel
theorem dX5_begin_28 : decode cX5_begin 28 = .ok (.bipush (-2), 2) := by decide +kernel
theorem dX5_begin_30 : decode cX5_begin 30 = .ok (.invokestatic 45, 3) := by decide +kernel
theorem dX5_begin_33 : decode cX5_begin 33 = .ok (.aload_n 0, 1) := by decide +kernel
theorem dX5_begin_34 : decode cX5_begin 34 = .ok (.getfield 25, 3) := by decide +kernel
theorem dX5_begin_37 : decode cX5_begin 37 = .ok (.aload_n 0, 1) := by decide +kernel
theorem dX5_begin_38 : decode cX5_begin 38 = .ok (.getfield 21, 3) := by decide +kernel
theorem dX5_begin_41 : decode cX5_begin 41 = .ok (.aload_n 0, 1) := by decide +kernel
theorem dX5_begin_42 : decode cX5_begin 42 = .ok (.getfield 29, 3) := by decide +kernel
theorem dX5_begin_45 : decode cX5_begin 45 = .ok (.invokevirtual 51, 3) := by decide +kernel
theorem dX5_begin_48 : decode cX5_begin 48 = .ok (.iconst 0, 1) := by decide +kernel
theorem dX5_begin_49 : decode cX5_begin 49 = .ok (.istore_n 3, 1) := by decide +kernel
theorem dX5_begin_50 : decode cX5_begin 50 = .ok (.iload_n 3, 1) := by decide +kernel
theorem dX5_begin_51 : decode cX5_begin 51 = .ok (.bipush 8, 2) := by decide +kernel
theorem dX5_begin_53 : decode cX5_begin 53 = .ok (.if_icmp .ge 26, 3) := by decide +kernel
theorem dX5_begin_56 : decode cX5_begin 56 = .ok (.aload_n 0, 1) := by decide +kernel
theorem dX5_begin_57 : decode cX5_begin 57 = .ok (.getfield 15, 3) := by decide +kernel
theorem dX5_begin_60 : decode cX5_begin 60 = .ok (.iload_n 3, 1) := by decide +kernel
theorem dX5_begin_61 : decode cX5_begin 61 = .ok (.aload_n 0, 1) := by decide +kernel
theorem dX5_begin_62 : decode cX5_begin 62 = .ok (.getfield 25, 3) := by decide +kernel
theorem dX5_begin_65 : decode cX5_begin 65 = .ok (.getfield 57, 3) := by decide +kernel
theorem dX5_begin_68 : decode cX5_begin 68 = .ok (.iload_n 3, 1) := by decide +kernel
theorem dX5_begin_69 : decode cX5_begin 69 = .ok (.iaload, 1) := by decide +kernel
theorem dX5_begin_70 : decode cX5_begin 70 = .ok (.iconst 2, 1) := by decide +kernel
theorem dX5_begin_71 : decode cX5_begin 71 = .ok (.idiv, 1) := by decide +kernel
theorem dX5_begin_72 : decode cX5_begin 72 = .ok (.iastore, 1) := by decide +kernel
theorem dX5_begin_73 : decode cX5_begin 73 = .ok (.iinc 3 1, 3) := by decide +kernel
theorem dX5_begin_76 : decode cX5_begin 76 = .ok (.goto (-26), 3) := by decide +kernel
theorem dX5_begin_79 : decode cX5_begin 79 = .ok (.aload_n 0, 1) := by decide +kernel
theorem dX5_begin_80 : decode cX5_begin 80 = .ok (.getfield 21, 3) := by decide +kernel
theorem dX5_begin_83 : decode cX5_begin 83 = .ok (.iload_n 2, 1) := by decide +kernel
theorem dX5_begin_84 : decode cX5_begin 84 = .ok (.bipush 8, 2) := by decide +kernel
theorem dX5_begin_86 : decode cX5_begin 86 = .ok (.iconst 1, 1) := by decide +kernel
theorem dX5_begin_87 : decode cX5_begin 87 = .ok (.invokevirtual 60, 3) := by decide +kernel
theorem dX5_begin_90 : decode cX5_begin 90 = .ok (.return_, 1) := by decide +kernel
theorem ce_X5_begin : CeV RX5 yX5_begin cX5_begin 4 none 2 := ⟨tb_1013, tb_1014, tb_6, tb_1015, rfl, by decide, by decide, by decide +kernel⟩
set_option maxHeartbeats 4000000 in
set_option maxRecDepth 20000 in
theorem V_X5_begin (l : Launch) (D : va_G) (A : Nat → Prop) (ad : Nat → Nat) (ns : List Nat) (I : MI) (L : ML) (G : MG) (a0 : Int32) (a1 : Int32) (hG : SGC ns G) (hI : INV I) (hlit : Lit 100 I a0) (ha0 : 0 ≤ a0.toInt ∧ a0.toInt ≤ 23) (ha1 : 0 ≤ a1.toInt ∧ a1.toInt ≤ 23) : Met l yX5_begin (wd yX5_begin cX5_begin 4 none) ({ frames := 4, cells := 0, slots := 0, locals := 107 }) (va_Pc [.ref (ad (40)), .int a0, .int a1] (PM D A ad ns I L G)) (va_Qv (fun u => ∃ I2 L2, u = (ad, ns, I2, L2, G) ∧ INV I2 ∧ Kp [(11, 15), (41, 43), (107, 108)] [(10, 2), (10, 3), (10, 4), (10, 5), (10, 6), (10, 7), (10, 11), (10, 12), (40, 5), (40, 6), (40, 7)] I I2 ∧ (I2 40 5 = a0)) (BM D A) A) 0 0 A := by
  refine m_ofW (by decide) (Nat.le_of_ble_eq_true rfl) ?_
  intro p e s m below meth c ls args hC hE hM hA hS hl
  obtain ⟨hx, hb, hml, hown, hts, hr, hlocks, hin⟩ := hC
  have km2 : (-2 : Int32).toInt = -2 := by decide
  have k0 : (0 : Int32).toInt = 0 := by decide
  have k1 : (1 : Int32).toInt = 1 := by decide
  have k2 : (2 : Int32).toInt = 2 := by decide
  have k8 : (8 : Int32).toInt = 8 := by decide
  have hK : Kp [(11, 15), (41, 43), (107, 108)] [(10, 2), (10, 3), (10, 4), (10, 5), (10, 6), (10, 7), (10, 11), (10, 12), (40, 5), (40, 6), (40, 7)] I I := Kp.rf
  have hl : lv_has ls 4 [(0, .ref (ad (40))), (1, .int (a0)), (2, .int (a1))] := hl
  refine lv_aload_n hx hb dX5_begin_0 rfl (lv_at hl 0 rfl) ?_
  refine lv_iload_n hx hb dX5_begin_1 rfl (lv_at hl 1 rfl) ?_
  refine m_puti (40) 5 hx hb hts hown hE oc5 hM hS (hG.1 40 (by decide)) rfl (by decide) rfl rfl rfl rfl tb_239 dX5_begin_2 (fun H locs I1 eI1 hM hS => ?_)
  subst eI1
  have hI := hI.put (n := 40) (k := 5) (v := a0) (lo := 0) (hi := 23) rfl (by first | omega | decide)
  have hK := hK.put (n := 40) (k := 5) (v := a0) (by first | rfl | simp [inR])
  refine lv_aload_n hx hb dX5_begin_5 rfl (lv_at hl 0 rfl) ?_
  refine lv_iload_n hx hb dX5_begin_6 rfl (lv_at hl 2 rfl) ?_
  refine m_puti (40) 6 hx hb hts hown hE oc5 hM hS (hG.1 40 (by decide)) rfl (by decide) rfl rfl rfl rfl tb_240 dX5_begin_7 (fun H locs I2 eI2 hM hS => ?_)
  subst eI2
  have hI := hI.put (n := 40) (k := 6) (v := a1) (lo := 0) (hi := 23) rfl (by first | omega | decide)
  have hK := hK.put (n := 40) (k := 6) (v := a1) (by first | rfl | simp [inR])
  refine lv_aload_n hx hb dX5_begin_10 rfl (lv_at hl 0 rfl) ?_
  refine lv_aload_n hx hb dX5_begin_11 rfl (lv_at hl 0 rfl) ?_
  refine m_getr (40) 1 (100) hx hb hts hown hE oc5 hM (hG.1 40 (by decide)) rfl (by decide) rfl (hG.2 (40, 1, 100) (by decide)) (by decide) tb_235 dX5_begin_12 ?_
  refine lv_iload_n hx hb dX5_begin_15 rfl (lv_at hl 2 rfl) ?_
  refine lv_bipush (v := (8)) hx hb dX5_begin_16 (by decide) ?_
  refine m_calli (m_runV (100) (As := [.int (a1), .int (8)]) (rest := [.ref (ad (40))]) hx hb hml hown hts hE hM hS hA ce_X8_ofMirror tb_1016 (V_X8_ofMirror_100 l D A ad ns (u2 (u2 I (40) 5 (a0)) (40) 6 (a1)) L G (a1) (8) hG hI (by first | omega | decide) (by first | omega | decide)) rfl rfl ⟨Nat.le_of_ble_eq_true rfl, Nat.le_of_ble_eq_true rfl⟩ (hG.1 100 (by decide)) rfl rfl (by decide) rfl hl.1 rfl (Nat.le_of_ble_eq_true rfl) dX5_begin_18 ⟨Nat.le_of_ble_eq_true rfl, Nat.le_of_ble_eq_true rfl⟩) hS (fun r3 u H locs hw hM hS => ?_)
  obtain ⟨rfl, xr3⟩ := hw
  have hM : Mem D A ad ns (u2 (u2 I (40) 5 (a0)) (40) 6 (a1)) L G H := hM
  refine m_puti (40) 7 hx hb hts hown hE oc5 hM hS (hG.1 40 (by decide)) rfl (by decide) rfl rfl rfl rfl tb_241 dX5_begin_21 (fun H locs I4 eI4 hM hS => ?_)
  subst eI4
  have hI := hI.putF (n := 40) (k := 7) (v := r3) rfl
  have hK := hK.put (n := 40) (k := 7) (v := r3) (by first | rfl | simp [inR])
  refine lv_aload_n hx hb dX5_begin_24 rfl (lv_at hl 0 rfl) ?_
  refine m_getr (40) 0 (41) hx hb hts hown hE oc5 hM (hG.1 40 (by decide)) rfl (by decide) rfl (hG.2 (40, 0, 41) (by decide)) (by decide) tb_233 dX5_begin_25 ?_
  refine lv_bipush (v := (-2)) hx hb dX5_begin_28 (by decide) ?_
  refine m_callv (m_runS (As := [.ref (ad (41)), .int ((-2 : Int32))]) (rest := []) hx hb hml hown hts hE hM hS hA ce_J7_fill_53178 tb_1017 (C_J7_fill_53178 l D A ad ns (u2 (u2 (u2 I (40) 5 (a0)) (40) 6 (a1)) (40) 7 (r3)) L G (41) 5 ((-2 : Int32)) (hG.1 41 (by decide)) rfl (by decide)) rfl rfl ⟨Nat.le_of_ble_eq_true rfl, Nat.le_of_ble_eq_true rfl⟩  rfl hl.1 rfl (Nat.le_of_ble_eq_true rfl) dX5_begin_30 ⟨Nat.le_of_ble_eq_true rfl, Nat.le_of_ble_eq_true rfl⟩) hS (fun u H locs hw hM hS => ?_)
  subst hw
  obtain ⟨I5, eI5⟩ : ∃ z : MI, z = fillI (u2 (u2 (u2 I (40) 5 (a0)) (40) 6 (a1)) (40) 7 (r3)) 41 5 ((-2 : Int32)) := ⟨_, rfl⟩
  have hM : Mem D A ad ns I5 L G H := by rw [eI5]; exact hM
  have hkI5 : Kp [(41, 42)] [] (u2 (u2 (u2 I (40) 5 (a0)) (40) 6 (a1)) (40) 7 (r3)) I5 := by rw [eI5]; exact Kp.rf.fill rfl
  have hI : INV I5 := by rw [eI5]; exact hI.fill (fun k _ => (by decide : (-2147483648 : Int) ≤ ((-2 : Int32) : Int32).toInt ∧ ((-2 : Int32) : Int32).toInt ≤ (2147483647 : Int)))
  have hK := hK.trans hkI5 rfl
  refine lv_aload_n hx hb dX5_begin_33 rfl (lv_at hl 0 rfl) ?_
  refine m_getr (40) 2 (10) hx hb hts hown hE oc5 hM (hG.1 40 (by decide)) rfl (by decide) rfl (hG.2 (40, 2, 10) (by decide)) (by decide) tb_236 dX5_begin_34 ?_
  refine lv_aload_n hx hb dX5_begin_37 rfl (lv_at hl 0 rfl) ?_
  refine m_getr (40) 1 (100) hx hb hts hown hE oc5 hM (hG.1 40 (by decide)) rfl (by decide) rfl (hG.2 (40, 1, 100) (by decide)) (by decide) tb_235 dX5_begin_38 ?_
  refine lv_aload_n hx hb dX5_begin_41 rfl (lv_at hl 0 rfl) ?_
  refine m_geti (40) 5 hx hb hts hown hE oc5 hM (hG.1 40 (by decide)) rfl (by decide) rfl tb_239 dX5_begin_42 ?_
  have g6 := hI.get (40) 5 (lo := 0) (hi := 23) rfl
  have z7 : I5 (40) 5 = a0 := ((hkI5.get (40) 5 rfl)).trans (show (u2 (u2 (u2 I (40) 5 (a0)) (40) 6 (a1)) (40) 7 (r3)) (40) 5 = a0 from by simp [u2_v])
  rw [z7] at g6 ⊢
  refine m_callv (m_runV (10) (As := [.ref (ad (100)), .int (a0)]) (rest := []) hx hb hml hown hts hE hM hS hA ce_X1_shine tb_1018 (V_X1_shine_100 l D A ad ns I5 L G (a0) hG hI (hlit.kp hK rfl) (by first | omega | decide)) rfl rfl ⟨Nat.le_of_ble_eq_true rfl, Nat.le_of_ble_eq_true rfl⟩ (hG.1 10 (by decide)) rfl rfl (by decide) rfl hl.1 rfl (Nat.le_of_ble_eq_true rfl) dX5_begin_45 ⟨Nat.le_of_ble_eq_true rfl, Nat.le_of_ble_eq_true rfl⟩) hS (fun u H locs hw hM hS => ?_)
  obtain ⟨I8, L9, rfl, hI, hkI8⟩ := hw
  have hM : Mem D A ad ns I8 L9 G H := hM
  have hK := hK.trans hkI8 rfl
  refine lv_iconst (v := (0)) hx hb dX5_begin_48 (by decide) ?_
  refine lv_istore_n (lv' := [(3, .int (0)), (0, .ref (ad (40))), (1, .int (a0)), (2, .int (a1))]) hx hb dX5_begin_49 rfl hl (by decide) rfl (fun ls hl => ?_)
  have loop50 : ∀ (n : Nat) (x3_50 : Int32) (Ia50 : MI) (La50 : ML) (H : Heap) (locs : List Loc) (ls : Array Slot), INV Ia50 → Kp [(11, 15), (41, 43), (107, 108)] [(10, 2), (10, 3), (10, 4), (10, 5), (10, 6), (10, 7), (10, 11), (10, 12), (40, 5), (40, 6), (40, 7)] I Ia50 → (0 ≤ x3_50.toInt ∧ x3_50.toInt ≤ 8) → (Ia50 40 5 = a0) → (8 - x3_50.toInt).toNat < n → Mem D A ad ns Ia50 La50 G H → va_S A s.heap H locs → lv_has ls 4 [(3, .int (x3_50)), (0, .ref (ad (40))), (1, .int (a0)), (2, .int (a1))] → W p l e ({ frames := 4, cells := 0, slots := 0, locals := 107 } : Room) s m args below meth c H locs 0 0 (MQ below (va_Qv (fun u => ∃ I2 L2, u = (ad, ns, I2, L2, G) ∧ INV I2 ∧ Kp [(11, 15), (41, 43), (107, 108)] [(10, 2), (10, 3), (10, 4), (10, 5), (10, 6), (10, 7), (10, 11), (10, 12), (40, 5), (40, 6), (40, 7)] I I2 ∧ (I2 40 5 = a0)) (BM D A) A) args s 0 0 A) (F0 m 50 ls []) := by
    intro n
    induction n with
    | zero =>
      intro x3_50 Ia50 La50 H locs ls hI hK hr3_50 hz5 hmu
      exact absurd hmu (Nat.not_lt_zero _)
    | succ n ih50 =>
      intro x3_50 Ia50 La50 H locs ls hI hK hr3_50 hz5 hmu50 hM hS hl
      refine lv_iload_n hx hb dX5_begin_50 rfl (lv_at hl 0 rfl) ?_
      refine lv_bipush (v := (8)) hx hb dX5_begin_51 (by decide) ?_
      refine lv_icmp_ge (tgt := 79) hx hb dX5_begin_53 (by decide) (fun c10 => ?_) (fun c10 => ?_)
      · have hc10 := c10
        have q10 := q_le hc10
        refine lv_aload_n hx hb dX5_begin_79 rfl (lv_at hl 1 rfl) ?_
        refine m_getr (40) 1 (100) hx hb hts hown hE oc5 hM (hG.1 40 (by decide)) rfl (by decide) rfl (hG.2 (40, 1, 100) (by decide)) (by decide) tb_235 dX5_begin_80 ?_
        refine lv_iload_n hx hb dX5_begin_83 rfl (lv_at hl 3 rfl) ?_
        refine lv_bipush (v := (8)) hx hb dX5_begin_84 (by decide) ?_
        refine lv_iconst (v := (1)) hx hb dX5_begin_86 (by decide) ?_
        refine m_callv (m_runV (100) (As := [.int (a1), .int (8), .int (1)]) (rest := []) hx hb hml hown hts hE hM hS hA ce_X8_setMirror tb_1019 (V_X8_setMirror_100 l D A ad ns Ia50 La50 G (a1) (8) (1) hG hI (by first | omega | decide) (by first | omega | decide)) rfl rfl ⟨Nat.le_of_ble_eq_true rfl, Nat.le_of_ble_eq_true rfl⟩ (hG.1 100 (by decide)) rfl rfl (by decide) rfl hl.1 rfl (Nat.le_of_ble_eq_true rfl) dX5_begin_87 ⟨Nat.le_of_ble_eq_true rfl, Nat.le_of_ble_eq_true rfl⟩) hS (fun u H locs hw hM hS => ?_)
        obtain ⟨I11, L12, rfl, hI, hkI11⟩ := hw
        have hM : Mem D A ad ns I11 L12 G H := hM
        have hK := hK.trans hkI11 rfl
        exact m_vret hx hb hr hlocks hM hS (Nat.le_of_ble_eq_true rfl) (Nat.le_of_ble_eq_true rfl) ⟨_, _, rfl, hI, hK, (((hkI11.get (40) 5 rfl)).trans hz5)⟩ dX5_begin_90
      · have hc10 := c10
        have q10 := q_nle hc10
        refine lv_aload_n hx hb dX5_begin_56 rfl (lv_at hl 1 rfl) ?_
        refine m_getr (40) 3 (42) hx hb hts hown hE oc5 hM (hG.1 40 (by decide)) rfl (by decide) rfl (hG.2 (40, 3, 42) (by decide)) (by decide) tb_237 dX5_begin_57 ?_
        refine lv_iload_n hx hb dX5_begin_60 rfl (lv_at hl 0 rfl) ?_
        refine lv_aload_n hx hb dX5_begin_61 rfl (lv_at hl 1 rfl) ?_
        refine m_getr (40) 2 (10) hx hb hts hown hE oc5 hM (hG.1 40 (by decide)) rfl (by decide) rfl (hG.2 (40, 2, 10) (by decide)) (by decide) tb_236 dX5_begin_62 ?_
        refine m_getr (10) 0 (11) hx hb hts hown hE oc1 hM (hG.1 10 (by decide)) rfl (by decide) rfl (hG.2 (10, 0, 11) (by decide)) (by decide) tb_130 dX5_begin_65 ?_
        refine lv_iload_n hx hb dX5_begin_68 rfl (lv_at hl 0 rfl) ?_
        refine m_iald (11) hx hb hE hM (hG.1 11 (by decide)) rfl (vp_in_iff.mpr (by omega)) dX5_begin_69 ?_
        refine lv_iconst (v := (2)) hx hb dX5_begin_70 (by decide) ?_
        refine lv_idiv hx hb dX5_begin_71 (by decide) ?_
        refine lv_topi (fun v13 ev13 => ?_)
        refine m_iast (42) hx hb hE hM hS (hG.1 42 (by decide)) rfl (vp_in_iff.mpr (by omega)) dX5_begin_72 (fun H locs I14 eI14 hM hS => ?_)
        subst eI14
        have hI := hI.putF (n := 42) (k := ((x3_50).toNatClampNeg)) (v := v13) rfl
        have hK := hK.put (n := 42) (k := ((x3_50).toNatClampNeg)) (v := v13) (by first | rfl | simp [inR])
        obtain ⟨v15, ev15⟩ : ∃ z : Int32, z = x3_50 + Int32.ofInt (1) := ⟨_, rfl⟩
        have tv15 := a_inc ev15 (by decide) (by omega) (by omega)
        refine lv_iinc (v := v15) (lv' := [(3, .int (v15)), (0, .ref (ad (40))), (1, .int (a0)), (2, .int (a1))]) hx hb dX5_begin_73 hl (k := 0) rfl ev15.symm (by decide) rfl (fun ls hl => ?_)
        refine lv_goto (tgt := 50) hx hb dX5_begin_76 (by decide) ?_
        exact ih50 (v15) (u2 Ia50 (42) ((x3_50).toNatClampNeg) (v13)) La50 _ _ ls hI hK (by first | omega | decide) (((show (u2 Ia50 (42) ((x3_50).toNatClampNeg) (v13)) (40) 5 = Ia50 (40) 5 from by simp [u2_v])).trans hz5) (by omega) hM hS (lv_sub hl [0, 1, 2, 3] rfl)
  exact loop50 (_ + 1) (0) I8 L9 _ _ ls hI hK (by first | omega | decide) ((((hkI8.get (40) 5 rfl)).trans (hkI5.get (40) 5 rfl)).trans (show (u2 (u2 (u2 I (40) 5 (a0)) (40) 6 (a1)) (40) 7 (r3)) (40) 5 = a0 from by simp [u2_v])) (Nat.lt_succ_self _) hM hS (lv_sub hl [0, 1, 2, 3] rfl)
theorem dX5_needsNone_0 : decode cX5_needsNone 0 = .ok (.aload_n 0, 1) := by decide +kernel
theorem dX5_needsNone_1 : decode cX5_needsNone 1 = .ok (.invokevirtual 64, 3) := by decide +kernel
theorem dX5_needsNone_4 : decode cX5_needsNone 4 = .ok (.istore_n 1, 1) := by decide +kernel
theorem dX5_needsNone_5 : decode cX5_needsNone 5 = .ok (.aload_n 0, 1) := by decide +kernel
theorem dX5_needsNone_6 : decode cX5_needsNone 6 = .ok (.aload_n 0, 1) := by decide +kernel
theorem dX5_needsNone_7 : decode cX5_needsNone 7 = .ok (.getfield 25, 3) := by decide +kernel
theorem dX5_needsNone_10 : decode cX5_needsNone 10 = .ok (.invokevirtual 68, 3) := by decide +kernel
theorem dX5_needsNone_13 : decode cX5_needsNone 13 = .ok (.putfield 72, 3) := by decide +kernel
theorem dX5_needsNone_16 : decode cX5_needsNone 16 = .ok (.iload_n 1, 1) := by decide +kernel
theorem dX5_needsNone_17 : decode cX5_needsNone 17 = .ok (.ifCond .eq 10, 3) := by decide +kernel
theorem dX5_needsNone_20 : decode cX5_needsNone 20 = .ok (.aload_n 0, 1) := by decide +kernel
theorem dX5_needsNone_21 : decode cX5_needsNone 21 = .ok (.getfield 11, 3) := by decide +kernel
theorem dX5_needsNone_24 : decode cX5_needsNone 24 = .ok (.iconst 0, 1) := by decide +kernel
theorem dX5_needsNone_25 : decode cX5_needsNone 25 = .ok (.iconst 0, 1) := by decide +kernel
theorem dX5_needsNone_26 : decode cX5_needsNone 26 = .ok (.iastore, 1) := by decide +kernel
theorem dX5_needsNone_27 : decode cX5_needsNone 27 = .ok (.iload_n 1, 1) := by decide +kernel
theorem dX5_needsNone_28 : decode cX5_needsNone 28 = .ok (.ireturn, 1) := by decide +kernel
theorem ce_X5_needsNone : CeV RX5 yX5_needsNone cX5_needsNone 2 (some .boolean) 0 := ⟨tb_1021, tb_1022, tb_6, tb_1023, rfl, by decide, by decide, by decide +kernel⟩
set_option maxHeartbeats 4000000 in
set_option maxRecDepth 20000 in
theorem V_X5_needsNone (l : Launch) (D : va_G) (A : Nat → Prop) (ad : Nat → Nat) (ns : List Nat) (I : MI) (L : ML) (G : MG) (hG : SGC ns G) (hI : INV I) (hlit : Lit 100 I (I 40 5)) : Met l yX5_needsNone (wd yX5_needsNone cX5_needsNone 2 (some .boolean)) ({ frames := 5, cells := 0, slots := 0, locals := 128 }) (va_Pc [.ref (ad (40))] (PM D A ad ns I L G)) (va_Qi (fun r u => ∃ I2 L2, u = (ad, ns, I2, L2, G) ∧ INV I2 ∧ Kp [(11, 15)] [(10, 2), (10, 3), (10, 4), (10, 5), (10, 6), (10, 7), (10, 11), (10, 12), (40, 8), (41, 0)] I I2 ∧ (0 ≤ r.toInt ∧ r.toInt ≤ 1)) (BM D A) A) 0 0 A := by
  refine m_ofW (by decide) (Nat.le_of_ble_eq_true rfl) ?_
  intro p e s m below meth c ls args hC hE hM hA hS hl
  obtain ⟨hx, hb, hml, hown, hts, hr, hlocks, hin⟩ := hC
  have k0 : (0 : Int32).toInt = 0 := by decide
  have hK : Kp [(11, 15)] [(10, 2), (10, 3), (10, 4), (10, 5), (10, 6), (10, 7), (10, 11), (10, 12), (40, 8), (41, 0)] I I := Kp.rf
  have hl : lv_has ls 2 [(0, .ref (ad (40)))] := hl
  refine lv_aload_n hx hb dX5_needsNone_0 rfl (lv_at hl 0 rfl) ?_
  refine m_calli (m_runV (40) (As := []) (rest := []) hx hb hml hown hts hE hM hS hA ce_X5_isEnough tb_1024 (V_X5_isEnough l D A ad ns I L G hG hI (by rw [hK.get 40 5 rfl]; exact hlit.kp hK rfl)) rfl rfl ⟨Nat.le_of_ble_eq_true rfl, Nat.le_of_ble_eq_true rfl⟩ (hG.1 40 (by decide)) rfl rfl (by decide) rfl hl.1 rfl (Nat.le_of_ble_eq_true rfl) dX5_needsNone_1 ⟨Nat.le_of_ble_eq_true rfl, Nat.le_of_ble_eq_true rfl⟩) hS (fun r1 u H locs hw hM hS => ?_)
  obtain ⟨I2, L3, rfl, hI, hkI2, xr1⟩ := hw
  have hM : Mem D A ad ns I2 L3 G H := hM
  have hK := hK.trans hkI2 rfl
  refine lv_istore_n (lv' := [(1, .int (r1)), (0, .ref (ad (40)))]) hx hb dX5_needsNone_4 rfl hl (by decide) rfl (fun ls hl => ?_)
  refine lv_aload_n hx hb dX5_needsNone_5 rfl (lv_at hl 1 rfl) ?_
  refine lv_aload_n hx hb dX5_needsNone_6 rfl (lv_at hl 1 rfl) ?_
  refine m_getr (40) 2 (10) hx hb hts hown hE oc5 hM (hG.1 40 (by decide)) rfl (by decide) rfl (hG.2 (40, 2, 10) (by decide)) (by decide) tb_236 dX5_needsNone_7 ?_
  refine m_calli (m_runV (10) (As := []) (rest := [.ref (ad (40))]) hx hb hml hown hts hE hM hS hA ce_X1_touchedSet tb_1028 (V_X1_touchedSet l D A ad ns I2 L3 G hG hI) rfl rfl ⟨Nat.le_of_ble_eq_true rfl, Nat.le_of_ble_eq_true rfl⟩ (hG.1 10 (by decide)) rfl rfl (by decide) rfl hl.1 rfl (Nat.le_of_ble_eq_true rfl) dX5_needsNone_10 ⟨Nat.le_of_ble_eq_true rfl, Nat.le_of_ble_eq_true rfl⟩) hS (fun r4 u H locs hw hM hS => ?_)
  obtain ⟨rfl, xr4⟩ := hw
  have hM : Mem D A ad ns I2 L3 G H := hM
  refine m_puti (40) 8 hx hb hts hown hE oc5 hM hS (hG.1 40 (by decide)) rfl (by decide) rfl rfl rfl rfl tb_242 dX5_needsNone_13 (fun H locs I5 eI5 hM hS => ?_)
  subst eI5
  have hI := hI.putF (n := 40) (k := 8) (v := r4) rfl
  have hK := hK.put (n := 40) (k := 8) (v := r4) (by first | rfl | simp [inR])
  refine lv_iload_n hx hb dX5_needsNone_16 rfl (lv_at hl 0 rfl) ?_
  refine lv_if_eq (tgt := 27) hx hb dX5_needsNone_17 (by decide) (fun c6 => ?_) (fun c6 => ?_)
  · have hc6 := c6
    have q6 := q_eq hc6
    refine lv_iload_n hx hb dX5_needsNone_27 rfl (lv_at hl 0 rfl) ?_
    exact m_zret hx hb hr (nar01 (by omega) (by omega)).1 hlocks hM hS (Nat.le_of_ble_eq_true rfl) (Nat.le_of_ble_eq_true rfl) ⟨_, _, rfl, hI, hK, (by first | omega | decide)⟩ dX5_needsNone_28
  · have hc6 := c6
    have q6 := q_ne hc6
    refine lv_aload_n hx hb dX5_needsNone_20 rfl (lv_at hl 1 rfl) ?_
    refine m_getr (40) 0 (41) hx hb hts hown hE oc5 hM (hG.1 40 (by decide)) rfl (by decide) rfl (hG.2 (40, 0, 41) (by decide)) (by decide) tb_233 dX5_needsNone_21 ?_
    refine lv_iconst (v := (0)) hx hb dX5_needsNone_24 (by decide) ?_
    refine lv_iconst (v := (0)) hx hb dX5_needsNone_25 (by decide) ?_
    refine m_iast (41) hx hb hE hM hS (hG.1 41 (by decide)) rfl (vp_in_iff.mpr (by decide)) dX5_needsNone_26 (fun H locs I7 eI7 hM hS => ?_)
    rw [show (0 : Int32).toNatClampNeg = 0 from rfl] at eI7
    subst eI7
    have hI := hI.putF (n := 41) (k := 0) (v := 0) rfl
    have hK := hK.put (n := 41) (k := 0) (v := 0) (by first | rfl | simp [inR])
    refine lv_iload_n hx hb dX5_needsNone_27 rfl (lv_at hl 0 rfl) ?_
    exact m_zret hx hb hr (nar01 (by omega) (by omega)).1 hlocks hM hS (Nat.le_of_ble_eq_true rfl) (Nat.le_of_ble_eq_true rfl) ⟨_, _, rfl, hI, hK, (by first | omega | decide)⟩ dX5_needsNone_28
theorem dX5_isMendedBy_0 : decode cX5_isMendedBy 0 = .ok (.aload_n 0, 1) := by decide +kernel
theorem dX5_isMendedBy_1 : decode cX5_isMendedBy 1 = .ok (.getfield 21, 3) := by decide +kernel
theorem dX5_isMendedBy_4 : decode cX5_isMendedBy 4 = .ok (.iload_n 1, 1) := by decide +kernel
theorem dX5_isMendedBy_5 : decode cX5_isMendedBy 5 = .ok (.iconst 2, 1) := by decide +kernel
theorem dX5_isMendedBy_6 : decode cX5_isMendedBy 6 = .ok (.invokevirtual 36, 3) := by decide +kernel
theorem dX5_isMendedBy_9 : decode cX5_isMendedBy 9 = .ok (.istore_n 3, 1) := by decide +kernel
theorem dX5_isMendedBy_10 : decode cX5_isMendedBy 10 = .ok (.aload_n 0, 1) := by decide +kernel
theorem dX5_isMendedBy_11 : decode cX5_isMendedBy 11 = .ok (.getfield 21, 3) := by decide +kernel
theorem dX5_isMendedBy_14 : decode cX5_isMendedBy 14 = .ok (.iload_n 1, 1) := by decide +kernel
theorem dX5_isMendedBy_15 : decode cX5_isMendedBy 15 = .ok (.iconst 2, 1) := by decide +kernel
theorem dX5_isMendedBy_16 : decode cX5_isMendedBy 16 = .ok (.iload_n 2, 1) := by decide +kernel
theorem dX5_isMendedBy_17 : decode cX5_isMendedBy 17 = .ok (.invokevirtual 60, 3) := by decide +kernel
theorem dX5_isMendedBy_20 : decode cX5_isMendedBy 20 = .ok (.aload_n 0, 1) := by decide +kernel
theorem dX5_isMendedBy_21 : decode cX5_isMendedBy 21 = .ok (.invokevirtual 64, 3) := by decide +kernel
theorem dX5_isMendedBy_24 : decode cX5_isMendedBy 24 = .ok (.istore 4, 2) := by decide +kernel
theorem dX5_isMendedBy_26 : decode cX5_isMendedBy 26 = .ok (.aload_n 0, 1) := by decide +kernel
theorem dX5_isMendedBy_27 : decode cX5_isMendedBy 27 = .ok (.getfield 18, 3) := by decide +kernel
theorem dX5_isMendedBy_30 : decode cX5_isMendedBy 30 = .ok (.iload_n 1, 1) := by decide +kernel
theorem dX5_isMendedBy_31 : decode cX5_isMendedBy 31 = .ok (.bipush 8, 2) := by decide +kernel
theorem dX5_isMendedBy_33 : decode cX5_isMendedBy 33 = .ok (.imul, 1) := by decide +kernel
theorem dX5_isMendedBy_34 : decode cX5_isMendedBy 34 = .ok (.iload_n 2, 1) := by decide +kernel
theorem dX5_isMendedBy_35 : decode cX5_isMendedBy 35 = .ok (.iadd, 1) := by decide +kernel
theorem dX5_isMendedBy_36 : decode cX5_isMendedBy 36 = .ok (.aload_n 0, 1) := by decide +kernel
theorem dX5_isMendedBy_37 : decode cX5_isMendedBy 37 = .ok (.getfield 25, 3) := by decide +kernel
theorem dX5_isMendedBy_40 : decode cX5_isMendedBy 40 = .ok (.invokevirtual 68, 3) := by decide +kernel
theorem dX5_isMendedBy_43 : decode cX5_isMendedBy 43 = .ok (.iastore, 1) := by decide +kernel
theorem dX5_isMendedBy_44 : decode cX5_isMendedBy 44 = .ok (.aload_n 0, 1) := by decide +kernel
theorem dX5_isMendedBy_45 : decode cX5_isMendedBy 45 = .ok (.getfield 21, 3) := by decide +kernel
theorem dX5_isMendedBy_48 : decode cX5_isMendedBy 48 = .ok (.iload_n 1, 1) := by decide +kernel
theorem dX5_isMendedBy_49 : decode cX5_isMendedBy 49 = .ok (.iconst 2, 1) := by decide +kernel
theorem dX5_isMendedBy_50 : decode cX5_isMendedBy 50 = .ok (.iload_n 3, 1) := by decide +kernel
theorem dX5_isMendedBy_51 : decode cX5_isMendedBy 51 = .ok (.invokevirtual 60, 3) := by decide +kernel
theorem dX5_isMendedBy_54 : decode cX5_isMendedBy 54 = .ok (.iload 4, 2) := by decide +kernel
theorem dX5_isMendedBy_56 : decode cX5_isMendedBy 56 = .ok (.ireturn, 1) := by decide +kernel
theorem ce_X5_isMendedBy : CeV RX5 yX5_isMendedBy cX5_isMendedBy 5 (some .boolean) 2 := ⟨tb_1041, tp_44, tb_6, tb_1042, rfl, by decide, by decide, by decide +kernel⟩
set_option maxHeartbeats 4000000 in
set_option maxRecDepth 20000 in
theorem V_X5_isMendedBy (l : Launch) (D : va_G) (A : Nat → Prop) (ad : Nat → Nat) (ns : List Nat) (I : MI) (L : ML) (G : MG) (a0 : Int32) (a1 : Int32) (hG : SGC ns G) (hI : INV I) (hlit : Lit 100 I (I 40 5)) (ha0 : 0 ≤ a0.toInt ∧ a0.toInt ≤ 23) (ha1 : 0 ≤ a1.toInt ∧ a1.toInt ≤ 7) : Met l yX5_isMendedBy (wd yX5_isMendedBy cX5_isMendedBy 5 (some .boolean)) ({ frames := 5, cells := 0, slots := 0, locals := 128 }) (va_Pc [.ref (ad (40)), .int a0, .int a1] (PM D A ad ns I L G)) (va_Qi (fun r u => ∃ I2 L2, u = (ad, ns, I2, L2, G) ∧ INV I2 ∧ Kp [(11, 15), (43, 44), (107, 108)] [(10, 2), (10, 3), (10, 4), (10, 5), (10, 6), (10, 7), (10, 11), (10, 12)] I I2 ∧ (0 ≤ r.toInt ∧ r.toInt ≤ 1)) (BM D A) A) 0 0 A := by
  refine m_ofW (by decide) (Nat.le_of_ble_eq_true rfl) ?_
  intro p e s m below meth c ls args hC hE hM hA hS hl
  obtain ⟨hx, hb, hml, hown, hts, hr, hlocks, hin⟩ := hC
  have k0 : (0 : Int32).toInt = 0 := by decide
  have k2 : (2 : Int32).toInt = 2 := by decide
  have k8 : (8 : Int32).toInt = 8 := by decide
  have hK : Kp [(11, 15), (43, 44), (107, 108)] [(10, 2), (10, 3), (10, 4), (10, 5), (10, 6), (10, 7), (10, 11), (10, 12)] I I := Kp.rf
  have hl : lv_has ls 5 [(0, .ref (ad (40))), (1, .int (a0)), (2, .int (a1))] := hl
  refine lv_aload_n hx hb dX5_isMendedBy_0 rfl (lv_at hl 0 rfl) ?_
  refine m_getr (40) 1 (100) hx hb hts hown hE oc5 hM (hG.1 40 (by decide)) rfl (by decide) rfl (hG.2 (40, 1, 100) (by decide)) (by decide) tb_235 dX5_isMendedBy_1 ?_
  refine lv_iload_n hx hb dX5_isMendedBy_4 rfl (lv_at hl 1 rfl) ?_
  refine lv_iconst (v := (2)) hx hb dX5_isMendedBy_5 (by decide) ?_
  refine m_calli (m_runV (100) (As := [.int (a0), .int (2)]) (rest := []) hx hb hml hown hts hE hM hS hA ce_X8_ofMirror tb_1016 (V_X8_ofMirror_100 l D A ad ns I L G (a0) (2) hG hI (by first | omega | decide) (by first | omega | decide)) rfl rfl ⟨Nat.le_of_ble_eq_true rfl, Nat.le_of_ble_eq_true rfl⟩ (hG.1 100 (by decide)) rfl rfl (by decide) rfl hl.1 rfl (Nat.le_of_ble_eq_true rfl) dX5_isMendedBy_6 ⟨Nat.le_of_ble_eq_true rfl, Nat.le_of_ble_eq_true rfl⟩) hS (fun r1 u H locs hw hM hS => ?_)
  obtain ⟨rfl, xr1⟩ := hw
  have hM : Mem D A ad ns I L G H := hM
  refine lv_istore_n (lv' := [(3, .int (r1)), (0, .ref (ad (40))), (1, .int (a0)), (2, .int (a1))]) hx hb dX5_isMendedBy_9 rfl hl (by decide) rfl (fun ls hl => ?_)
  refine lv_aload_n hx hb dX5_isMendedBy_10 rfl (lv_at hl 1 rfl) ?_
  refine m_getr (40) 1 (100) hx hb hts hown hE oc5 hM (hG.1 40 (by decide)) rfl (by decide) rfl (hG.2 (40, 1, 100) (by decide)) (by decide) tb_235 dX5_isMendedBy_11 ?_
  refine lv_iload_n hx hb dX5_isMendedBy_14 rfl (lv_at hl 2 rfl) ?_
  refine lv_iconst (v := (2)) hx hb dX5_isMendedBy_15 (by decide) ?_
  refine lv_iload_n hx hb dX5_isMendedBy_16 rfl (lv_at hl 3 rfl) ?_
  refine m_callv (m_runV (100) (As := [.int (a0), .int (2), .int (a1)]) (rest := []) hx hb hml hown hts hE hM hS hA ce_X8_setMirror tb_1019 (V_X8_setMirror_100 l D A ad ns I L G (a0) (2) (a1) hG hI (by first | omega | decide) (by first | omega | decide)) rfl rfl ⟨Nat.le_of_ble_eq_true rfl, Nat.le_of_ble_eq_true rfl⟩ (hG.1 100 (by decide)) rfl rfl (by decide) rfl hl.1 rfl (Nat.le_of_ble_eq_true rfl) dX5_isMendedBy_17 ⟨Nat.le_of_ble_eq_true rfl, Nat.le_of_ble_eq_true rfl⟩) hS (fun u H locs hw hM hS => ?_)
  obtain ⟨I2, L3, rfl, hI, hkI2⟩ := hw
  have hM : Mem D A ad ns I2 L3 G H := hM
  have hK := hK.trans hkI2 rfl
  refine lv_aload_n hx hb dX5_isMendedBy_20 rfl (lv_at hl 1 rfl) ?_
  refine m_calli (m_runV (40) (As := []) (rest := []) hx hb hml hown hts hE hM hS hA ce_X5_isEnough tb_1024 (V_X5_isEnough l D A ad ns I2 L3 G hG hI (by rw [hK.get 40 5 rfl]; exact hlit.kp hK rfl)) rfl rfl ⟨Nat.le_of_ble_eq_true rfl, Nat.le_of_ble_eq_true rfl⟩ (hG.1 40 (by decide)) rfl rfl (by decide) rfl hl.1 rfl (Nat.le_of_ble_eq_true rfl) dX5_isMendedBy_21 ⟨Nat.le_of_ble_eq_true rfl, Nat.le_of_ble_eq_true rfl⟩) hS (fun r4 u H locs hw hM hS => ?_)
  obtain ⟨I5, L6, rfl, hI, hkI5, xr4⟩ := hw
  have hM : Mem D A ad ns I5 L6 G H := hM
  have hK := hK.trans hkI5 rfl
  refine lv_istore (lv' := [(4, .int (r4)), (3, .int (r1)), (0, .ref (ad (40))), (1, .int (a0)), (2, .int (a1))]) hx hb dX5_isMendedBy_24 hl (by decide) rfl (fun ls hl => ?_)
  refine lv_aload_n hx hb dX5_isMendedBy_26 rfl (lv_at hl 2 rfl) ?_
  refine m_getr (40) 4 (43) hx hb hts hown hE oc5 hM (hG.1 40 (by decide)) rfl (by decide) rfl (hG.2 (40, 4, 43) (by decide)) (by decide) tb_238 dX5_isMendedBy_27 ?_
  refine lv_iload_n hx hb dX5_isMendedBy_30 rfl (lv_at hl 3 rfl) ?_
  refine lv_bipush (v := (8)) hx hb dX5_isMendedBy_31 (by decide) ?_
  refine lv_imul hx hb dX5_isMendedBy_33 ?_
  refine lv_topi (fun v7 ev7 => ?_)
  have tv7 := a_mulR (c := 8) ev7 (by decide) (by omega) (by omega)
  refine lv_iload_n hx hb dX5_isMendedBy_34 rfl (lv_at hl 4 rfl) ?_
  refine lv_iadd hx hb dX5_isMendedBy_35 ?_
  refine lv_topi (fun v8 ev8 => ?_)
  have tv8 := a_add ev8 (by omega) (by omega)
  refine lv_aload_n hx hb dX5_isMendedBy_36 rfl (lv_at hl 2 rfl) ?_
  refine m_getr (40) 2 (10) hx hb hts hown hE oc5 hM (hG.1 40 (by decide)) rfl (by decide) rfl (hG.2 (40, 2, 10) (by decide)) (by decide) tb_236 dX5_isMendedBy_37 ?_
  refine m_calli (m_runV (10) (As := []) (rest := [.int (v8), .ref (ad (43))]) hx hb hml hown hts hE hM hS hA ce_X1_touchedSet tb_1028 (V_X1_touchedSet l D A ad ns I5 L6 G hG hI) rfl rfl ⟨Nat.le_of_ble_eq_true rfl, Nat.le_of_ble_eq_true rfl⟩ (hG.1 10 (by decide)) rfl rfl (by decide) rfl hl.1 rfl (Nat.le_of_ble_eq_true rfl) dX5_isMendedBy_40 ⟨Nat.le_of_ble_eq_true rfl, Nat.le_of_ble_eq_true rfl⟩) hS (fun r9 u H locs hw hM hS => ?_)
  obtain ⟨rfl, xr9⟩ := hw
  have hM : Mem D A ad ns I5 L6 G H := hM
  refine m_iast (43) hx hb hE hM hS (hG.1 43 (by decide)) rfl (vp_in_iff.mpr (by omega)) dX5_isMendedBy_43 (fun H locs I10 eI10 hM hS => ?_)
  subst eI10
  have hI := hI.putF (n := 43) (k := ((v8).toNatClampNeg)) (v := r9) rfl
  have hK := hK.put (n := 43) (k := ((v8).toNatClampNeg)) (v := r9) (by first | rfl | simp [inR])
  refine lv_aload_n hx hb dX5_isMendedBy_44 rfl (lv_at hl 2 rfl) ?_
  refine m_getr (40) 1 (100) hx hb hts hown hE oc5 hM (hG.1 40 (by decide)) rfl (by decide) rfl (hG.2 (40, 1, 100) (by decide)) (by decide) tb_235 dX5_isMendedBy_45 ?_
  refine lv_iload_n hx hb dX5_isMendedBy_48 rfl (lv_at hl 3 rfl) ?_
  refine lv_iconst (v := (2)) hx hb dX5_isMendedBy_49 (by decide) ?_
  refine lv_iload_n hx hb dX5_isMendedBy_50 rfl (lv_at hl 1 rfl) ?_
  refine m_callv (m_runV (100) (As := [.int (a0), .int (2), .int (r1)]) (rest := []) hx hb hml hown hts hE hM hS hA ce_X8_setMirror tb_1019 (V_X8_setMirror_100 l D A ad ns (u2 I5 (43) ((v8).toNatClampNeg) (r9)) L6 G (a0) (2) (r1) hG hI (by first | omega | decide) (by first | omega | decide)) rfl rfl ⟨Nat.le_of_ble_eq_true rfl, Nat.le_of_ble_eq_true rfl⟩ (hG.1 100 (by decide)) rfl rfl (by decide) rfl hl.1 rfl (Nat.le_of_ble_eq_true rfl) dX5_isMendedBy_51 ⟨Nat.le_of_ble_eq_true rfl, Nat.le_of_ble_eq_true rfl⟩) hS (fun u H locs hw hM hS => ?_)
  obtain ⟨I11, L12, rfl, hI, hkI11⟩ := hw
  have hM : Mem D A ad ns I11 L12 G H := hM
  have hK := hK.trans hkI11 rfl
  refine lv_iload hx hb dX5_isMendedBy_54 (lv_at hl 0 rfl) ?_
  exact m_zret hx hb hr (nar01 (by omega) (by omega)).1 hlocks hM hS (Nat.le_of_ble_eq_true rfl) (Nat.le_of_ble_eq_true rfl) ⟨_, _, rfl, hI, hK, (by first | omega | decide)⟩ dX5_isMendedBy_56
theorem dX5_doesPairMatter_0 : decode cX5_doesPairMatter 0 = .ok (.aload_n 0, 1) := by decide +kernel
theorem dX5_doesPairMatter_1 : decode cX5_doesPairMatter 1 = .ok (.getfield 18, 3) := by decide +kernel
theorem dX5_doesPairMatter_4 : decode cX5_doesPairMatter 4 = .ok (.iload_n 1, 1) := by decide +kernel
theorem dX5_doesPairMatter_5 : decode cX5_doesPairMatter 5 = .ok (.bipush 8, 2) := by decide +kernel
theorem dX5_doesPairMatter_7 : decode cX5_doesPairMatter 7 = .ok (.imul, 1) := by decide +kernel
theorem dX5_doesPairMatter_8 : decode cX5_doesPairMatter 8 = .ok (.iload_n 2, 1) := by decide +kernel
theorem dX5_doesPairMatter_9 : decode cX5_doesPairMatter 9 = .ok (.iadd, 1) := by decide +kernel
theorem dX5_doesPairMatter_10 : decode cX5_doesPairMatter 10 = .ok (.iaload, 1) := by decide +kernel
theorem dX5_doesPairMatter_11 : decode cX5_doesPairMatter 11 = .ok (.iload_n 3, 1) := by decide +kernel
theorem dX5_doesPairMatter_12 : decode cX5_doesPairMatter 12 = .ok (.invokestatic 78, 3) := by decide +kernel
theorem dX5_doesPairMatter_15 : decode cX5_doesPairMatter 15 = .ok (.ifCond .eq 26, 3) := by decide +kernel
theorem dX5_doesPairMatter_18 : decode cX5_doesPairMatter 18 = .ok (.aload_n 0, 1) := by decide +kernel
theorem dX5_doesPairMatter_19 : decode cX5_doesPairMatter 19 = .ok (.getfield 18, 3) := by decide +kernel
theorem dX5_doesPairMatter_22 : decode cX5_doesPairMatter 22 = .ok (.iload_n 3, 1) := by decide +kernel
theorem dX5_doesPairMatter_23 : decode cX5_doesPairMatter 23 = .ok (.bipush 8, 2) := by decide +kernel
theorem dX5_doesPairMatter_25 : decode cX5_doesPairMatter 25 = .ok (.imul, 1) := by decide +kernel
theorem dX5_doesPairMatter_26 : decode cX5_doesPairMatter 26 = .ok (.iload 4, 2) := by decide +kernel
theorem dX5_doesPairMatter_28 : decode cX5_doesPairMatter 28 = .ok (.iadd, 1) := by decide +kernel
theorem dX5_doesPairMatter_29 : decode cX5_doesPairMatter 29 = .ok (.iaload, 1) := by decide +kernel
theorem dX5_doesPairMatter_30 : decode cX5_doesPairMatter 30 = .ok (.iload_n 1, 1) := by decide +kernel
theorem dX5_doesPairMatter_31 : decode cX5_doesPairMatter 31 = .ok (.invokestatic 78, 3) := by decide +kernel
theorem dX5_doesPairMatter_34 : decode cX5_doesPairMatter 34 = .ok (.ifCond .eq 7, 3) := by decide +kernel
theorem dX5_doesPairMatter_37 : decode cX5_doesPairMatter 37 = .ok (.iconst 1, 1) := by decide +kernel
theorem dX5_doesPairMatter_38 : decode cX5_doesPairMatter 38 = .ok (.goto 4, 3) := by decide +kernel
theorem dX5_doesPairMatter_41 : decode cX5_doesPairMatter 41 = .ok (.iconst 0, 1) := by decide +kernel
theorem dX5_doesPairMatter_42 : decode cX5_doesPairMatter 42 = .ok (.ireturn, 1) := by decide +kernel
theorem ce_X5_doesPairMatter : CeV RX5 yX5_doesPairMatter cX5_doesPairMatter 5 (some .boolean) 4 := ⟨tb_1053, tp_46, tb_6, tb_1054, rfl, by decide, by decide, by decide +kernel⟩
set_option maxHeartbeats 4000000 in
set_option maxRecDepth 20000 in
theorem V_X5_doesPairMatter (l : Launch) (D : va_G) (A : Nat → Prop) (ad : Nat → Nat) (ns : List Nat) (I : MI) (L : ML) (G : MG) (a0 : Int32) (a1 : Int32) (a2 : Int32) (a3 : Int32) (hG : SGC ns G) (hI : INV I) (ha0 : 0 ≤ a0.toInt ∧ a0.toInt ≤ 23) (ha1 : 0 ≤ a1.toInt ∧ a1.toInt ≤ 7) (ha2 : 0 ≤ a2.toInt ∧ a2.toInt ≤ 23) (ha3 : 0 ≤ a3.toInt ∧ a3.toInt ≤ 7) : Met l yX5_doesPairMatter (wd yX5_doesPairMatter cX5_doesPairMatter 5 (some .boolean)) ({ frames := 1, cells := 0, slots := 0, locals := 21 }) (va_Pc [.ref (ad (40)), .int a0, .int a1, .int a2, .int a3] (PM D A ad ns I L G)) (va_Qi (fun r u => u = (ad, ns, I, L, G) ∧ (0 ≤ r.toInt ∧ r.toInt ≤ 1)) (BM D A) A) 0 0 A := by
  refine m_ofW (by decide) (Nat.le_of_ble_eq_true rfl) ?_
  intro p e s m below meth c ls args hC hE hM hA hS hl
  obtain ⟨hx, hb, hml, hown, hts, hr, hlocks, hin⟩ := hC
  have k0 : (0 : Int32).toInt = 0 := by decide
  have k1 : (1 : Int32).toInt = 1 := by decide
  have k8 : (8 : Int32).toInt = 8 := by decide
  have hl : lv_has ls 5 [(0, .ref (ad (40))), (1, .int (a0)), (2, .int (a1)), (3, .int (a2)), (4, .int (a3))] := hl
  refine lv_aload_n hx hb dX5_doesPairMatter_0 rfl (lv_at hl 0 rfl) ?_
  refine m_getr (40) 4 (43) hx hb hts hown hE oc5 hM (hG.1 40 (by decide)) rfl (by decide) rfl (hG.2 (40, 4, 43) (by decide)) (by decide) tb_238 dX5_doesPairMatter_1 ?_
  refine lv_iload_n hx hb dX5_doesPairMatter_4 rfl (lv_at hl 1 rfl) ?_
  refine lv_bipush (v := (8)) hx hb dX5_doesPairMatter_5 (by decide) ?_
  refine lv_imul hx hb dX5_doesPairMatter_7 ?_
  refine lv_topi (fun v1 ev1 => ?_)
  have tv1 := a_mulR (c := 8) ev1 (by decide) (by omega) (by omega)
  refine lv_iload_n hx hb dX5_doesPairMatter_8 rfl (lv_at hl 2 rfl) ?_
  refine lv_iadd hx hb dX5_doesPairMatter_9 ?_
  refine lv_topi (fun v2 ev2 => ?_)
  have tv2 := a_add ev2 (by omega) (by omega)
  refine m_iald (43) hx hb hE hM (hG.1 43 (by decide)) rfl (vp_in_iff.mpr (by omega)) dX5_doesPairMatter_10 ?_
  refine lv_iload_n hx hb dX5_doesPairMatter_11 rfl (lv_at hl 3 rfl) ?_
  refine m_calli (m_runS (As := [.int (I (43) (v2).toNatClampNeg), .int (a2)]) (rest := []) hx hb hml hown hts hE hM hS hA ce_X5_isIn tb_1036 (V_X5_isIn l D A ad ns I L G (I (43) (v2).toNatClampNeg) (a2) hI) rfl rfl ⟨Nat.le_of_ble_eq_true rfl, Nat.le_of_ble_eq_true rfl⟩  rfl hl.1 rfl (Nat.le_of_ble_eq_true rfl) dX5_doesPairMatter_12 ⟨Nat.le_of_ble_eq_true rfl, Nat.le_of_ble_eq_true rfl⟩) hS (fun r3 u H locs hw hM hS => ?_)
  obtain ⟨rfl, xr3⟩ := hw
  have hM : Mem D A ad ns I L G H := hM
  refine lv_if_eq (tgt := 41) hx hb dX5_doesPairMatter_15 (by decide) (fun c4 => ?_) (fun c4 => ?_)
  · have hc4 := c4
    have q4 := q_eq hc4
    refine lv_iconst (v := (0)) hx hb dX5_doesPairMatter_41 (by decide) ?_
    exact m_zret hx hb hr rfl hlocks hM hS (Nat.le_of_ble_eq_true rfl) (Nat.le_of_ble_eq_true rfl) ⟨rfl, (by first | omega | decide)⟩ dX5_doesPairMatter_42
  · have hc4 := c4
    have q4 := q_ne hc4
    refine lv_aload_n hx hb dX5_doesPairMatter_18 rfl (lv_at hl 0 rfl) ?_
    refine m_getr (40) 4 (43) hx hb hts hown hE oc5 hM (hG.1 40 (by decide)) rfl (by decide) rfl (hG.2 (40, 4, 43) (by decide)) (by decide) tb_238 dX5_doesPairMatter_19 ?_
    refine lv_iload_n hx hb dX5_doesPairMatter_22 rfl (lv_at hl 3 rfl) ?_
    refine lv_bipush (v := (8)) hx hb dX5_doesPairMatter_23 (by decide) ?_
    refine lv_imul hx hb dX5_doesPairMatter_25 ?_
    refine lv_topi (fun v5 ev5 => ?_)
    have tv5 := a_mulR (c := 8) ev5 (by decide) (by omega) (by omega)
    refine lv_iload hx hb dX5_doesPairMatter_26 (lv_at hl 4 rfl) ?_
    refine lv_iadd hx hb dX5_doesPairMatter_28 ?_
    refine lv_topi (fun v6 ev6 => ?_)
    have tv6 := a_add ev6 (by omega) (by omega)
    refine m_iald (43) hx hb hE hM (hG.1 43 (by decide)) rfl (vp_in_iff.mpr (by omega)) dX5_doesPairMatter_29 ?_
    refine lv_iload_n hx hb dX5_doesPairMatter_30 rfl (lv_at hl 1 rfl) ?_
    refine m_calli (m_runS (As := [.int (I (43) (v6).toNatClampNeg), .int (a0)]) (rest := []) hx hb hml hown hts hE hM hS hA ce_X5_isIn tb_1036 (V_X5_isIn l D A ad ns I L G (I (43) (v6).toNatClampNeg) (a0) hI) rfl rfl ⟨Nat.le_of_ble_eq_true rfl, Nat.le_of_ble_eq_true rfl⟩  rfl hl.1 rfl (Nat.le_of_ble_eq_true rfl) dX5_doesPairMatter_31 ⟨Nat.le_of_ble_eq_true rfl, Nat.le_of_ble_eq_true rfl⟩) hS (fun r7 u H locs hw hM hS => ?_)
    obtain ⟨rfl, xr7⟩ := hw
    have hM : Mem D A ad ns I L G H := hM
    refine lv_if_eq (tgt := 41) hx hb dX5_doesPairMatter_34 (by decide) (fun c8 => ?_) (fun c8 => ?_)
    · have hc8 := c8
      have q8 := q_eq hc8
      refine lv_iconst (v := (0)) hx hb dX5_doesPairMatter_41 (by decide) ?_
      exact m_zret hx hb hr rfl hlocks hM hS (Nat.le_of_ble_eq_true rfl) (Nat.le_of_ble_eq_true rfl) ⟨rfl, (by first | omega | decide)⟩ dX5_doesPairMatter_42
    · have hc8 := c8
      have q8 := q_ne hc8
      refine lv_iconst (v := (1)) hx hb dX5_doesPairMatter_37 (by decide) ?_
      refine lv_goto (tgt := 42) hx hb dX5_doesPairMatter_38 (by decide) ?_
      exact m_zret hx hb hr rfl hlocks hM hS (Nat.le_of_ble_eq_true rfl) (Nat.le_of_ble_eq_true rfl) ⟨rfl, (by first | omega | decide)⟩ dX5_doesPairMatter_42
theorem dX5_findSlants_0 : decode cX5_findSlants 0 = .ok (.aload_n 0, 1) := by decide +kernel
theorem dX5_findSlants_1 : decode cX5_findSlants 1 = .ok (.getfield 21, 3) := by decide +kernel
theorem dX5_findSlants_4 : decode cX5_findSlants 4 = .ok (.iload_n 1, 1) := by decide +kernel
theorem dX5_findSlants_5 : decode cX5_findSlants 5 = .ok (.iconst 2, 1) := by decide +kernel
theorem dX5_findSlants_6 : decode cX5_findSlants 6 = .ok (.invokevirtual 36, 3) := by decide +kernel
theorem dX5_findSlants_9 : decode cX5_findSlants 9 = .ok (.istore_n 3, 1) := by decide +kernel
theorem dX5_findSlants_10 : decode cX5_findSlants 10 = .ok (.aload_n 0, 1) := by decide +kernel
theorem dX5_findSlants_11 : decode cX5_findSlants 11 = .ok (.getfield 21, 3) := by decide +kernel
theorem dX5_findSlants_14 : decode cX5_findSlants 14 = .ok (.iload_n 2, 1) := by decide +kernel
theorem dX5_findSlants_15 : decode cX5_findSlants 15 = .ok (.iconst 2, 1) := by decide +kernel
theorem dX5_findSlants_16 : decode cX5_findSlants 16 = .ok (.invokevirtual 36, 3) := by decide +kernel
theorem dX5_findSlants_19 : decode cX5_findSlants 19 = .ok (.istore 4, 2) := by decide +kernel
theorem dX5_findSlants_21 : decode cX5_findSlants 21 = .ok (.iconst 0, 1) := by decide +kernel
theorem dX5_findSlants_22 : decode cX5_findSlants 22 = .ok (.istore 5, 2) := by decide +kernel
theorem dX5_findSlants_24 : decode cX5_findSlants 24 = .ok (.iconst 0, 1) := by decide +kernel
theorem dX5_findSlants_25 : decode cX5_findSlants 25 = .ok (.istore 6, 2) := by decide +kernel
theorem dX5_findSlants_27 : decode cX5_findSlants 27 = .ok (.iload 6, 2) := by decide +kernel
theorem dX5_findSlants_29 : decode cX5_findSlants 29 = .ok (.bipush 64, 2) := by decide +kernel
theorem dX5_findSlants_31 : decode cX5_findSlants 31 = .ok (.if_icmp .ge 118, 3) := by decide +kernel
theorem dX5_findSlants_34 : decode cX5_findSlants 34 = .ok (.iload 5, 2) := by decide +kernel
theorem dX5_findSlants_36 : decode cX5_findSlants 36 = .ok (.ifCond .ne 113, 3) := by decide +kernel
theorem dX5_findSlants_39 : decode cX5_findSlants 39 = .ok (.iload 6, 2) := by decide +kernel
theorem dX5_findSlants_41 : decode cX5_findSlants 41 = .ok (.bipush 8, 2) := by decide +kernel
theorem dX5_findSlants_43 : decode cX5_findSlants 43 = .ok (.idiv, 1) := by decide +kernel
theorem dX5_findSlants_44 : decode cX5_findSlants 44 = .ok (.istore 7, 2) := by decide +kernel
theorem dX5_findSlants_46 : decode cX5_findSlants 46 = .ok (.iload 6, 2) := by decide +kernel
theorem dX5_findSlants_48 : decode cX5_findSlants 48 = .ok (.bipush 8, 2) := by decide +kernel
theorem dX5_findSlants_50 : decode cX5_findSlants 50 = .ok (.irem, 1) := by decide +kernel
theorem dX5_findSlants_51 : decode cX5_findSlants 51 = .ok (.istore 8, 2) := by decide +kernel
theorem dX5_findSlants_53 : decode cX5_findSlants 53 = .ok (.iload 7, 2) := by decide +kernel
theorem dX5_findSlants_55 : decode cX5_findSlants 55 = .ok (.iload_n 3, 1) := by decide +kernel
theorem dX5_findSlants_56 : decode cX5_findSlants 56 = .ok (.if_icmp .eq 87, 3) := by decide +kernel
theorem dX5_findSlants_59 : decode cX5_findSlants 59 = .ok (.iload 8, 2) := by decide +kernel
theorem dX5_findSlants_61 : decode cX5_findSlants 61 = .ok (.iload 4, 2) := by decide +kernel
theorem dX5_findSlants_63 : decode cX5_findSlants 63 = .ok (.if_icmp .eq 80, 3) := by decide +kernel
theorem dX5_findSlants_66 : decode cX5_findSlants 66 = .ok (.aload_n 0, 1) := by decide +kernel
theorem dX5_findSlants_67 : decode cX5_findSlants 67 = .ok (.iload_n 1, 1) := by decide +kernel
theorem dX5_findSlants_68 : decode cX5_findSlants 68 = .ok (.iload 7, 2) := by decide +kernel
theorem dX5_findSlants_70 : decode cX5_findSlants 70 = .ok (.iload_n 2, 1) := by decide +kernel
theorem dX5_findSlants_71 : decode cX5_findSlants 71 = .ok (.iload 8, 2) := by decide +kernel
theorem dX5_findSlants_73 : decode cX5_findSlants 73 = .ok (.invokevirtual 88, 3) := by decide +kernel
theorem dX5_findSlants_76 : decode cX5_findSlants 76 = .ok (.ifCond .eq 67, 3) := by decide +kernel
theorem dX5_findSlants_79 : decode cX5_findSlants 79 = .ok (.aload_n 0, 1) := by decide +kernel
theorem dX5_findSlants_80 : decode cX5_findSlants 80 = .ok (.getfield 21, 3) := by decide +kernel
theorem dX5_findSlants_83 : decode cX5_findSlants 83 = .ok (.iload_n 1, 1) := by decide +kernel
theorem dX5_findSlants_84 : decode cX5_findSlants 84 = .ok (.iconst 2, 1) := by decide +kernel
theorem dX5_findSlants_85 : decode cX5_findSlants 85 = .ok (.iload 7, 2) := by decide +kernel
theorem dX5_findSlants_87 : decode cX5_findSlants 87 = .ok (.invokevirtual 60, 3) := by decide +kernel
theorem dX5_findSlants_90 : decode cX5_findSlants 90 = .ok (.aload_n 0, 1) := by decide +kernel
theorem dX5_findSlants_91 : decode cX5_findSlants 91 = .ok (.getfield 21, 3) := by decide +kernel
theorem dX5_findSlants_94 : decode cX5_findSlants 94 = .ok (.iload_n 2, 1) := by decide +kernel
theorem dX5_findSlants_95 : decode cX5_findSlants 95 = .ok (.iconst 2, 1) := by decide +kernel
theorem dX5_findSlants_96 : decode cX5_findSlants 96 = .ok (.iload 8, 2) := by decide +kernel
theorem dX5_findSlants_98 : decode cX5_findSlants 98 = .ok (.invokevirtual 60, 3) := by decide +kernel
theorem dX5_findSlants_101 : decode cX5_findSlants 101 = .ok (.aload_n 0, 1) := by decide +kernel
theorem dX5_findSlants_102 : decode cX5_findSlants 102 = .ok (.invokevirtual 64, 3) := by decide +kernel
theorem dX5_findSlants_105 : decode cX5_findSlants 105 = .ok (.istore 5, 2) := by decide +kernel
theorem dX5_findSlants_107 : decode cX5_findSlants 107 = .ok (.aload_n 0, 1) := by decide +kernel
theorem dX5_findSlants_108 : decode cX5_findSlants 108 = .ok (.getfield 11, 3) := by decide +kernel
theorem dX5_findSlants_111 : decode cX5_findSlants 111 = .ok (.iconst 2, 1) := by decide +kernel
theorem dX5_findSlants_112 : decode cX5_findSlants 112 = .ok (.iload 5, 2) := by decide +kernel
theorem dX5_findSlants_114 : decode cX5_findSlants 114 = .ok (.ifCond .eq 8, 3) := by decide +kernel
theorem dX5_findSlants_117 : decode cX5_findSlants 117 = .ok (.iload 7, 2) := by decide +kernel
theorem dX5_findSlants_119 : decode cX5_findSlants 119 = .ok (.goto 5, 3) := by decide +kernel
theorem dX5_findSlants_122 : decode cX5_findSlants 122 = .ok (.bipush (-2), 2) := by decide +kernel
theorem dX5_findSlants_124 : decode cX5_findSlants 124 = .ok (.iastore, 1) := by decide +kernel
theorem dX5_findSlants_125 : decode cX5_findSlants 125 = .ok (.aload_n 0, 1) := by decide +kernel
theorem dX5_findSlants_126 : decode cX5_findSlants 126 = .ok (.getfield 11, 3) := by decide +kernel
theorem dX5_findSlants_129 : decode cX5_findSlants 129 = .ok (.iconst 4, 1) := by decide +kernel
theorem dX5_findSlants_130 : decode cX5_findSlants 130 = .ok (.iload 5, 2) := by decide +kernel
theorem dX5_findSlants_132 : decode cX5_findSlants 132 = .ok (.ifCond .eq 8, 3) := by decide +kernel
theorem dX5_findSlants_135 : decode cX5_findSlants 135 = .ok (.iload 8, 2) := by decide +kernel
theorem dX5_findSlants_137 : decode cX5_findSlants 137 = .ok (.goto 5, 3) := by decide +kernel
theorem dX5_findSlants_140 : decode cX5_findSlants 140 = .ok (.bipush (-2), 2) := by decide +kernel
theorem dX5_findSlants_142 : decode cX5_findSlants 142 = .ok (.iastore, 1) := by decide +kernel
theorem dX5_findSlants_143 : decode cX5_findSlants 143 = .ok (.iinc 6 1, 3) := by decide +kernel
theorem dX5_findSlants_146 : decode cX5_findSlants 146 = .ok (.goto (-119), 3) := by decide +kernel
theorem dX5_findSlants_149 : decode cX5_findSlants 149 = .ok (.aload_n 0, 1) := by decide +kernel
theorem dX5_findSlants_150 : decode cX5_findSlants 150 = .ok (.getfield 21, 3) := by decide +kernel
theorem dX5_findSlants_153 : decode cX5_findSlants 153 = .ok (.iload_n 1, 1) := by decide +kernel
theorem dX5_findSlants_154 : decode cX5_findSlants 154 = .ok (.iconst 2, 1) := by decide +kernel
theorem dX5_findSlants_155 : decode cX5_findSlants 155 = .ok (.iload_n 3, 1) := by decide +kernel
theorem dX5_findSlants_156 : decode cX5_findSlants 156 = .ok (.invokevirtual 60, 3) := by decide +kernel
theorem dX5_findSlants_159 : decode cX5_findSlants 159 = .ok (.aload_n 0, 1) := by decide +kernel
theorem dX5_findSlants_160 : decode cX5_findSlants 160 = .ok (.getfield 21, 3) := by decide +kernel
theorem dX5_findSlants_163 : decode cX5_findSlants 163 = .ok (.iload_n 2, 1) := by decide +kernel
theorem dX5_findSlants_164 : decode cX5_findSlants 164 = .ok (.iconst 2, 1) := by decide +kernel
theorem dX5_findSlants_165 : decode cX5_findSlants 165 = .ok (.iload 4, 2) := by decide +kernel
theorem dX5_findSlants_167 : decode cX5_findSlants 167 = .ok (.invokevirtual 60, 3) := by decide +kernel
theorem dX5_findSlants_170 : decode cX5_findSlants 170 = .ok (.iload 5, 2) := by decide +kernel
theorem dX5_findSlants_172 : decode cX5_findSlants 172 = .ok (.ireturn, 1) := by decide +kernel
theorem ce_X5_findSlants : CeV RX5 yX5_findSlants cX5_findSlants 9 (some .boolean) 2 := ⟨tb_1049, tp_45, tb_6, tb_1050, rfl, by decide, by decide, by decide +kernel⟩
set_option maxHeartbeats 4000000 in
set_option maxRecDepth 20000 in
theorem V_X5_findSlants (l : Launch) (D : va_G) (A : Nat → Prop) (ad : Nat → Nat) (ns : List Nat) (I : MI) (L : ML) (G : MG) (a0 : Int32) (a1 : Int32) (hG : SGC ns G) (hI : INV I) (hlit : Lit 100 I (I 40 5)) (ha0 : 0 ≤ a0.toInt ∧ a0.toInt ≤ 23) (ha1 : 0 ≤ a1.toInt ∧ a1.toInt ≤ 23) : Met l yX5_findSlants (wd yX5_findSlants cX5_findSlants 9 (some .boolean)) ({ frames := 5, cells := 0, slots := 0, locals := 128 }) (va_Pc [.ref (ad (40)), .int a0, .int a1] (PM D A ad ns I L G)) (va_Qi (fun r u => ∃ I2 L2, u = (ad, ns, I2, L2, G) ∧ INV I2 ∧ Kp [(11, 15), (107, 108)] [(10, 2), (10, 3), (10, 4), (10, 5), (10, 6), (10, 7), (10, 11), (10, 12), (41, 2), (41, 4)] I I2 ∧ (0 ≤ r.toInt ∧ r.toInt ≤ 1)) (BM D A) A) 0 0 A := by
  refine m_ofW (by decide) (Nat.le_of_ble_eq_true rfl) ?_
  intro p e s m below meth c ls args hC hE hM hA hS hl
  obtain ⟨hx, hb, hml, hown, hts, hr, hlocks, hin⟩ := hC
  have km2 : (-2 : Int32).toInt = -2 := by decide
  have k0 : (0 : Int32).toInt = 0 := by decide
  have k2 : (2 : Int32).toInt = 2 := by decide
  have k4 : (4 : Int32).toInt = 4 := by decide
  have k8 : (8 : Int32).toInt = 8 := by decide
  have k64 : (64 : Int32).toInt = 64 := by decide
  have hK : Kp [(11, 15), (107, 108)] [(10, 2), (10, 3), (10, 4), (10, 5), (10, 6), (10, 7), (10, 11), (10, 12), (41, 2), (41, 4)] I I := Kp.rf
  have hl : lv_has ls 9 [(0, .ref (ad (40))), (1, .int (a0)), (2, .int (a1))] := hl
  refine lv_aload_n hx hb dX5_findSlants_0 rfl (lv_at hl 0 rfl) ?_
  refine m_getr (40) 1 (100) hx hb hts hown hE oc5 hM (hG.1 40 (by decide)) rfl (by decide) rfl (hG.2 (40, 1, 100) (by decide)) (by decide) tb_235 dX5_findSlants_1 ?_
  refine lv_iload_n hx hb dX5_findSlants_4 rfl (lv_at hl 1 rfl) ?_
  refine lv_iconst (v := (2)) hx hb dX5_findSlants_5 (by decide) ?_
  refine m_calli (m_runV (100) (As := [.int (a0), .int (2)]) (rest := []) hx hb hml hown hts hE hM hS hA ce_X8_ofMirror tb_1016 (V_X8_ofMirror_100 l D A ad ns I L G (a0) (2) hG hI (by first | omega | decide) (by first | omega | decide)) rfl rfl ⟨Nat.le_of_ble_eq_true rfl, Nat.le_of_ble_eq_true rfl⟩ (hG.1 100 (by decide)) rfl rfl (by decide) rfl hl.1 rfl (Nat.le_of_ble_eq_true rfl) dX5_findSlants_6 ⟨Nat.le_of_ble_eq_true rfl, Nat.le_of_ble_eq_true rfl⟩) hS (fun r1 u H locs hw hM hS => ?_)
  obtain ⟨rfl, xr1⟩ := hw
  have hM : Mem D A ad ns I L G H := hM
  refine lv_istore_n (lv' := [(3, .int (r1)), (0, .ref (ad (40))), (1, .int (a0)), (2, .int (a1))]) hx hb dX5_findSlants_9 rfl hl (by decide) rfl (fun ls hl => ?_)
  refine lv_aload_n hx hb dX5_findSlants_10 rfl (lv_at hl 1 rfl) ?_
  refine m_getr (40) 1 (100) hx hb hts hown hE oc5 hM (hG.1 40 (by decide)) rfl (by decide) rfl (hG.2 (40, 1, 100) (by decide)) (by decide) tb_235 dX5_findSlants_11 ?_
  refine lv_iload_n hx hb dX5_findSlants_14 rfl (lv_at hl 3 rfl) ?_
  refine lv_iconst (v := (2)) hx hb dX5_findSlants_15 (by decide) ?_
  refine m_calli (m_runV (100) (As := [.int (a1), .int (2)]) (rest := []) hx hb hml hown hts hE hM hS hA ce_X8_ofMirror tb_1016 (V_X8_ofMirror_100 l D A ad ns I L G (a1) (2) hG hI (by first | omega | decide) (by first | omega | decide)) rfl rfl ⟨Nat.le_of_ble_eq_true rfl, Nat.le_of_ble_eq_true rfl⟩ (hG.1 100 (by decide)) rfl rfl (by decide) rfl hl.1 rfl (Nat.le_of_ble_eq_true rfl) dX5_findSlants_16 ⟨Nat.le_of_ble_eq_true rfl, Nat.le_of_ble_eq_true rfl⟩) hS (fun r2 u H locs hw hM hS => ?_)
  obtain ⟨rfl, xr2⟩ := hw
  have hM : Mem D A ad ns I L G H := hM
  refine lv_istore (lv' := [(4, .int (r2)), (3, .int (r1)), (0, .ref (ad (40))), (1, .int (a0)), (2, .int (a1))]) hx hb dX5_findSlants_19 hl (by decide) rfl (fun ls hl => ?_)
  refine lv_iconst (v := (0)) hx hb dX5_findSlants_21 (by decide) ?_
  refine lv_istore (lv' := [(5, .int (0)), (4, .int (r2)), (3, .int (r1)), (0, .ref (ad (40))), (1, .int (a0)), (2, .int (a1))]) hx hb dX5_findSlants_22 hl (by decide) rfl (fun ls hl => ?_)
  refine lv_iconst (v := (0)) hx hb dX5_findSlants_24 (by decide) ?_
  refine lv_istore (lv' := [(6, .int (0)), (5, .int (0)), (4, .int (r2)), (3, .int (r1)), (0, .ref (ad (40))), (1, .int (a0)), (2, .int (a1))]) hx hb dX5_findSlants_25 hl (by decide) rfl (fun ls hl => ?_)
  have loop27 : ∀ (n : Nat) (x6_27 : Int32) (x5_27 : Int32) (Ia27 : MI) (La27 : ML) (H : Heap) (locs : List Loc) (ls : Array Slot), INV Ia27 → Kp [(11, 15), (107, 108)] [(10, 2), (10, 3), (10, 4), (10, 5), (10, 6), (10, 7), (10, 11), (10, 12), (41, 2), (41, 4)] I Ia27 → (0 ≤ x6_27.toInt ∧ x6_27.toInt ≤ 64) → (0 ≤ x5_27.toInt ∧ x5_27.toInt ≤ 1) → (64 - x6_27.toInt).toNat < n → Mem D A ad ns Ia27 La27 G H → va_S A s.heap H locs → lv_has ls 9 [(6, .int (x6_27)), (5, .int (x5_27)), (4, .int (r2)), (3, .int (r1)), (0, .ref (ad (40))), (1, .int (a0)), (2, .int (a1))] → W p l e ({ frames := 5, cells := 0, slots := 0, locals := 128 } : Room) s m args below meth c H locs 0 0 (MQ below (va_Qi (fun r u => ∃ I2 L2, u = (ad, ns, I2, L2, G) ∧ INV I2 ∧ Kp [(11, 15), (107, 108)] [(10, 2), (10, 3), (10, 4), (10, 5), (10, 6), (10, 7), (10, 11), (10, 12), (41, 2), (41, 4)] I I2 ∧ (0 ≤ r.toInt ∧ r.toInt ≤ 1)) (BM D A) A) args s 0 0 A) (F0 m 27 ls []) := by
    intro n
    induction n with
    | zero =>
      intro x6_27 x5_27 Ia27 La27 H locs ls hI hK hr6_27 hr5_27 hmu
      exact absurd hmu (Nat.not_lt_zero _)
    | succ n ih27 =>
      intro x6_27 x5_27 Ia27 La27 H locs ls hI hK hr6_27 hr5_27 hmu27 hM hS hl
      refine lv_iload hx hb dX5_findSlants_27 (lv_at hl 0 rfl) ?_
      refine lv_bipush (v := (64)) hx hb dX5_findSlants_29 (by decide) ?_
      refine lv_icmp_ge (tgt := 149) hx hb dX5_findSlants_31 (by decide) (fun c3 => ?_) (fun c3 => ?_)
      · have hc3 := c3
        have q3 := q_le hc3
        refine lv_aload_n hx hb dX5_findSlants_149 rfl (lv_at hl 4 rfl) ?_
        refine m_getr (40) 1 (100) hx hb hts hown hE oc5 hM (hG.1 40 (by decide)) rfl (by decide) rfl (hG.2 (40, 1, 100) (by decide)) (by decide) tb_235 dX5_findSlants_150 ?_
        refine lv_iload_n hx hb dX5_findSlants_153 rfl (lv_at hl 5 rfl) ?_
        refine lv_iconst (v := (2)) hx hb dX5_findSlants_154 (by decide) ?_
        refine lv_iload_n hx hb dX5_findSlants_155 rfl (lv_at hl 3 rfl) ?_
        refine m_callv (m_runV (100) (As := [.int (a0), .int (2), .int (r1)]) (rest := []) hx hb hml hown hts hE hM hS hA ce_X8_setMirror tb_1019 (V_X8_setMirror_100 l D A ad ns Ia27 La27 G (a0) (2) (r1) hG hI (by first | omega | decide) (by first | omega | decide)) rfl rfl ⟨Nat.le_of_ble_eq_true rfl, Nat.le_of_ble_eq_true rfl⟩ (hG.1 100 (by decide)) rfl rfl (by decide) rfl hl.1 rfl (Nat.le_of_ble_eq_true rfl) dX5_findSlants_156 ⟨Nat.le_of_ble_eq_true rfl, Nat.le_of_ble_eq_true rfl⟩) hS (fun u H locs hw hM hS => ?_)
        obtain ⟨I4, L5, rfl, hI, hkI4⟩ := hw
        have hM : Mem D A ad ns I4 L5 G H := hM
        have hK := hK.trans hkI4 rfl
        refine lv_aload_n hx hb dX5_findSlants_159 rfl (lv_at hl 4 rfl) ?_
        refine m_getr (40) 1 (100) hx hb hts hown hE oc5 hM (hG.1 40 (by decide)) rfl (by decide) rfl (hG.2 (40, 1, 100) (by decide)) (by decide) tb_235 dX5_findSlants_160 ?_
        refine lv_iload_n hx hb dX5_findSlants_163 rfl (lv_at hl 6 rfl) ?_
        refine lv_iconst (v := (2)) hx hb dX5_findSlants_164 (by decide) ?_
        refine lv_iload hx hb dX5_findSlants_165 (lv_at hl 2 rfl) ?_
        refine m_callv (m_runV (100) (As := [.int (a1), .int (2), .int (r2)]) (rest := []) hx hb hml hown hts hE hM hS hA ce_X8_setMirror tb_1019 (V_X8_setMirror_100 l D A ad ns I4 L5 G (a1) (2) (r2) hG hI (by first | omega | decide) (by first | omega | decide)) rfl rfl ⟨Nat.le_of_ble_eq_true rfl, Nat.le_of_ble_eq_true rfl⟩ (hG.1 100 (by decide)) rfl rfl (by decide) rfl hl.1 rfl (Nat.le_of_ble_eq_true rfl) dX5_findSlants_167 ⟨Nat.le_of_ble_eq_true rfl, Nat.le_of_ble_eq_true rfl⟩) hS (fun u H locs hw hM hS => ?_)
        obtain ⟨I6, L7, rfl, hI, hkI6⟩ := hw
        have hM : Mem D A ad ns I6 L7 G H := hM
        have hK := hK.trans hkI6 rfl
        refine lv_iload hx hb dX5_findSlants_170 (lv_at hl 1 rfl) ?_
        exact m_zret hx hb hr (nar01 (by omega) (by omega)).1 hlocks hM hS (Nat.le_of_ble_eq_true rfl) (Nat.le_of_ble_eq_true rfl) ⟨_, _, rfl, hI, hK, (by first | omega | decide)⟩ dX5_findSlants_172
      · have hc3 := c3
        have q3 := q_nle hc3
        refine lv_iload hx hb dX5_findSlants_34 (lv_at hl 1 rfl) ?_
        refine lv_if_ne (tgt := 149) hx hb dX5_findSlants_36 (by decide) (fun c8 => ?_) (fun c8 => ?_)
        · have hc8 := c8
          have q8 := q_ne hc8
          refine lv_aload_n hx hb dX5_findSlants_149 rfl (lv_at hl 4 rfl) ?_
          refine m_getr (40) 1 (100) hx hb hts hown hE oc5 hM (hG.1 40 (by decide)) rfl (by decide) rfl (hG.2 (40, 1, 100) (by decide)) (by decide) tb_235 dX5_findSlants_150 ?_
          refine lv_iload_n hx hb dX5_findSlants_153 rfl (lv_at hl 5 rfl) ?_
          refine lv_iconst (v := (2)) hx hb dX5_findSlants_154 (by decide) ?_
          refine lv_iload_n hx hb dX5_findSlants_155 rfl (lv_at hl 3 rfl) ?_
          refine m_callv (m_runV (100) (As := [.int (a0), .int (2), .int (r1)]) (rest := []) hx hb hml hown hts hE hM hS hA ce_X8_setMirror tb_1019 (V_X8_setMirror_100 l D A ad ns Ia27 La27 G (a0) (2) (r1) hG hI (by first | omega | decide) (by first | omega | decide)) rfl rfl ⟨Nat.le_of_ble_eq_true rfl, Nat.le_of_ble_eq_true rfl⟩ (hG.1 100 (by decide)) rfl rfl (by decide) rfl hl.1 rfl (Nat.le_of_ble_eq_true rfl) dX5_findSlants_156 ⟨Nat.le_of_ble_eq_true rfl, Nat.le_of_ble_eq_true rfl⟩) hS (fun u H locs hw hM hS => ?_)
          obtain ⟨I9, L10, rfl, hI, hkI9⟩ := hw
          have hM : Mem D A ad ns I9 L10 G H := hM
          have hK := hK.trans hkI9 rfl
          refine lv_aload_n hx hb dX5_findSlants_159 rfl (lv_at hl 4 rfl) ?_
          refine m_getr (40) 1 (100) hx hb hts hown hE oc5 hM (hG.1 40 (by decide)) rfl (by decide) rfl (hG.2 (40, 1, 100) (by decide)) (by decide) tb_235 dX5_findSlants_160 ?_
          refine lv_iload_n hx hb dX5_findSlants_163 rfl (lv_at hl 6 rfl) ?_
          refine lv_iconst (v := (2)) hx hb dX5_findSlants_164 (by decide) ?_
          refine lv_iload hx hb dX5_findSlants_165 (lv_at hl 2 rfl) ?_
          refine m_callv (m_runV (100) (As := [.int (a1), .int (2), .int (r2)]) (rest := []) hx hb hml hown hts hE hM hS hA ce_X8_setMirror tb_1019 (V_X8_setMirror_100 l D A ad ns I9 L10 G (a1) (2) (r2) hG hI (by first | omega | decide) (by first | omega | decide)) rfl rfl ⟨Nat.le_of_ble_eq_true rfl, Nat.le_of_ble_eq_true rfl⟩ (hG.1 100 (by decide)) rfl rfl (by decide) rfl hl.1 rfl (Nat.le_of_ble_eq_true rfl) dX5_findSlants_167 ⟨Nat.le_of_ble_eq_true rfl, Nat.le_of_ble_eq_true rfl⟩) hS (fun u H locs hw hM hS => ?_)
          obtain ⟨I11, L12, rfl, hI, hkI11⟩ := hw
          have hM : Mem D A ad ns I11 L12 G H := hM
          have hK := hK.trans hkI11 rfl
          refine lv_iload hx hb dX5_findSlants_170 (lv_at hl 1 rfl) ?_
          exact m_zret hx hb hr (nar01 (by omega) (by omega)).1 hlocks hM hS (Nat.le_of_ble_eq_true rfl) (Nat.le_of_ble_eq_true rfl) ⟨_, _, rfl, hI, hK, (by first | omega | decide)⟩ dX5_findSlants_172
        · have hc8 := c8
          have q8 := q_eq hc8
          refine lv_iload hx hb dX5_findSlants_39 (lv_at hl 0 rfl) ?_
          refine lv_bipush (v := (8)) hx hb dX5_findSlants_41 (by decide) ?_
          refine lv_idiv hx hb dX5_findSlants_43 (by decide) ?_
          refine lv_topi (fun v13 ev13 => ?_)
          have tv13 := a_div (c := 8) ev13 (by decide) (by decide) (by omega)
          refine lv_istore (lv' := [(7, .int (v13)), (6, .int (x6_27)), (5, .int (x5_27)), (4, .int (r2)), (3, .int (r1)), (0, .ref (ad (40))), (1, .int (a0)), (2, .int (a1))]) hx hb dX5_findSlants_44 hl (by decide) rfl (fun ls hl => ?_)
          refine lv_iload hx hb dX5_findSlants_46 (lv_at hl 1 rfl) ?_
          refine lv_bipush (v := (8)) hx hb dX5_findSlants_48 (by decide) ?_
          refine lv_irem hx hb dX5_findSlants_50 (by decide) ?_
          refine lv_topi (fun v14 ev14 => ?_)
          have tv14 := a_rem (c := 8) ev14 (by decide) (by decide) (by omega)
          refine lv_istore (lv' := [(8, .int (v14)), (7, .int (v13)), (6, .int (x6_27)), (5, .int (x5_27)), (4, .int (r2)), (3, .int (r1)), (0, .ref (ad (40))), (1, .int (a0)), (2, .int (a1))]) hx hb dX5_findSlants_51 hl (by decide) rfl (fun ls hl => ?_)
          refine lv_iload hx hb dX5_findSlants_53 (lv_at hl 1 rfl) ?_
          refine lv_iload_n hx hb dX5_findSlants_55 rfl (lv_at hl 5 rfl) ?_
          refine lv_icmp_eq (tgt := 143) hx hb dX5_findSlants_56 (by decide) (fun c15 => ?_) (fun c15 => ?_)
          · have hc15 := c15
            have q15 := q_eq hc15
            obtain ⟨v16, ev16⟩ : ∃ z : Int32, z = x6_27 + Int32.ofInt (1) := ⟨_, rfl⟩
            have tv16 := a_inc ev16 (by decide) (by omega) (by omega)
            refine lv_iinc (v := v16) (lv' := [(6, .int (v16)), (8, .int (v14)), (7, .int (v13)), (5, .int (x5_27)), (4, .int (r2)), (3, .int (r1)), (0, .ref (ad (40))), (1, .int (a0)), (2, .int (a1))]) hx hb dX5_findSlants_143 hl (k := 2) rfl ev16.symm (by decide) rfl (fun ls hl => ?_)
            refine lv_goto (tgt := 27) hx hb dX5_findSlants_146 (by decide) ?_
            exact ih27 (v16) (x5_27) Ia27 La27 _ _ ls hI hK (by first | omega | decide) (by first | omega | decide) (by omega) hM hS (lv_sub hl [0, 3, 4, 5, 6, 7, 8] rfl)
          · have hc15 := c15
            have q15 := q_ne hc15
            refine lv_iload hx hb dX5_findSlants_59 (lv_at hl 0 rfl) ?_
            refine lv_iload hx hb dX5_findSlants_61 (lv_at hl 4 rfl) ?_
            refine lv_icmp_eq (tgt := 143) hx hb dX5_findSlants_63 (by decide) (fun c17 => ?_) (fun c17 => ?_)
            · have hc17 := c17
              have q17 := q_eq hc17
              obtain ⟨v18, ev18⟩ : ∃ z : Int32, z = x6_27 + Int32.ofInt (1) := ⟨_, rfl⟩
              have tv18 := a_inc ev18 (by decide) (by omega) (by omega)
              refine lv_iinc (v := v18) (lv' := [(6, .int (v18)), (8, .int (v14)), (7, .int (v13)), (5, .int (x5_27)), (4, .int (r2)), (3, .int (r1)), (0, .ref (ad (40))), (1, .int (a0)), (2, .int (a1))]) hx hb dX5_findSlants_143 hl (k := 2) rfl ev18.symm (by decide) rfl (fun ls hl => ?_)
              refine lv_goto (tgt := 27) hx hb dX5_findSlants_146 (by decide) ?_
              exact ih27 (v18) (x5_27) Ia27 La27 _ _ ls hI hK (by first | omega | decide) (by first | omega | decide) (by omega) hM hS (lv_sub hl [0, 3, 4, 5, 6, 7, 8] rfl)
            · have hc17 := c17
              have q17 := q_ne hc17
              refine lv_aload_n hx hb dX5_findSlants_66 rfl (lv_at hl 6 rfl) ?_
              refine lv_iload_n hx hb dX5_findSlants_67 rfl (lv_at hl 7 rfl) ?_
              refine lv_iload hx hb dX5_findSlants_68 (lv_at hl 1 rfl) ?_
              refine lv_iload_n hx hb dX5_findSlants_70 rfl (lv_at hl 8 rfl) ?_
              refine lv_iload hx hb dX5_findSlants_71 (lv_at hl 0 rfl) ?_
              refine m_calli (m_runV (40) (As := [.int (a0), .int (v13), .int (a1), .int (v14)]) (rest := []) hx hb hml hown hts hE hM hS hA ce_X5_doesPairMatter tb_1051 (V_X5_doesPairMatter l D A ad ns Ia27 La27 G (a0) (v13) (a1) (v14) hG hI (by first | omega | decide) (by first | omega | decide) (by first | omega | decide) (by first | omega | decide)) rfl rfl ⟨Nat.le_of_ble_eq_true rfl, Nat.le_of_ble_eq_true rfl⟩ (hG.1 40 (by decide)) rfl rfl (by decide) rfl hl.1 rfl (Nat.le_of_ble_eq_true rfl) dX5_findSlants_73 ⟨Nat.le_of_ble_eq_true rfl, Nat.le_of_ble_eq_true rfl⟩) hS (fun r19 u H locs hw hM hS => ?_)
              obtain ⟨rfl, xr19⟩ := hw
              have hM : Mem D A ad ns Ia27 La27 G H := hM
              refine lv_if_eq (tgt := 143) hx hb dX5_findSlants_76 (by decide) (fun c20 => ?_) (fun c20 => ?_)
              · have hc20 := c20
                have q20 := q_eq hc20
                obtain ⟨v21, ev21⟩ : ∃ z : Int32, z = x6_27 + Int32.ofInt (1) := ⟨_, rfl⟩
                have tv21 := a_inc ev21 (by decide) (by omega) (by omega)
                refine lv_iinc (v := v21) (lv' := [(6, .int (v21)), (8, .int (v14)), (7, .int (v13)), (5, .int (x5_27)), (4, .int (r2)), (3, .int (r1)), (0, .ref (ad (40))), (1, .int (a0)), (2, .int (a1))]) hx hb dX5_findSlants_143 hl (k := 2) rfl ev21.symm (by decide) rfl (fun ls hl => ?_)
                refine lv_goto (tgt := 27) hx hb dX5_findSlants_146 (by decide) ?_
                exact ih27 (v21) (x5_27) Ia27 La27 _ _ ls hI hK (by first | omega | decide) (by first | omega | decide) (by omega) hM hS (lv_sub hl [0, 3, 4, 5, 6, 7, 8] rfl)
              · have hc20 := c20
                have q20 := q_ne hc20
                refine lv_aload_n hx hb dX5_findSlants_79 rfl (lv_at hl 6 rfl) ?_
                refine m_getr (40) 1 (100) hx hb hts hown hE oc5 hM (hG.1 40 (by decide)) rfl (by decide) rfl (hG.2 (40, 1, 100) (by decide)) (by decide) tb_235 dX5_findSlants_80 ?_
                refine lv_iload_n hx hb dX5_findSlants_83 rfl (lv_at hl 7 rfl) ?_
                refine lv_iconst (v := (2)) hx hb dX5_findSlants_84 (by decide) ?_
                refine lv_iload hx hb dX5_findSlants_85 (lv_at hl 1 rfl) ?_
                refine m_callv (m_runV (100) (As := [.int (a0), .int (2), .int (v13)]) (rest := []) hx hb hml hown hts hE hM hS hA ce_X8_setMirror tb_1019 (V_X8_setMirror_100 l D A ad ns Ia27 La27 G (a0) (2) (v13) hG hI (by first | omega | decide) (by first | omega | decide)) rfl rfl ⟨Nat.le_of_ble_eq_true rfl, Nat.le_of_ble_eq_true rfl⟩ (hG.1 100 (by decide)) rfl rfl (by decide) rfl hl.1 rfl (Nat.le_of_ble_eq_true rfl) dX5_findSlants_87 ⟨Nat.le_of_ble_eq_true rfl, Nat.le_of_ble_eq_true rfl⟩) hS (fun u H locs hw hM hS => ?_)
                obtain ⟨I22, L23, rfl, hI, hkI22⟩ := hw
                have hM : Mem D A ad ns I22 L23 G H := hM
                have hK := hK.trans hkI22 rfl
                refine lv_aload_n hx hb dX5_findSlants_90 rfl (lv_at hl 6 rfl) ?_
                refine m_getr (40) 1 (100) hx hb hts hown hE oc5 hM (hG.1 40 (by decide)) rfl (by decide) rfl (hG.2 (40, 1, 100) (by decide)) (by decide) tb_235 dX5_findSlants_91 ?_
                refine lv_iload_n hx hb dX5_findSlants_94 rfl (lv_at hl 8 rfl) ?_
                refine lv_iconst (v := (2)) hx hb dX5_findSlants_95 (by decide) ?_
                refine lv_iload hx hb dX5_findSlants_96 (lv_at hl 0 rfl) ?_
                refine m_callv (m_runV (100) (As := [.int (a1), .int (2), .int (v14)]) (rest := []) hx hb hml hown hts hE hM hS hA ce_X8_setMirror tb_1019 (V_X8_setMirror_100 l D A ad ns I22 L23 G (a1) (2) (v14) hG hI (by first | omega | decide) (by first | omega | decide)) rfl rfl ⟨Nat.le_of_ble_eq_true rfl, Nat.le_of_ble_eq_true rfl⟩ (hG.1 100 (by decide)) rfl rfl (by decide) rfl hl.1 rfl (Nat.le_of_ble_eq_true rfl) dX5_findSlants_98 ⟨Nat.le_of_ble_eq_true rfl, Nat.le_of_ble_eq_true rfl⟩) hS (fun u H locs hw hM hS => ?_)
                obtain ⟨I24, L25, rfl, hI, hkI24⟩ := hw
                have hM : Mem D A ad ns I24 L25 G H := hM
                have hK := hK.trans hkI24 rfl
                refine lv_aload_n hx hb dX5_findSlants_101 rfl (lv_at hl 6 rfl) ?_
                refine m_calli (m_runV (40) (As := []) (rest := []) hx hb hml hown hts hE hM hS hA ce_X5_isEnough tb_1024 (V_X5_isEnough l D A ad ns I24 L25 G hG hI (by rw [hK.get 40 5 rfl]; exact hlit.kp hK rfl)) rfl rfl ⟨Nat.le_of_ble_eq_true rfl, Nat.le_of_ble_eq_true rfl⟩ (hG.1 40 (by decide)) rfl rfl (by decide) rfl hl.1 rfl (Nat.le_of_ble_eq_true rfl) dX5_findSlants_102 ⟨Nat.le_of_ble_eq_true rfl, Nat.le_of_ble_eq_true rfl⟩) hS (fun r26 u H locs hw hM hS => ?_)
                obtain ⟨I27, L28, rfl, hI, hkI27, xr26⟩ := hw
                have hM : Mem D A ad ns I27 L28 G H := hM
                have hK := hK.trans hkI27 rfl
                refine lv_istore (lv' := [(5, .int (r26)), (8, .int (v14)), (7, .int (v13)), (6, .int (x6_27)), (4, .int (r2)), (3, .int (r1)), (0, .ref (ad (40))), (1, .int (a0)), (2, .int (a1))]) hx hb dX5_findSlants_105 hl (by decide) rfl (fun ls hl => ?_)
                refine lv_aload_n hx hb dX5_findSlants_107 rfl (lv_at hl 6 rfl) ?_
                refine m_getr (40) 0 (41) hx hb hts hown hE oc5 hM (hG.1 40 (by decide)) rfl (by decide) rfl (hG.2 (40, 0, 41) (by decide)) (by decide) tb_233 dX5_findSlants_108 ?_
                refine lv_iconst (v := (2)) hx hb dX5_findSlants_111 (by decide) ?_
                refine lv_iload hx hb dX5_findSlants_112 (lv_at hl 0 rfl) ?_
                refine lv_if_eq (tgt := 122) hx hb dX5_findSlants_114 (by decide) (fun c29 => ?_) (fun c29 => ?_)
                · have hc29 := c29
                  have q29 := q_eq hc29
                  refine lv_bipush (v := (-2)) hx hb dX5_findSlants_122 (by decide) ?_
                  refine m_iast (41) hx hb hE hM hS (hG.1 41 (by decide)) rfl (vp_in_iff.mpr (by decide)) dX5_findSlants_124 (fun H locs I30 eI30 hM hS => ?_)
                  rw [show (2 : Int32).toNatClampNeg = 2 from rfl] at eI30
                  subst eI30
                  have hI := hI.putF (n := 41) (k := 2) (v := (-2 : Int32)) rfl
                  have hK := hK.put (n := 41) (k := 2) (v := (-2 : Int32)) (by first | rfl | simp [inR])
                  refine lv_aload_n hx hb dX5_findSlants_125 rfl (lv_at hl 6 rfl) ?_
                  refine m_getr (40) 0 (41) hx hb hts hown hE oc5 hM (hG.1 40 (by decide)) rfl (by decide) rfl (hG.2 (40, 0, 41) (by decide)) (by decide) tb_233 dX5_findSlants_126 ?_
                  refine lv_iconst (v := (4)) hx hb dX5_findSlants_129 (by decide) ?_
                  refine lv_iload hx hb dX5_findSlants_130 (lv_at hl 0 rfl) ?_
                  refine lv_if_eq (tgt := 140) hx hb dX5_findSlants_132 (by decide) (fun c31 => ?_) (fun c31 => ?_)
                  · have hc31 := c31
                    have q31 := q_eq hc31
                    refine lv_bipush (v := (-2)) hx hb dX5_findSlants_140 (by decide) ?_
                    refine m_iast (41) hx hb hE hM hS (hG.1 41 (by decide)) rfl (vp_in_iff.mpr (by decide)) dX5_findSlants_142 (fun H locs I32 eI32 hM hS => ?_)
                    rw [show (4 : Int32).toNatClampNeg = 4 from rfl] at eI32
                    subst eI32
                    have hI := hI.putF (n := 41) (k := 4) (v := (-2 : Int32)) rfl
                    have hK := hK.put (n := 41) (k := 4) (v := (-2 : Int32)) (by first | rfl | simp [inR])
                    obtain ⟨v33, ev33⟩ : ∃ z : Int32, z = x6_27 + Int32.ofInt (1) := ⟨_, rfl⟩
                    have tv33 := a_inc ev33 (by decide) (by omega) (by omega)
                    refine lv_iinc (v := v33) (lv' := [(6, .int (v33)), (5, .int (r26)), (8, .int (v14)), (7, .int (v13)), (4, .int (r2)), (3, .int (r1)), (0, .ref (ad (40))), (1, .int (a0)), (2, .int (a1))]) hx hb dX5_findSlants_143 hl (k := 3) rfl ev33.symm (by decide) rfl (fun ls hl => ?_)
                    refine lv_goto (tgt := 27) hx hb dX5_findSlants_146 (by decide) ?_
                    exact ih27 (v33) (r26) (u2 (u2 I27 (41) 2 ((-2 : Int32))) (41) 4 ((-2 : Int32))) L28 _ _ ls hI hK (by first | omega | decide) (by first | omega | decide) (by omega) hM hS (lv_sub hl [0, 1, 4, 5, 6, 7, 8] rfl)
                  · have hc31 := c31
                    have q31 := q_ne hc31
                    refine lv_iload hx hb dX5_findSlants_135 (lv_at hl 1 rfl) ?_
                    refine lv_goto (tgt := 142) hx hb dX5_findSlants_137 (by decide) ?_
                    refine m_iast (41) hx hb hE hM hS (hG.1 41 (by decide)) rfl (vp_in_iff.mpr (by decide)) dX5_findSlants_142 (fun H locs I34 eI34 hM hS => ?_)
                    rw [show (4 : Int32).toNatClampNeg = 4 from rfl] at eI34
                    subst eI34
                    have hI := hI.putF (n := 41) (k := 4) (v := v14) rfl
                    have hK := hK.put (n := 41) (k := 4) (v := v14) (by first | rfl | simp [inR])
                    obtain ⟨v35, ev35⟩ : ∃ z : Int32, z = x6_27 + Int32.ofInt (1) := ⟨_, rfl⟩
                    have tv35 := a_inc ev35 (by decide) (by omega) (by omega)
                    refine lv_iinc (v := v35) (lv' := [(6, .int (v35)), (5, .int (r26)), (8, .int (v14)), (7, .int (v13)), (4, .int (r2)), (3, .int (r1)), (0, .ref (ad (40))), (1, .int (a0)), (2, .int (a1))]) hx hb dX5_findSlants_143 hl (k := 3) rfl ev35.symm (by decide) rfl (fun ls hl => ?_)
                    refine lv_goto (tgt := 27) hx hb dX5_findSlants_146 (by decide) ?_
                    exact ih27 (v35) (r26) (u2 (u2 I27 (41) 2 ((-2 : Int32))) (41) 4 (v14)) L28 _ _ ls hI hK (by first | omega | decide) (by first | omega | decide) (by omega) hM hS (lv_sub hl [0, 1, 4, 5, 6, 7, 8] rfl)
                · have hc29 := c29
                  have q29 := q_ne hc29
                  refine lv_iload hx hb dX5_findSlants_117 (lv_at hl 2 rfl) ?_
                  refine lv_goto (tgt := 124) hx hb dX5_findSlants_119 (by decide) ?_
                  refine m_iast (41) hx hb hE hM hS (hG.1 41 (by decide)) rfl (vp_in_iff.mpr (by decide)) dX5_findSlants_124 (fun H locs I36 eI36 hM hS => ?_)
                  rw [show (2 : Int32).toNatClampNeg = 2 from rfl] at eI36
                  subst eI36
                  have hI := hI.putF (n := 41) (k := 2) (v := v13) rfl
                  have hK := hK.put (n := 41) (k := 2) (v := v13) (by first | rfl | simp [inR])
                  refine lv_aload_n hx hb dX5_findSlants_125 rfl (lv_at hl 6 rfl) ?_
                  refine m_getr (40) 0 (41) hx hb hts hown hE oc5 hM (hG.1 40 (by decide)) rfl (by decide) rfl (hG.2 (40, 0, 41) (by decide)) (by decide) tb_233 dX5_findSlants_126 ?_
                  refine lv_iconst (v := (4)) hx hb dX5_findSlants_129 (by decide) ?_
                  refine lv_iload hx hb dX5_findSlants_130 (lv_at hl 0 rfl) ?_
                  refine lv_if_eq (tgt := 140) hx hb dX5_findSlants_132 (by decide) (fun c37 => ?_) (fun c37 => ?_)
                  · have hc37 := c37
                    have q37 := q_eq hc37
                    refine lv_bipush (v := (-2)) hx hb dX5_findSlants_140 (by decide) ?_
                    refine m_iast (41) hx hb hE hM hS (hG.1 41 (by decide)) rfl (vp_in_iff.mpr (by decide)) dX5_findSlants_142 (fun H locs I38 eI38 hM hS => ?_)
                    rw [show (4 : Int32).toNatClampNeg = 4 from rfl] at eI38
                    subst eI38
                    have hI := hI.putF (n := 41) (k := 4) (v := (-2 : Int32)) rfl
                    have hK := hK.put (n := 41) (k := 4) (v := (-2 : Int32)) (by first | rfl | simp [inR])
                    obtain ⟨v39, ev39⟩ : ∃ z : Int32, z = x6_27 + Int32.ofInt (1) := ⟨_, rfl⟩
                    have tv39 := a_inc ev39 (by decide) (by omega) (by omega)
                    refine lv_iinc (v := v39) (lv' := [(6, .int (v39)), (5, .int (r26)), (8, .int (v14)), (7, .int (v13)), (4, .int (r2)), (3, .int (r1)), (0, .ref (ad (40))), (1, .int (a0)), (2, .int (a1))]) hx hb dX5_findSlants_143 hl (k := 3) rfl ev39.symm (by decide) rfl (fun ls hl => ?_)
                    refine lv_goto (tgt := 27) hx hb dX5_findSlants_146 (by decide) ?_
                    exact ih27 (v39) (r26) (u2 (u2 I27 (41) 2 (v13)) (41) 4 ((-2 : Int32))) L28 _ _ ls hI hK (by first | omega | decide) (by first | omega | decide) (by omega) hM hS (lv_sub hl [0, 1, 4, 5, 6, 7, 8] rfl)
                  · have hc37 := c37
                    have q37 := q_ne hc37
                    refine lv_iload hx hb dX5_findSlants_135 (lv_at hl 1 rfl) ?_
                    refine lv_goto (tgt := 142) hx hb dX5_findSlants_137 (by decide) ?_
                    refine m_iast (41) hx hb hE hM hS (hG.1 41 (by decide)) rfl (vp_in_iff.mpr (by decide)) dX5_findSlants_142 (fun H locs I40 eI40 hM hS => ?_)
                    rw [show (4 : Int32).toNatClampNeg = 4 from rfl] at eI40
                    subst eI40
                    have hI := hI.putF (n := 41) (k := 4) (v := v14) rfl
                    have hK := hK.put (n := 41) (k := 4) (v := v14) (by first | rfl | simp [inR])
                    obtain ⟨v41, ev41⟩ : ∃ z : Int32, z = x6_27 + Int32.ofInt (1) := ⟨_, rfl⟩
                    have tv41 := a_inc ev41 (by decide) (by omega) (by omega)
                    refine lv_iinc (v := v41) (lv' := [(6, .int (v41)), (5, .int (r26)), (8, .int (v14)), (7, .int (v13)), (4, .int (r2)), (3, .int (r1)), (0, .ref (ad (40))), (1, .int (a0)), (2, .int (a1))]) hx hb dX5_findSlants_143 hl (k := 3) rfl ev41.symm (by decide) rfl (fun ls hl => ?_)
                    refine lv_goto (tgt := 27) hx hb dX5_findSlants_146 (by decide) ?_
                    exact ih27 (v41) (r26) (u2 (u2 I27 (41) 2 (v13)) (41) 4 (v14)) L28 _ _ ls hI hK (by first | omega | decide) (by first | omega | decide) (by omega) hM hS (lv_sub hl [0, 1, 4, 5, 6, 7, 8] rfl)
  exact loop27 (_ + 1) (0) (0) I L _ _ ls hI hK (by first | omega | decide) (by first | omega | decide) (Nat.lt_succ_self _) hM hS (lv_sub hl [0, 1, 2, 3, 4, 5, 6] rfl)
theorem dX5_findOne_0 : decode cX5_findOne 0 = .ok (.iconst 0, 1) := by decide +kernel
theorem dX5_findOne_1 : decode cX5_findOne 1 = .ok (.istore_n 1, 1) := by decide +kernel
theorem dX5_findOne_2 : decode cX5_findOne 2 = .ok (.iload_n 1, 1) := by decide +kernel
theorem dX5_findOne_3 : decode cX5_findOne 3 = .ok (.aload_n 0, 1) := by decide +kernel
theorem dX5_findOne_4 : decode cX5_findOne 4 = .ok (.getfield 21, 3) := by decide +kernel
theorem dX5_findOne_7 : decode cX5_findOne 7 = .ok (.getfield 75, 3) := by decide +kernel
theorem dX5_findOne_10 : decode cX5_findOne 10 = .ok (.if_icmp .ge 96, 3) := by decide +kernel
theorem dX5_findOne_13 : decode cX5_findOne 13 = .ok (.aload_n 0, 1) := by decide +kernel
theorem dX5_findOne_14 : decode cX5_findOne 14 = .ok (.getfield 21, 3) := by decide +kernel
theorem dX5_findOne_17 : decode cX5_findOne 17 = .ok (.iload_n 1, 1) := by decide +kernel
theorem dX5_findOne_18 : decode cX5_findOne 18 = .ok (.iconst 2, 1) := by decide +kernel
theorem dX5_findOne_19 : decode cX5_findOne 19 = .ok (.invokevirtual 36, 3) := by decide +kernel
theorem dX5_findOne_22 : decode cX5_findOne 22 = .ok (.istore_n 2, 1) := by decide +kernel
theorem dX5_findOne_23 : decode cX5_findOne 23 = .ok (.iconst 0, 1) := by decide +kernel
theorem dX5_findOne_24 : decode cX5_findOne 24 = .ok (.istore_n 3, 1) := by decide +kernel
theorem dX5_findOne_25 : decode cX5_findOne 25 = .ok (.iload_n 3, 1) := by decide +kernel
theorem dX5_findOne_26 : decode cX5_findOne 26 = .ok (.bipush 8, 2) := by decide +kernel
theorem dX5_findOne_28 : decode cX5_findOne 28 = .ok (.if_icmp .ge 72, 3) := by decide +kernel
theorem dX5_findOne_31 : decode cX5_findOne 31 = .ok (.aload_n 0, 1) := by decide +kernel
theorem dX5_findOne_32 : decode cX5_findOne 32 = .ok (.getfield 18, 3) := by decide +kernel
theorem dX5_findOne_35 : decode cX5_findOne 35 = .ok (.iload_n 1, 1) := by decide +kernel
theorem dX5_findOne_36 : decode cX5_findOne 36 = .ok (.bipush 8, 2) := by decide +kernel
theorem dX5_findOne_38 : decode cX5_findOne 38 = .ok (.imul, 1) := by decide +kernel
theorem dX5_findOne_39 : decode cX5_findOne 39 = .ok (.iload_n 3, 1) := by decide +kernel
theorem dX5_findOne_40 : decode cX5_findOne 40 = .ok (.iadd, 1) := by decide +kernel
theorem dX5_findOne_41 : decode cX5_findOne 41 = .ok (.aload_n 0, 1) := by decide +kernel
theorem dX5_findOne_42 : decode cX5_findOne 42 = .ok (.getfield 72, 3) := by decide +kernel
theorem dX5_findOne_45 : decode cX5_findOne 45 = .ok (.iastore, 1) := by decide +kernel
theorem dX5_findOne_46 : decode cX5_findOne 46 = .ok (.aload_n 0, 1) := by decide +kernel
theorem dX5_findOne_47 : decode cX5_findOne 47 = .ok (.getfield 72, 3) := by decide +kernel
theorem dX5_findOne_50 : decode cX5_findOne 50 = .ok (.iload_n 1, 1) := by decide +kernel
theorem dX5_findOne_51 : decode cX5_findOne 51 = .ok (.invokestatic 78, 3) := by decide +kernel
theorem dX5_findOne_54 : decode cX5_findOne 54 = .ok (.ifCond .eq 40, 3) := by decide +kernel
theorem dX5_findOne_57 : decode cX5_findOne 57 = .ok (.iload_n 3, 1) := by decide +kernel
theorem dX5_findOne_58 : decode cX5_findOne 58 = .ok (.iload_n 2, 1) := by decide +kernel
theorem dX5_findOne_59 : decode cX5_findOne 59 = .ok (.if_icmp .eq 35, 3) := by decide +kernel
theorem dX5_findOne_62 : decode cX5_findOne 62 = .ok (.aload_n 0, 1) := by decide +kernel
theorem dX5_findOne_63 : decode cX5_findOne 63 = .ok (.iload_n 1, 1) := by decide +kernel
theorem dX5_findOne_64 : decode cX5_findOne 64 = .ok (.iload_n 3, 1) := by decide +kernel
theorem dX5_findOne_65 : decode cX5_findOne 65 = .ok (.invokevirtual 82, 3) := by decide +kernel
theorem dX5_findOne_68 : decode cX5_findOne 68 = .ok (.ifCond .eq 26, 3) := by decide +kernel
theorem dX5_findOne_71 : decode cX5_findOne 71 = .ok (.aload_n 0, 1) := by decide +kernel
theorem dX5_findOne_72 : decode cX5_findOne 72 = .ok (.getfield 11, 3) := by decide +kernel
theorem dX5_findOne_75 : decode cX5_findOne 75 = .ok (.iconst 0, 1) := by decide +kernel
theorem dX5_findOne_76 : decode cX5_findOne 76 = .ok (.iconst 1, 1) := by decide +kernel
theorem dX5_findOne_77 : decode cX5_findOne 77 = .ok (.iastore, 1) := by decide +kernel
theorem dX5_findOne_78 : decode cX5_findOne 78 = .ok (.aload_n 0, 1) := by decide +kernel
theorem dX5_findOne_79 : decode cX5_findOne 79 = .ok (.getfield 11, 3) := by decide +kernel
theorem dX5_findOne_82 : decode cX5_findOne 82 = .ok (.iconst 1, 1) := by decide +kernel
theorem dX5_findOne_83 : decode cX5_findOne 83 = .ok (.iload_n 1, 1) := by decide +kernel
theorem dX5_findOne_84 : decode cX5_findOne 84 = .ok (.iastore, 1) := by decide +kernel
theorem dX5_findOne_85 : decode cX5_findOne 85 = .ok (.aload_n 0, 1) := by decide +kernel
theorem dX5_findOne_86 : decode cX5_findOne 86 = .ok (.getfield 11, 3) := by decide +kernel
theorem dX5_findOne_89 : decode cX5_findOne 89 = .ok (.iconst 2, 1) := by decide +kernel
theorem dX5_findOne_90 : decode cX5_findOne 90 = .ok (.iload_n 3, 1) := by decide +kernel
theorem dX5_findOne_91 : decode cX5_findOne 91 = .ok (.iastore, 1) := by decide +kernel
theorem dX5_findOne_92 : decode cX5_findOne 92 = .ok (.iconst 1, 1) := by decide +kernel
theorem dX5_findOne_93 : decode cX5_findOne 93 = .ok (.ireturn, 1) := by decide +kernel
theorem dX5_findOne_94 : decode cX5_findOne 94 = .ok (.iinc 3 1, 3) := by decide +kernel
theorem dX5_findOne_97 : decode cX5_findOne 97 = .ok (.goto (-72), 3) := by decide +kernel
theorem dX5_findOne_100 : decode cX5_findOne 100 = .ok (.iinc 1 1, 3) := by decide +kernel
theorem dX5_findOne_103 : decode cX5_findOne 103 = .ok (.goto (-101), 3) := by decide +kernel
theorem dX5_findOne_106 : decode cX5_findOne 106 = .ok (.iconst 0, 1) := by decide +kernel
theorem dX5_findOne_107 : decode cX5_findOne 107 = .ok (.ireturn, 1) := by decide +kernel
theorem ce_X5_findOne : CeV RX5 yX5_findOne cX5_findOne 4 (some .boolean) 0 := ⟨tb_1033, tb_1034, tb_6, tb_1035, rfl, by decide, by decide, by decide +kernel⟩
set_option maxHeartbeats 4000000 in
set_option maxRecDepth 20000 in
theorem V_X5_findOne (l : Launch) (D : va_G) (A : Nat → Prop) (ad : Nat → Nat) (ns : List Nat) (I : MI) (L : ML) (G : MG) (hG : SGC ns G) (hI : INV I) (hlit : Lit 100 I (I 40 5)) : Met l yX5_findOne (wd yX5_findOne cX5_findOne 4 (some .boolean)) ({ frames := 6, cells := 0, slots := 0, locals := 152 }) (va_Pc [.ref (ad (40))] (PM D A ad ns I L G)) (va_Qi (fun r u => ∃ I2 L2, u = (ad, ns, I2, L2, G) ∧ INV I2 ∧ Kp [(11, 15), (43, 44), (107, 108)] [(10, 2), (10, 3), (10, 4), (10, 5), (10, 6), (10, 7), (10, 11), (10, 12), (41, 0), (41, 1), (41, 2)] I I2 ∧ (0 ≤ r.toInt ∧ r.toInt ≤ 1)) (BM D A) A) 0 0 A := by
  refine m_ofW (by decide) (Nat.le_of_ble_eq_true rfl) ?_
  intro p e s m below meth c ls args hC hE hM hA hS hl
  obtain ⟨hx, hb, hml, hown, hts, hr, hlocks, hin⟩ := hC
  have k0 : (0 : Int32).toInt = 0 := by decide
  have k1 : (1 : Int32).toInt = 1 := by decide
  have k2 : (2 : Int32).toInt = 2 := by decide
  have k8 : (8 : Int32).toInt = 8 := by decide
  have hK : Kp [(11, 15), (43, 44), (107, 108)] [(10, 2), (10, 3), (10, 4), (10, 5), (10, 6), (10, 7), (10, 11), (10, 12), (41, 0), (41, 1), (41, 2)] I I := Kp.rf
  have hl : lv_has ls 4 [(0, .ref (ad (40)))] := hl
  refine lv_iconst (v := (0)) hx hb dX5_findOne_0 (by decide) ?_
  refine lv_istore_n (lv' := [(1, .int (0)), (0, .ref (ad (40)))]) hx hb dX5_findOne_1 rfl hl (by decide) rfl (fun ls hl => ?_)
  have loop2 : ∀ (n : Nat) (x1_2 : Int32) (Ia2 : MI) (La2 : ML) (H : Heap) (locs : List Loc) (ls : Array Slot), INV Ia2 → Kp [(11, 15), (43, 44), (107, 108)] [(10, 2), (10, 3), (10, 4), (10, 5), (10, 6), (10, 7), (10, 11), (10, 12), (41, 0), (41, 1), (41, 2)] I Ia2 → (0 ≤ x1_2.toInt ∧ x1_2.toInt ≤ 24) → (24 - x1_2.toInt).toNat < n → Mem D A ad ns Ia2 La2 G H → va_S A s.heap H locs → lv_has ls 4 [(1, .int (x1_2)), (0, .ref (ad (40)))] → W p l e ({ frames := 6, cells := 0, slots := 0, locals := 152 } : Room) s m args below meth c H locs 0 0 (MQ below (va_Qi (fun r u => ∃ I2 L2, u = (ad, ns, I2, L2, G) ∧ INV I2 ∧ Kp [(11, 15), (43, 44), (107, 108)] [(10, 2), (10, 3), (10, 4), (10, 5), (10, 6), (10, 7), (10, 11), (10, 12), (41, 0), (41, 1), (41, 2)] I I2 ∧ (0 ≤ r.toInt ∧ r.toInt ≤ 1)) (BM D A) A) args s 0 0 A) (F0 m 2 ls []) := by
    intro n
    induction n with
    | zero =>
      intro x1_2 Ia2 La2 H locs ls hI hK hr1_2 hmu
      exact absurd hmu (Nat.not_lt_zero _)
    | succ n ih2 =>
      intro x1_2 Ia2 La2 H locs ls hI hK hr1_2 hmu2 hM hS hl
      refine lv_iload_n hx hb dX5_findOne_2 rfl (lv_at hl 0 rfl) ?_
      refine lv_aload_n hx hb dX5_findOne_3 rfl (lv_at hl 1 rfl) ?_
      refine m_getr (40) 1 (100) hx hb hts hown hE oc5 hM (hG.1 40 (by decide)) rfl (by decide) rfl (hG.2 (40, 1, 100) (by decide)) (by decide) tb_235 dX5_findOne_4 ?_
      refine m_geti (100) 8 hx hb hts hown hE oc8 hM (hG.1 100 (by decide)) rfl (by decide) rfl tb_61 dX5_findOne_7 ?_
      have g1 := hI.get (100) 8 (lo := 0) (hi := 24) rfl
      refine lv_icmp_ge (tgt := 106) hx hb dX5_findOne_10 (by decide) (fun c2 => ?_) (fun c2 => ?_)
      · have hc2 := c2
        have q2 := q_le hc2
        refine lv_iconst (v := (0)) hx hb dX5_findOne_106 (by decide) ?_
        exact m_zret hx hb hr rfl hlocks hM hS (Nat.le_of_ble_eq_true rfl) (Nat.le_of_ble_eq_true rfl) ⟨_, _, rfl, hI, hK, (by first | omega | decide)⟩ dX5_findOne_107
      · have hc2 := c2
        have q2 := q_nle hc2
        refine lv_aload_n hx hb dX5_findOne_13 rfl (lv_at hl 1 rfl) ?_
        refine m_getr (40) 1 (100) hx hb hts hown hE oc5 hM (hG.1 40 (by decide)) rfl (by decide) rfl (hG.2 (40, 1, 100) (by decide)) (by decide) tb_235 dX5_findOne_14 ?_
        refine lv_iload_n hx hb dX5_findOne_17 rfl (lv_at hl 0 rfl) ?_
        refine lv_iconst (v := (2)) hx hb dX5_findOne_18 (by decide) ?_
        refine m_calli (m_runV (100) (As := [.int (x1_2), .int (2)]) (rest := []) hx hb hml hown hts hE hM hS hA ce_X8_ofMirror tb_1016 (V_X8_ofMirror_100 l D A ad ns Ia2 La2 G (x1_2) (2) hG hI (by first | omega | decide) (by first | omega | decide)) rfl rfl ⟨Nat.le_of_ble_eq_true rfl, Nat.le_of_ble_eq_true rfl⟩ (hG.1 100 (by decide)) rfl rfl (by decide) rfl hl.1 rfl (Nat.le_of_ble_eq_true rfl) dX5_findOne_19 ⟨Nat.le_of_ble_eq_true rfl, Nat.le_of_ble_eq_true rfl⟩) hS (fun r3 u H locs hw hM hS => ?_)
        obtain ⟨rfl, xr3⟩ := hw
        have hM : Mem D A ad ns Ia2 La2 G H := hM
        refine lv_istore_n (lv' := [(2, .int (r3)), (1, .int (x1_2)), (0, .ref (ad (40)))]) hx hb dX5_findOne_22 rfl hl (by decide) rfl (fun ls hl => ?_)
        refine lv_iconst (v := (0)) hx hb dX5_findOne_23 (by decide) ?_
        refine lv_istore_n (lv' := [(3, .int (0)), (2, .int (r3)), (1, .int (x1_2)), (0, .ref (ad (40)))]) hx hb dX5_findOne_24 rfl hl (by decide) rfl (fun ls hl => ?_)
        have loop25 : ∀ (n : Nat) (x3_25 : Int32) (Ia25 : MI) (La25 : ML) (H : Heap) (locs : List Loc) (ls : Array Slot), INV Ia25 → Kp [(11, 15), (43, 44), (107, 108)] [(10, 2), (10, 3), (10, 4), (10, 5), (10, 6), (10, 7), (10, 11), (10, 12), (41, 0), (41, 1), (41, 2)] I Ia25 → (0 ≤ x3_25.toInt ∧ x3_25.toInt ≤ 8) → (8 - x3_25.toInt).toNat < n → Mem D A ad ns Ia25 La25 G H → va_S A s.heap H locs → lv_has ls 4 [(3, .int (x3_25)), (2, .int (r3)), (1, .int (x1_2)), (0, .ref (ad (40)))] → W p l e ({ frames := 6, cells := 0, slots := 0, locals := 152 } : Room) s m args below meth c H locs 0 0 (MQ below (va_Qi (fun r u => ∃ I2 L2, u = (ad, ns, I2, L2, G) ∧ INV I2 ∧ Kp [(11, 15), (43, 44), (107, 108)] [(10, 2), (10, 3), (10, 4), (10, 5), (10, 6), (10, 7), (10, 11), (10, 12), (41, 0), (41, 1), (41, 2)] I I2 ∧ (0 ≤ r.toInt ∧ r.toInt ≤ 1)) (BM D A) A) args s 0 0 A) (F0 m 25 ls []) := by
          intro n
          induction n with
          | zero =>
            intro x3_25 Ia25 La25 H locs ls hI hK hr3_25 hmu
            exact absurd hmu (Nat.not_lt_zero _)
          | succ n ih25 =>
            intro x3_25 Ia25 La25 H locs ls hI hK hr3_25 hmu25 hM hS hl
            refine lv_iload_n hx hb dX5_findOne_25 rfl (lv_at hl 0 rfl) ?_
            refine lv_bipush (v := (8)) hx hb dX5_findOne_26 (by decide) ?_
            refine lv_icmp_ge (tgt := 100) hx hb dX5_findOne_28 (by decide) (fun c4 => ?_) (fun c4 => ?_)
            · have hc4 := c4
              have q4 := q_le hc4
              obtain ⟨v5, ev5⟩ : ∃ z : Int32, z = x1_2 + Int32.ofInt (1) := ⟨_, rfl⟩
              have tv5 := a_inc ev5 (by decide) (by omega) (by omega)
              refine lv_iinc (v := v5) (lv' := [(1, .int (v5)), (3, .int (x3_25)), (2, .int (r3)), (0, .ref (ad (40)))]) hx hb dX5_findOne_100 hl (k := 2) rfl ev5.symm (by decide) rfl (fun ls hl => ?_)
              refine lv_goto (tgt := 2) hx hb dX5_findOne_103 (by decide) ?_
              exact ih2 (v5) Ia25 La25 _ _ ls hI hK (by first | omega | decide) (by omega) hM hS (lv_sub hl [0, 3] rfl)
            · have hc4 := c4
              have q4 := q_nle hc4
              refine lv_aload_n hx hb dX5_findOne_31 rfl (lv_at hl 3 rfl) ?_
              refine m_getr (40) 4 (43) hx hb hts hown hE oc5 hM (hG.1 40 (by decide)) rfl (by decide) rfl (hG.2 (40, 4, 43) (by decide)) (by decide) tb_238 dX5_findOne_32 ?_
              refine lv_iload_n hx hb dX5_findOne_35 rfl (lv_at hl 2 rfl) ?_
              refine lv_bipush (v := (8)) hx hb dX5_findOne_36 (by decide) ?_
              refine lv_imul hx hb dX5_findOne_38 ?_
              refine lv_topi (fun v6 ev6 => ?_)
              have tv6 := a_mulR (c := 8) ev6 (by decide) (by omega) (by omega)
              refine lv_iload_n hx hb dX5_findOne_39 rfl (lv_at hl 0 rfl) ?_
              refine lv_iadd hx hb dX5_findOne_40 ?_
              refine lv_topi (fun v7 ev7 => ?_)
              have tv7 := a_add ev7 (by omega) (by omega)
              refine lv_aload_n hx hb dX5_findOne_41 rfl (lv_at hl 3 rfl) ?_
              refine m_geti (40) 8 hx hb hts hown hE oc5 hM (hG.1 40 (by decide)) rfl (by decide) rfl tb_242 dX5_findOne_42 ?_
              refine m_iast (43) hx hb hE hM hS (hG.1 43 (by decide)) rfl (vp_in_iff.mpr (by omega)) dX5_findOne_45 (fun H locs I8 eI8 hM hS => ?_)
              subst eI8
              have hI := hI.putF (n := 43) (k := ((v7).toNatClampNeg)) (v := Ia25 (40) 8) rfl
              have hK := hK.put (n := 43) (k := ((v7).toNatClampNeg)) (v := Ia25 (40) 8) (by first | rfl | simp [inR])
              refine lv_aload_n hx hb dX5_findOne_46 rfl (lv_at hl 3 rfl) ?_
              refine m_geti (40) 8 hx hb hts hown hE oc5 hM (hG.1 40 (by decide)) rfl (by decide) rfl tb_242 dX5_findOne_47 ?_
              have z9 : (u2 Ia25 (43) ((v7).toNatClampNeg) (Ia25 (40) 8)) (40) 8 = Ia25 (40) 8 := (show (u2 Ia25 (43) ((v7).toNatClampNeg) (Ia25 (40) 8)) (40) 8 = Ia25 (40) 8 from by simp [u2_v])
              rw [z9]
              refine lv_iload_n hx hb dX5_findOne_50 rfl (lv_at hl 2 rfl) ?_
              refine m_calli (m_runS (As := [.int (Ia25 (40) 8), .int (x1_2)]) (rest := []) hx hb hml hown hts hE hM hS hA ce_X5_isIn tb_1036 (V_X5_isIn l D A ad ns (u2 Ia25 (43) ((v7).toNatClampNeg) (Ia25 (40) 8)) La25 G (Ia25 (40) 8) (x1_2) hI) rfl rfl ⟨Nat.le_of_ble_eq_true rfl, Nat.le_of_ble_eq_true rfl⟩  rfl hl.1 rfl (Nat.le_of_ble_eq_true rfl) dX5_findOne_51 ⟨Nat.le_of_ble_eq_true rfl, Nat.le_of_ble_eq_true rfl⟩) hS (fun r10 u H locs hw hM hS => ?_)
              obtain ⟨rfl, xr10⟩ := hw
              have hM : Mem D A ad ns (u2 Ia25 (43) ((v7).toNatClampNeg) (Ia25 (40) 8)) La25 G H := hM
              refine lv_if_eq (tgt := 94) hx hb dX5_findOne_54 (by decide) (fun c11 => ?_) (fun c11 => ?_)
              · have hc11 := c11
                have q11 := q_eq hc11
                obtain ⟨v12, ev12⟩ : ∃ z : Int32, z = x3_25 + Int32.ofInt (1) := ⟨_, rfl⟩
                have tv12 := a_inc ev12 (by decide) (by omega) (by omega)
                refine lv_iinc (v := v12) (lv' := [(3, .int (v12)), (2, .int (r3)), (1, .int (x1_2)), (0, .ref (ad (40)))]) hx hb dX5_findOne_94 hl (k := 0) rfl ev12.symm (by decide) rfl (fun ls hl => ?_)
                refine lv_goto (tgt := 25) hx hb dX5_findOne_97 (by decide) ?_
                exact ih25 (v12) (u2 Ia25 (43) ((v7).toNatClampNeg) (Ia25 (40) 8)) La25 _ _ ls hI hK (by first | omega | decide) (by omega) hM hS (lv_sub hl [0, 1, 2, 3] rfl)
              · have hc11 := c11
                have q11 := q_ne hc11
                refine lv_iload_n hx hb dX5_findOne_57 rfl (lv_at hl 0 rfl) ?_
                refine lv_iload_n hx hb dX5_findOne_58 rfl (lv_at hl 1 rfl) ?_
                refine lv_icmp_eq (tgt := 94) hx hb dX5_findOne_59 (by decide) (fun c13 => ?_) (fun c13 => ?_)
                · have hc13 := c13
                  have q13 := q_eq hc13
                  obtain ⟨v14, ev14⟩ : ∃ z : Int32, z = x3_25 + Int32.ofInt (1) := ⟨_, rfl⟩
                  have tv14 := a_inc ev14 (by decide) (by omega) (by omega)
                  refine lv_iinc (v := v14) (lv' := [(3, .int (v14)), (2, .int (r3)), (1, .int (x1_2)), (0, .ref (ad (40)))]) hx hb dX5_findOne_94 hl (k := 0) rfl ev14.symm (by decide) rfl (fun ls hl => ?_)
                  refine lv_goto (tgt := 25) hx hb dX5_findOne_97 (by decide) ?_
                  exact ih25 (v14) (u2 Ia25 (43) ((v7).toNatClampNeg) (Ia25 (40) 8)) La25 _ _ ls hI hK (by first | omega | decide) (by omega) hM hS (lv_sub hl [0, 1, 2, 3] rfl)
                · have hc13 := c13
                  have q13 := q_ne hc13
                  refine lv_aload_n hx hb dX5_findOne_62 rfl (lv_at hl 3 rfl) ?_
                  refine lv_iload_n hx hb dX5_findOne_63 rfl (lv_at hl 2 rfl) ?_
                  refine lv_iload_n hx hb dX5_findOne_64 rfl (lv_at hl 0 rfl) ?_
                  refine m_calli (m_runV (40) (As := [.int (x1_2), .int (x3_25)]) (rest := []) hx hb hml hown hts hE hM hS hA ce_X5_isMendedBy tb_1039 (V_X5_isMendedBy l D A ad ns (u2 Ia25 (43) ((v7).toNatClampNeg) (Ia25 (40) 8)) La25 G (x1_2) (x3_25) hG hI (by rw [hK.get 40 5 rfl]; exact hlit.kp hK rfl) (by first | omega | decide) (by first | omega | decide)) rfl rfl ⟨Nat.le_of_ble_eq_true rfl, Nat.le_of_ble_eq_true rfl⟩ (hG.1 40 (by decide)) rfl rfl (by decide) rfl hl.1 rfl (Nat.le_of_ble_eq_true rfl) dX5_findOne_65 ⟨Nat.le_of_ble_eq_true rfl, Nat.le_of_ble_eq_true rfl⟩) hS (fun r15 u H locs hw hM hS => ?_)
                  obtain ⟨I16, L17, rfl, hI, hkI16, xr15⟩ := hw
                  have hM : Mem D A ad ns I16 L17 G H := hM
                  have hK := hK.trans hkI16 rfl
                  refine lv_if_eq (tgt := 94) hx hb dX5_findOne_68 (by decide) (fun c18 => ?_) (fun c18 => ?_)
                  · have hc18 := c18
                    have q18 := q_eq hc18
                    obtain ⟨v19, ev19⟩ : ∃ z : Int32, z = x3_25 + Int32.ofInt (1) := ⟨_, rfl⟩
                    have tv19 := a_inc ev19 (by decide) (by omega) (by omega)
                    refine lv_iinc (v := v19) (lv' := [(3, .int (v19)), (2, .int (r3)), (1, .int (x1_2)), (0, .ref (ad (40)))]) hx hb dX5_findOne_94 hl (k := 0) rfl ev19.symm (by decide) rfl (fun ls hl => ?_)
                    refine lv_goto (tgt := 25) hx hb dX5_findOne_97 (by decide) ?_
                    exact ih25 (v19) I16 L17 _ _ ls hI hK (by first | omega | decide) (by omega) hM hS (lv_sub hl [0, 1, 2, 3] rfl)
                  · have hc18 := c18
                    have q18 := q_ne hc18
                    refine lv_aload_n hx hb dX5_findOne_71 rfl (lv_at hl 3 rfl) ?_
                    refine m_getr (40) 0 (41) hx hb hts hown hE oc5 hM (hG.1 40 (by decide)) rfl (by decide) rfl (hG.2 (40, 0, 41) (by decide)) (by decide) tb_233 dX5_findOne_72 ?_
                    refine lv_iconst (v := (0)) hx hb dX5_findOne_75 (by decide) ?_
                    refine lv_iconst (v := (1)) hx hb dX5_findOne_76 (by decide) ?_
                    refine m_iast (41) hx hb hE hM hS (hG.1 41 (by decide)) rfl (vp_in_iff.mpr (by decide)) dX5_findOne_77 (fun H locs I20 eI20 hM hS => ?_)
                    rw [show (0 : Int32).toNatClampNeg = 0 from rfl] at eI20
                    subst eI20
                    have hI := hI.putF (n := 41) (k := 0) (v := 1) rfl
                    have hK := hK.put (n := 41) (k := 0) (v := 1) (by first | rfl | simp [inR])
                    refine lv_aload_n hx hb dX5_findOne_78 rfl (lv_at hl 3 rfl) ?_
                    refine m_getr (40) 0 (41) hx hb hts hown hE oc5 hM (hG.1 40 (by decide)) rfl (by decide) rfl (hG.2 (40, 0, 41) (by decide)) (by decide) tb_233 dX5_findOne_79 ?_
                    refine lv_iconst (v := (1)) hx hb dX5_findOne_82 (by decide) ?_
                    refine lv_iload_n hx hb dX5_findOne_83 rfl (lv_at hl 2 rfl) ?_
                    refine m_iast (41) hx hb hE hM hS (hG.1 41 (by decide)) rfl (vp_in_iff.mpr (by decide)) dX5_findOne_84 (fun H locs I21 eI21 hM hS => ?_)
                    rw [show (1 : Int32).toNatClampNeg = 1 from rfl] at eI21
                    subst eI21
                    have hI := hI.putF (n := 41) (k := 1) (v := x1_2) rfl
                    have hK := hK.put (n := 41) (k := 1) (v := x1_2) (by first | rfl | simp [inR])
                    refine lv_aload_n hx hb dX5_findOne_85 rfl (lv_at hl 3 rfl) ?_
                    refine m_getr (40) 0 (41) hx hb hts hown hE oc5 hM (hG.1 40 (by decide)) rfl (by decide) rfl (hG.2 (40, 0, 41) (by decide)) (by decide) tb_233 dX5_findOne_86 ?_
                    refine lv_iconst (v := (2)) hx hb dX5_findOne_89 (by decide) ?_
                    refine lv_iload_n hx hb dX5_findOne_90 rfl (lv_at hl 0 rfl) ?_
                    refine m_iast (41) hx hb hE hM hS (hG.1 41 (by decide)) rfl (vp_in_iff.mpr (by decide)) dX5_findOne_91 (fun H locs I22 eI22 hM hS => ?_)
                    rw [show (2 : Int32).toNatClampNeg = 2 from rfl] at eI22
                    subst eI22
                    have hI := hI.putF (n := 41) (k := 2) (v := x3_25) rfl
                    have hK := hK.put (n := 41) (k := 2) (v := x3_25) (by first | rfl | simp [inR])
                    refine lv_iconst (v := (1)) hx hb dX5_findOne_92 (by decide) ?_
                    exact m_zret hx hb hr rfl hlocks hM hS (Nat.le_of_ble_eq_true rfl) (Nat.le_of_ble_eq_true rfl) ⟨_, _, rfl, hI, hK, (by first | omega | decide)⟩ dX5_findOne_93
        exact loop25 (_ + 1) (0) Ia2 La2 _ _ ls hI hK (by first | omega | decide) (Nat.lt_succ_self _) hM hS (lv_sub hl [0, 1, 2, 3] rfl)
  exact loop2 (_ + 1) (0) I L _ _ ls hI hK (by first | omega | decide) (Nat.lt_succ_self _) hM hS (lv_sub hl [0, 1] rfl)
theorem dX5_findTwo_0 : decode cX5_findTwo 0 = .ok (.iconst 0, 1) := by decide +kernel
theorem dX5_findTwo_1 : decode cX5_findTwo 1 = .ok (.istore_n 1, 1) := by decide +kernel
theorem dX5_findTwo_2 : decode cX5_findTwo 2 = .ok (.iload_n 1, 1) := by decide +kernel
theorem dX5_findTwo_3 : decode cX5_findTwo 3 = .ok (.aload_n 0, 1) := by decide +kernel
theorem dX5_findTwo_4 : decode cX5_findTwo 4 = .ok (.getfield 21, 3) := by decide +kernel
theorem dX5_findTwo_7 : decode cX5_findTwo 7 = .ok (.getfield 75, 3) := by decide +kernel
theorem dX5_findTwo_10 : decode cX5_findTwo 10 = .ok (.if_icmp .ge 61, 3) := by decide +kernel
theorem dX5_findTwo_13 : decode cX5_findTwo 13 = .ok (.iload_n 1, 1) := by decide +kernel
theorem dX5_findTwo_14 : decode cX5_findTwo 14 = .ok (.iconst 1, 1) := by decide +kernel
theorem dX5_findTwo_15 : decode cX5_findTwo 15 = .ok (.iadd, 1) := by decide +kernel
theorem dX5_findTwo_16 : decode cX5_findTwo 16 = .ok (.istore_n 2, 1) := by decide +kernel
theorem dX5_findTwo_17 : decode cX5_findTwo 17 = .ok (.iload_n 2, 1) := by decide +kernel
theorem dX5_findTwo_18 : decode cX5_findTwo 18 = .ok (.aload_n 0, 1) := by decide +kernel
theorem dX5_findTwo_19 : decode cX5_findTwo 19 = .ok (.getfield 21, 3) := by decide +kernel
theorem dX5_findTwo_22 : decode cX5_findTwo 22 = .ok (.getfield 75, 3) := by decide +kernel
theorem dX5_findTwo_25 : decode cX5_findTwo 25 = .ok (.if_icmp .ge 40, 3) := by decide +kernel
theorem dX5_findTwo_28 : decode cX5_findTwo 28 = .ok (.aload_n 0, 1) := by decide +kernel
theorem dX5_findTwo_29 : decode cX5_findTwo 29 = .ok (.iload_n 1, 1) := by decide +kernel
theorem dX5_findTwo_30 : decode cX5_findTwo 30 = .ok (.iload_n 2, 1) := by decide +kernel
theorem dX5_findTwo_31 : decode cX5_findTwo 31 = .ok (.invokevirtual 85, 3) := by decide +kernel
theorem dX5_findTwo_34 : decode cX5_findTwo 34 = .ok (.ifCond .eq 25, 3) := by decide +kernel
theorem dX5_findTwo_37 : decode cX5_findTwo 37 = .ok (.aload_n 0, 1) := by decide +kernel
theorem dX5_findTwo_38 : decode cX5_findTwo 38 = .ok (.getfield 11, 3) := by decide +kernel
theorem dX5_findTwo_41 : decode cX5_findTwo 41 = .ok (.iconst 0, 1) := by decide +kernel
theorem dX5_findTwo_42 : decode cX5_findTwo 42 = .ok (.iconst 2, 1) := by decide +kernel
theorem dX5_findTwo_43 : decode cX5_findTwo 43 = .ok (.iastore, 1) := by decide +kernel
theorem dX5_findTwo_44 : decode cX5_findTwo 44 = .ok (.aload_n 0, 1) := by decide +kernel
theorem dX5_findTwo_45 : decode cX5_findTwo 45 = .ok (.getfield 11, 3) := by decide +kernel
theorem dX5_findTwo_48 : decode cX5_findTwo 48 = .ok (.iconst 1, 1) := by decide +kernel
theorem dX5_findTwo_49 : decode cX5_findTwo 49 = .ok (.iload_n 1, 1) := by decide +kernel
theorem dX5_findTwo_50 : decode cX5_findTwo 50 = .ok (.iastore, 1) := by decide +kernel
theorem dX5_findTwo_51 : decode cX5_findTwo 51 = .ok (.aload_n 0, 1) := by decide +kernel
theorem dX5_findTwo_52 : decode cX5_findTwo 52 = .ok (.getfield 11, 3) := by decide +kernel
theorem dX5_findTwo_55 : decode cX5_findTwo 55 = .ok (.iconst 3, 1) := by decide +kernel
theorem dX5_findTwo_56 : decode cX5_findTwo 56 = .ok (.iload_n 2, 1) := by decide +kernel
theorem dX5_findTwo_57 : decode cX5_findTwo 57 = .ok (.iastore, 1) := by decide +kernel
theorem dX5_findTwo_58 : decode cX5_findTwo 58 = .ok (.return_, 1) := by decide +kernel
theorem dX5_findTwo_59 : decode cX5_findTwo 59 = .ok (.iinc 2 1, 3) := by decide +kernel
theorem dX5_findTwo_62 : decode cX5_findTwo 62 = .ok (.goto (-45), 3) := by decide +kernel
theorem dX5_findTwo_65 : decode cX5_findTwo 65 = .ok (.iinc 1 1, 3) := by decide +kernel
theorem dX5_findTwo_68 : decode cX5_findTwo 68 = .ok (.goto (-66), 3) := by decide +kernel
theorem dX5_findTwo_71 : decode cX5_findTwo 71 = .ok (.return_, 1) := by decide +kernel
theorem ce_X5_findTwo : CeV RX5 yX5_findTwo cX5_findTwo 3 none 0 := ⟨tb_1044, tb_1045, tb_6, tb_1046, rfl, by decide, by decide, by decide +kernel⟩
set_option maxHeartbeats 4000000 in
set_option maxRecDepth 20000 in
theorem V_X5_findTwo (l : Launch) (D : va_G) (A : Nat → Prop) (ad : Nat → Nat) (ns : List Nat) (I : MI) (L : ML) (G : MG) (hG : SGC ns G) (hI : INV I) (hlit : Lit 100 I (I 40 5)) : Met l yX5_findTwo (wd yX5_findTwo cX5_findTwo 3 none) ({ frames := 6, cells := 0, slots := 0, locals := 156 }) (va_Pc [.ref (ad (40))] (PM D A ad ns I L G)) (va_Qv (fun u => ∃ I2 L2, u = (ad, ns, I2, L2, G) ∧ INV I2 ∧ Kp [(11, 15), (107, 108)] [(10, 2), (10, 3), (10, 4), (10, 5), (10, 6), (10, 7), (10, 11), (10, 12), (41, 0), (41, 1), (41, 2), (41, 3), (41, 4)] I I2) (BM D A) A) 0 0 A := by
  refine m_ofW (by decide) (Nat.le_of_ble_eq_true rfl) ?_
  intro p e s m below meth c ls args hC hE hM hA hS hl
  obtain ⟨hx, hb, hml, hown, hts, hr, hlocks, hin⟩ := hC
  have k0 : (0 : Int32).toInt = 0 := by decide
  have k1 : (1 : Int32).toInt = 1 := by decide
  have k2 : (2 : Int32).toInt = 2 := by decide
  have k3 : (3 : Int32).toInt = 3 := by decide
  have hK : Kp [(11, 15), (107, 108)] [(10, 2), (10, 3), (10, 4), (10, 5), (10, 6), (10, 7), (10, 11), (10, 12), (41, 0), (41, 1), (41, 2), (41, 3), (41, 4)] I I := Kp.rf
  have hl : lv_has ls 3 [(0, .ref (ad (40)))] := hl
  refine lv_iconst (v := (0)) hx hb dX5_findTwo_0 (by decide) ?_
  refine lv_istore_n (lv' := [(1, .int (0)), (0, .ref (ad (40)))]) hx hb dX5_findTwo_1 rfl hl (by decide) rfl (fun ls hl => ?_)
  have loop2 : ∀ (n : Nat) (x1_2 : Int32) (Ia2 : MI) (La2 : ML) (H : Heap) (locs : List Loc) (ls : Array Slot), INV Ia2 → Kp [(11, 15), (107, 108)] [(10, 2), (10, 3), (10, 4), (10, 5), (10, 6), (10, 7), (10, 11), (10, 12), (41, 0), (41, 1), (41, 2), (41, 3), (41, 4)] I Ia2 → (0 ≤ x1_2.toInt ∧ x1_2.toInt ≤ 24) → (24 - x1_2.toInt).toNat < n → Mem D A ad ns Ia2 La2 G H → va_S A s.heap H locs → lv_has ls 3 [(1, .int (x1_2)), (0, .ref (ad (40)))] → W p l e ({ frames := 6, cells := 0, slots := 0, locals := 156 } : Room) s m args below meth c H locs 0 0 (MQ below (va_Qv (fun u => ∃ I2 L2, u = (ad, ns, I2, L2, G) ∧ INV I2 ∧ Kp [(11, 15), (107, 108)] [(10, 2), (10, 3), (10, 4), (10, 5), (10, 6), (10, 7), (10, 11), (10, 12), (41, 0), (41, 1), (41, 2), (41, 3), (41, 4)] I I2) (BM D A) A) args s 0 0 A) (F0 m 2 ls []) := by
    intro n
    induction n with
    | zero =>
      intro x1_2 Ia2 La2 H locs ls hI hK hr1_2 hmu
      exact absurd hmu (Nat.not_lt_zero _)
    | succ n ih2 =>
      intro x1_2 Ia2 La2 H locs ls hI hK hr1_2 hmu2 hM hS hl
      refine lv_iload_n hx hb dX5_findTwo_2 rfl (lv_at hl 0 rfl) ?_
      refine lv_aload_n hx hb dX5_findTwo_3 rfl (lv_at hl 1 rfl) ?_
      refine m_getr (40) 1 (100) hx hb hts hown hE oc5 hM (hG.1 40 (by decide)) rfl (by decide) rfl (hG.2 (40, 1, 100) (by decide)) (by decide) tb_235 dX5_findTwo_4 ?_
      refine m_geti (100) 8 hx hb hts hown hE oc8 hM (hG.1 100 (by decide)) rfl (by decide) rfl tb_61 dX5_findTwo_7 ?_
      have g1 := hI.get (100) 8 (lo := 0) (hi := 24) rfl
      refine lv_icmp_ge (tgt := 71) hx hb dX5_findTwo_10 (by decide) (fun c2 => ?_) (fun c2 => ?_)
      · have hc2 := c2
        have q2 := q_le hc2
        exact m_vret hx hb hr hlocks hM hS (Nat.le_of_ble_eq_true rfl) (Nat.le_of_ble_eq_true rfl) ⟨_, _, rfl, hI, hK⟩ dX5_findTwo_71
      · have hc2 := c2
        have q2 := q_nle hc2
        refine lv_iload_n hx hb dX5_findTwo_13 rfl (lv_at hl 0 rfl) ?_
        refine lv_iconst (v := (1)) hx hb dX5_findTwo_14 (by decide) ?_
        refine lv_iadd hx hb dX5_findTwo_15 ?_
        refine lv_topi (fun v3 ev3 => ?_)
        have tv3 := a_add ev3 (by omega) (by omega)
        refine lv_istore_n (lv' := [(2, .int (v3)), (1, .int (x1_2)), (0, .ref (ad (40)))]) hx hb dX5_findTwo_16 rfl hl (by decide) rfl (fun ls hl => ?_)
        have loop17 : ∀ (n : Nat) (x2_17 : Int32) (Ia17 : MI) (La17 : ML) (H : Heap) (locs : List Loc) (ls : Array Slot), INV Ia17 → Kp [(11, 15), (107, 108)] [(10, 2), (10, 3), (10, 4), (10, 5), (10, 6), (10, 7), (10, 11), (10, 12), (41, 0), (41, 1), (41, 2), (41, 3), (41, 4)] I Ia17 → (0 ≤ x2_17.toInt ∧ x2_17.toInt ≤ 24) → (24 - x2_17.toInt).toNat < n → Mem D A ad ns Ia17 La17 G H → va_S A s.heap H locs → lv_has ls 3 [(2, .int (x2_17)), (1, .int (x1_2)), (0, .ref (ad (40)))] → W p l e ({ frames := 6, cells := 0, slots := 0, locals := 156 } : Room) s m args below meth c H locs 0 0 (MQ below (va_Qv (fun u => ∃ I2 L2, u = (ad, ns, I2, L2, G) ∧ INV I2 ∧ Kp [(11, 15), (107, 108)] [(10, 2), (10, 3), (10, 4), (10, 5), (10, 6), (10, 7), (10, 11), (10, 12), (41, 0), (41, 1), (41, 2), (41, 3), (41, 4)] I I2) (BM D A) A) args s 0 0 A) (F0 m 17 ls []) := by
          intro n
          induction n with
          | zero =>
            intro x2_17 Ia17 La17 H locs ls hI hK hr2_17 hmu
            exact absurd hmu (Nat.not_lt_zero _)
          | succ n ih17 =>
            intro x2_17 Ia17 La17 H locs ls hI hK hr2_17 hmu17 hM hS hl
            refine lv_iload_n hx hb dX5_findTwo_17 rfl (lv_at hl 0 rfl) ?_
            refine lv_aload_n hx hb dX5_findTwo_18 rfl (lv_at hl 2 rfl) ?_
            refine m_getr (40) 1 (100) hx hb hts hown hE oc5 hM (hG.1 40 (by decide)) rfl (by decide) rfl (hG.2 (40, 1, 100) (by decide)) (by decide) tb_235 dX5_findTwo_19 ?_
            refine m_geti (100) 8 hx hb hts hown hE oc8 hM (hG.1 100 (by decide)) rfl (by decide) rfl tb_61 dX5_findTwo_22 ?_
            have g4 := hI.get (100) 8 (lo := 0) (hi := 24) rfl
            refine lv_icmp_ge (tgt := 65) hx hb dX5_findTwo_25 (by decide) (fun c5 => ?_) (fun c5 => ?_)
            · have hc5 := c5
              have q5 := q_le hc5
              obtain ⟨v6, ev6⟩ : ∃ z : Int32, z = x1_2 + Int32.ofInt (1) := ⟨_, rfl⟩
              have tv6 := a_inc ev6 (by decide) (by omega) (by omega)
              refine lv_iinc (v := v6) (lv' := [(1, .int (v6)), (2, .int (x2_17)), (0, .ref (ad (40)))]) hx hb dX5_findTwo_65 hl (k := 1) rfl ev6.symm (by decide) rfl (fun ls hl => ?_)
              refine lv_goto (tgt := 2) hx hb dX5_findTwo_68 (by decide) ?_
              exact ih2 (v6) Ia17 La17 _ _ ls hI hK (by first | omega | decide) (by omega) hM hS (lv_sub hl [0, 2] rfl)
            · have hc5 := c5
              have q5 := q_nle hc5
              refine lv_aload_n hx hb dX5_findTwo_28 rfl (lv_at hl 2 rfl) ?_
              refine lv_iload_n hx hb dX5_findTwo_29 rfl (lv_at hl 1 rfl) ?_
              refine lv_iload_n hx hb dX5_findTwo_30 rfl (lv_at hl 0 rfl) ?_
              refine m_calli (m_runV (40) (As := [.int (x1_2), .int (x2_17)]) (rest := []) hx hb hml hown hts hE hM hS hA ce_X5_findSlants tb_1047 (V_X5_findSlants l D A ad ns Ia17 La17 G (x1_2) (x2_17) hG hI (by rw [hK.get 40 5 rfl]; exact hlit.kp hK rfl) (by first | omega | decide) (by first | omega | decide)) rfl rfl ⟨Nat.le_of_ble_eq_true rfl, Nat.le_of_ble_eq_true rfl⟩ (hG.1 40 (by decide)) rfl rfl (by decide) rfl hl.1 rfl (Nat.le_of_ble_eq_true rfl) dX5_findTwo_31 ⟨Nat.le_of_ble_eq_true rfl, Nat.le_of_ble_eq_true rfl⟩) hS (fun r7 u H locs hw hM hS => ?_)
              obtain ⟨I8, L9, rfl, hI, hkI8, xr7⟩ := hw
              have hM : Mem D A ad ns I8 L9 G H := hM
              have hK := hK.trans hkI8 rfl
              refine lv_if_eq (tgt := 59) hx hb dX5_findTwo_34 (by decide) (fun c10 => ?_) (fun c10 => ?_)
              · have hc10 := c10
                have q10 := q_eq hc10
                obtain ⟨v11, ev11⟩ : ∃ z : Int32, z = x2_17 + Int32.ofInt (1) := ⟨_, rfl⟩
                have tv11 := a_inc ev11 (by decide) (by omega) (by omega)
                refine lv_iinc (v := v11) (lv' := [(2, .int (v11)), (1, .int (x1_2)), (0, .ref (ad (40)))]) hx hb dX5_findTwo_59 hl (k := 0) rfl ev11.symm (by decide) rfl (fun ls hl => ?_)
                refine lv_goto (tgt := 17) hx hb dX5_findTwo_62 (by decide) ?_
                exact ih17 (v11) I8 L9 _ _ ls hI hK (by first | omega | decide) (by omega) hM hS (lv_sub hl [0, 1, 2] rfl)
              · have hc10 := c10
                have q10 := q_ne hc10
                refine lv_aload_n hx hb dX5_findTwo_37 rfl (lv_at hl 2 rfl) ?_
                refine m_getr (40) 0 (41) hx hb hts hown hE oc5 hM (hG.1 40 (by decide)) rfl (by decide) rfl (hG.2 (40, 0, 41) (by decide)) (by decide) tb_233 dX5_findTwo_38 ?_
                refine lv_iconst (v := (0)) hx hb dX5_findTwo_41 (by decide) ?_
                refine lv_iconst (v := (2)) hx hb dX5_findTwo_42 (by decide) ?_
                refine m_iast (41) hx hb hE hM hS (hG.1 41 (by decide)) rfl (vp_in_iff.mpr (by decide)) dX5_findTwo_43 (fun H locs I12 eI12 hM hS => ?_)
                rw [show (0 : Int32).toNatClampNeg = 0 from rfl] at eI12
                subst eI12
                have hI := hI.putF (n := 41) (k := 0) (v := 2) rfl
                have hK := hK.put (n := 41) (k := 0) (v := 2) (by first | rfl | simp [inR])
                refine lv_aload_n hx hb dX5_findTwo_44 rfl (lv_at hl 2 rfl) ?_
                refine m_getr (40) 0 (41) hx hb hts hown hE oc5 hM (hG.1 40 (by decide)) rfl (by decide) rfl (hG.2 (40, 0, 41) (by decide)) (by decide) tb_233 dX5_findTwo_45 ?_
                refine lv_iconst (v := (1)) hx hb dX5_findTwo_48 (by decide) ?_
                refine lv_iload_n hx hb dX5_findTwo_49 rfl (lv_at hl 1 rfl) ?_
                refine m_iast (41) hx hb hE hM hS (hG.1 41 (by decide)) rfl (vp_in_iff.mpr (by decide)) dX5_findTwo_50 (fun H locs I13 eI13 hM hS => ?_)
                rw [show (1 : Int32).toNatClampNeg = 1 from rfl] at eI13
                subst eI13
                have hI := hI.putF (n := 41) (k := 1) (v := x1_2) rfl
                have hK := hK.put (n := 41) (k := 1) (v := x1_2) (by first | rfl | simp [inR])
                refine lv_aload_n hx hb dX5_findTwo_51 rfl (lv_at hl 2 rfl) ?_
                refine m_getr (40) 0 (41) hx hb hts hown hE oc5 hM (hG.1 40 (by decide)) rfl (by decide) rfl (hG.2 (40, 0, 41) (by decide)) (by decide) tb_233 dX5_findTwo_52 ?_
                refine lv_iconst (v := (3)) hx hb dX5_findTwo_55 (by decide) ?_
                refine lv_iload_n hx hb dX5_findTwo_56 rfl (lv_at hl 0 rfl) ?_
                refine m_iast (41) hx hb hE hM hS (hG.1 41 (by decide)) rfl (vp_in_iff.mpr (by decide)) dX5_findTwo_57 (fun H locs I14 eI14 hM hS => ?_)
                rw [show (3 : Int32).toNatClampNeg = 3 from rfl] at eI14
                subst eI14
                have hI := hI.putF (n := 41) (k := 3) (v := x2_17) rfl
                have hK := hK.put (n := 41) (k := 3) (v := x2_17) (by first | rfl | simp [inR])
                exact m_vret hx hb hr hlocks hM hS (Nat.le_of_ble_eq_true rfl) (Nat.le_of_ble_eq_true rfl) ⟨_, _, rfl, hI, hK⟩ dX5_findTwo_58
        exact loop17 (_ + 1) (v3) Ia2 La2 _ _ ls hI hK (by first | omega | decide) (Nat.lt_succ_self _) hM hS (lv_sub hl [0, 1, 2] rfl)
  exact loop2 (_ + 1) (0) I L _ _ ls hI hK (by first | omega | decide) (Nat.lt_succ_self _) hM hS (lv_sub hl [0, 1] rfl)
theorem dX6_isEdge_0 : decode cX6_isEdge 0 = .ok (.iload_n 1, 1) := by decide +kernel
theorem dX6_isEdge_1 : decode cX6_isEdge 1 = .ok (.ifCond .eq 27, 3) := by decide +kernel
theorem dX6_isEdge_4 : decode cX6_isEdge 4 = .ok (.iload_n 2, 1) := by decide +kernel
theorem dX6_isEdge_5 : decode cX6_isEdge 5 = .ok (.ifCond .eq 23, 3) := by decide +kernel
theorem dX6_isEdge_8 : decode cX6_isEdge 8 = .ok (.iload_n 1, 1) := by decide +kernel
theorem dX6_isEdge_9 : decode cX6_isEdge 9 = .ok (.aload_n 0, 1) := by decide +kernel
theorem dX6_isEdge_10 : decode cX6_isEdge 10 = .ok (.getfield 40, 3) := by decide +kernel
theorem dX6_isEdge_13 : decode cX6_isEdge 13 = .ok (.iconst 1, 1) := by decide +kernel
theorem dX6_isEdge_14 : decode cX6_isEdge 14 = .ok (.isub, 1) := by decide +kernel
theorem dX6_isEdge_15 : decode cX6_isEdge 15 = .ok (.if_icmp .eq 13, 3) := by decide +kernel
theorem dX6_isEdge_18 : decode cX6_isEdge 18 = .ok (.iload_n 2, 1) := by decide +kernel
theorem dX6_isEdge_19 : decode cX6_isEdge 19 = .ok (.aload_n 0, 1) := by decide +kernel
theorem dX6_isEdge_20 : decode cX6_isEdge 20 = .ok (.getfield 37, 3) := by decide +kernel
theorem dX6_isEdge_23 : decode cX6_isEdge 23 = .ok (.iconst 1, 1) := by decide +kernel
theorem dX6_isEdge_24 : decode cX6_isEdge 24 = .ok (.isub, 1) := by decide +kernel
theorem dX6_isEdge_25 : decode cX6_isEdge 25 = .ok (.if_icmp .ne 7, 3) := by decide +kernel
theorem dX6_isEdge_28 : decode cX6_isEdge 28 = .ok (.iconst 1, 1) := by decide +kernel
theorem dX6_isEdge_29 : decode cX6_isEdge 29 = .ok (.goto 4, 3) := by decide +kernel
theorem dX6_isEdge_32 : decode cX6_isEdge 32 = .ok (.iconst 0, 1) := by decide +kernel
theorem dX6_isEdge_33 : decode cX6_isEdge 33 = .ok (.ireturn, 1) := by decide +kernel
theorem ce_X6_isEdge : CeS yX6_isEdge cX6_isEdge 3 (some .boolean) 3 := ⟨tb_1069, tb_7, tb_1070, by decide, by decide, by decide +kernel⟩
set_option maxHeartbeats 4000000 in
set_option maxRecDepth 20000 in
theorem V_X6_isEdge (l : Launch) (D : va_G) (A : Nat → Prop) (ad : Nat → Nat) (ns : List Nat) (I : MI) (L : ML) (G : MG) (a0 : Int32) (a1 : Int32) (hG : SGC ns G) (hI : INV I) : Met l yX6_isEdge (wd yX6_isEdge cX6_isEdge 3 (some .boolean)) ({ frames := 0, cells := 0, slots := 0, locals := 0 }) (va_Pc [.ref (ad (100)), .int a0, .int a1] (PM D A ad ns I L G)) (va_Qi (fun r u => u = (ad, ns, I, L, G) ∧ (0 ≤ r.toInt ∧ r.toInt ≤ 1)) (BM D A) A) 0 0 A := by
  refine m_ofW (by decide) (Nat.le_of_ble_eq_true rfl) ?_
  intro p e s m below meth c ls args hC hE hM hA hS hl
  obtain ⟨hx, hb, hml, hown, hts, hr, hlocks, hin⟩ := hC
  have k0 : (0 : Int32).toInt = 0 := by decide
  have k1 : (1 : Int32).toInt = 1 := by decide
  have hl : lv_has ls 3 [(0, .ref (ad (100))), (1, .int (a0)), (2, .int (a1))] := hl
  refine lv_iload_n hx hb dX6_isEdge_0 rfl (lv_at hl 1 rfl) ?_
  refine lv_if_eq (tgt := 28) hx hb dX6_isEdge_1 (by decide) (fun c1 => ?_) (fun c1 => ?_)
  · have hc1 := c1
    have q1 := q_eq hc1
    refine lv_iconst (v := (1)) hx hb dX6_isEdge_28 (by decide) ?_
    refine lv_goto (tgt := 33) hx hb dX6_isEdge_29 (by decide) ?_
    exact m_zret hx hb hr rfl hlocks hM hS (Nat.le_of_ble_eq_true rfl) (Nat.le_of_ble_eq_true rfl) ⟨rfl, (by first | omega | decide)⟩ dX6_isEdge_33
  · have hc1 := c1
    have q1 := q_ne hc1
    refine lv_iload_n hx hb dX6_isEdge_4 rfl (lv_at hl 2 rfl) ?_
    refine lv_if_eq (tgt := 28) hx hb dX6_isEdge_5 (by decide) (fun c2 => ?_) (fun c2 => ?_)
    · have hc2 := c2
      have q2 := q_eq hc2
      refine lv_iconst (v := (1)) hx hb dX6_isEdge_28 (by decide) ?_
      refine lv_goto (tgt := 33) hx hb dX6_isEdge_29 (by decide) ?_
      exact m_zret hx hb hr rfl hlocks hM hS (Nat.le_of_ble_eq_true rfl) (Nat.le_of_ble_eq_true rfl) ⟨rfl, (by first | omega | decide)⟩ dX6_isEdge_33
    · have hc2 := c2
      have q2 := q_ne hc2
      refine lv_iload_n hx hb dX6_isEdge_8 rfl (lv_at hl 1 rfl) ?_
      refine lv_aload_n hx hb dX6_isEdge_9 rfl (lv_at hl 0 rfl) ?_
      refine m_geti (100) 0 hx hb hts hown hE oc8 hM (hG.1 100 (by decide)) rfl (by decide) rfl tb_35 dX6_isEdge_10 ?_
      have g3 := hI.get (100) 0 (lo := 0) (hi := 24) rfl
      refine lv_iconst (v := (1)) hx hb dX6_isEdge_13 (by decide) ?_
      refine lv_isub hx hb dX6_isEdge_14 ?_
      refine lv_topi (fun v4 ev4 => ?_)
      have tv4 := a_sub ev4 (by omega) (by omega)
      refine lv_icmp_eq (tgt := 28) hx hb dX6_isEdge_15 (by decide) (fun c5 => ?_) (fun c5 => ?_)
      · have hc5 := c5
        have q5 := q_eq hc5
        refine lv_iconst (v := (1)) hx hb dX6_isEdge_28 (by decide) ?_
        refine lv_goto (tgt := 33) hx hb dX6_isEdge_29 (by decide) ?_
        exact m_zret hx hb hr rfl hlocks hM hS (Nat.le_of_ble_eq_true rfl) (Nat.le_of_ble_eq_true rfl) ⟨rfl, (by first | omega | decide)⟩ dX6_isEdge_33
      · have hc5 := c5
        have q5 := q_ne hc5
        refine lv_iload_n hx hb dX6_isEdge_18 rfl (lv_at hl 2 rfl) ?_
        refine lv_aload_n hx hb dX6_isEdge_19 rfl (lv_at hl 0 rfl) ?_
        refine m_geti (100) 1 hx hb hts hown hE oc8 hM (hG.1 100 (by decide)) rfl (by decide) rfl tb_38 dX6_isEdge_20 ?_
        have g6 := hI.get (100) 1 (lo := 0) (hi := 24) rfl
        refine lv_iconst (v := (1)) hx hb dX6_isEdge_23 (by decide) ?_
        refine lv_isub hx hb dX6_isEdge_24 ?_
        refine lv_topi (fun v7 ev7 => ?_)
        have tv7 := a_sub ev7 (by omega) (by omega)
        refine lv_icmp_ne (tgt := 32) hx hb dX6_isEdge_25 (by decide) (fun c8 => ?_) (fun c8 => ?_)
        · have hc8 := c8
          have q8 := q_ne hc8
          refine lv_iconst (v := (0)) hx hb dX6_isEdge_32 (by decide) ?_
          exact m_zret hx hb hr rfl hlocks hM hS (Nat.le_of_ble_eq_true rfl) (Nat.le_of_ble_eq_true rfl) ⟨rfl, (by first | omega | decide)⟩ dX6_isEdge_33
        · have hc8 := c8
          have q8 := q_eq hc8
          refine lv_iconst (v := (1)) hx hb dX6_isEdge_28 (by decide) ?_
          refine lv_goto (tgt := 33) hx hb dX6_isEdge_29 (by decide) ?_
          exact m_zret hx hb hr rfl hlocks hM hS (Nat.le_of_ble_eq_true rfl) (Nat.le_of_ble_eq_true rfl) ⟨rfl, (by first | omega | decide)⟩ dX6_isEdge_33
theorem dX6_tryWays_0 : decode cX6_tryWays 0 = .ok (.iconst 0, 1) := by decide +kernel
theorem dX6_tryWays_1 : decode cX6_tryWays 1 = .ok (.istore_n 3, 1) := by decide +kernel
theorem dX6_tryWays_2 : decode cX6_tryWays 2 = .ok (.iload_n 3, 1) := by decide +kernel
theorem dX6_tryWays_3 : decode cX6_tryWays 3 = .ok (.bipush 8, 2) := by decide +kernel
theorem dX6_tryWays_5 : decode cX6_tryWays 5 = .ok (.if_icmp .ge 96, 3) := by decide +kernel
theorem dX6_tryWays_8 : decode cX6_tryWays 8 = .ok (.aload_n 1, 1) := by decide +kernel
theorem dX6_tryWays_9 : decode cX6_tryWays 9 = .ok (.aload_n 1, 1) := by decide +kernel
theorem dX6_tryWays_10 : decode cX6_tryWays 10 = .ok (.getfield 25, 3) := by decide +kernel
theorem dX6_tryWays_13 : decode cX6_tryWays 13 = .ok (.getstatic 59, 3) := by decide +kernel
theorem dX6_tryWays_16 : decode cX6_tryWays 16 = .ok (.iload_n 3, 1) := by decide +kernel
theorem dX6_tryWays_17 : decode cX6_tryWays 17 = .ok (.iaload, 1) := by decide +kernel
theorem dX6_tryWays_18 : decode cX6_tryWays 18 = .ok (.iadd, 1) := by decide +kernel
theorem dX6_tryWays_19 : decode cX6_tryWays 19 = .ok (.aload_n 1, 1) := by decide +kernel
theorem dX6_tryWays_20 : decode cX6_tryWays 20 = .ok (.getfield 30, 3) := by decide +kernel
theorem dX6_tryWays_23 : decode cX6_tryWays 23 = .ok (.getstatic 63, 3) := by decide +kernel
theorem dX6_tryWays_26 : decode cX6_tryWays 26 = .ok (.iload_n 3, 1) := by decide +kernel
theorem dX6_tryWays_27 : decode cX6_tryWays 27 = .ok (.iaload, 1) := by decide +kernel
theorem dX6_tryWays_28 : decode cX6_tryWays 28 = .ok (.iadd, 1) := by decide +kernel
theorem dX6_tryWays_29 : decode cX6_tryWays 29 = .ok (.invokevirtual 66, 3) := by decide +kernel
theorem dX6_tryWays_32 : decode cX6_tryWays 32 = .ok (.ifCond .eq 63, 3) := by decide +kernel
theorem dX6_tryWays_35 : decode cX6_tryWays 35 = .ok (.aload_n 1, 1) := by decide +kernel
theorem dX6_tryWays_36 : decode cX6_tryWays 36 = .ok (.iload_n 2, 1) := by decide +kernel
theorem dX6_tryWays_37 : decode cX6_tryWays 37 = .ok (.iload_n 3, 1) := by decide +kernel
theorem dX6_tryWays_38 : decode cX6_tryWays 38 = .ok (.invokevirtual 55, 3) := by decide +kernel
theorem dX6_tryWays_41 : decode cX6_tryWays 41 = .ok (.aload_n 0, 1) := by decide +kernel
theorem dX6_tryWays_42 : decode cX6_tryWays 42 = .ok (.getfield 9, 3) := by decide +kernel
theorem dX6_tryWays_45 : decode cX6_tryWays 45 = .ok (.aload_n 1, 1) := by decide +kernel
theorem dX6_tryWays_46 : decode cX6_tryWays 46 = .ok (.iload_n 2, 1) := by decide +kernel
theorem dX6_tryWays_47 : decode cX6_tryWays 47 = .ok (.invokevirtual 69, 3) := by decide +kernel
theorem dX6_tryWays_50 : decode cX6_tryWays 50 = .ok (.aload_n 0, 1) := by decide +kernel
theorem dX6_tryWays_51 : decode cX6_tryWays 51 = .ok (.getfield 9, 3) := by decide +kernel
theorem dX6_tryWays_54 : decode cX6_tryWays 54 = .ok (.invokevirtual 74, 3) := by decide +kernel
theorem dX6_tryWays_57 : decode cX6_tryWays 57 = .ok (.aload_n 0, 1) := by decide +kernel
theorem dX6_tryWays_58 : decode cX6_tryWays 58 = .ok (.getfield 22, 3) := by decide +kernel
theorem dX6_tryWays_61 : decode cX6_tryWays 61 = .ok (.if_icmp .le 34, 3) := by decide +kernel
theorem dX6_tryWays_64 : decode cX6_tryWays 64 = .ok (.aload_n 0, 1) := by decide +kernel
theorem dX6_tryWays_65 : decode cX6_tryWays 65 = .ok (.aload_n 1, 1) := by decide +kernel
theorem dX6_tryWays_66 : decode cX6_tryWays 66 = .ok (.getfield 25, 3) := by decide +kernel
theorem dX6_tryWays_69 : decode cX6_tryWays 69 = .ok (.aload_n 1, 1) := by decide +kernel
theorem dX6_tryWays_70 : decode cX6_tryWays 70 = .ok (.getfield 30, 3) := by decide +kernel
theorem dX6_tryWays_73 : decode cX6_tryWays 73 = .ok (.invokestatic 78, 3) := by decide +kernel
theorem dX6_tryWays_76 : decode cX6_tryWays 76 = .ok (.putfield 15, 3) := by decide +kernel
theorem dX6_tryWays_79 : decode cX6_tryWays 79 = .ok (.aload_n 0, 1) := by decide +kernel
theorem dX6_tryWays_80 : decode cX6_tryWays 80 = .ok (.iload_n 3, 1) := by decide +kernel
theorem dX6_tryWays_81 : decode cX6_tryWays 81 = .ok (.putfield 19, 3) := by decide +kernel
theorem dX6_tryWays_84 : decode cX6_tryWays 84 = .ok (.aload_n 0, 1) := by decide +kernel
theorem dX6_tryWays_85 : decode cX6_tryWays 85 = .ok (.aload_n 0, 1) := by decide +kernel
theorem dX6_tryWays_86 : decode cX6_tryWays 86 = .ok (.getfield 9, 3) := by decide +kernel
theorem dX6_tryWays_89 : decode cX6_tryWays 89 = .ok (.invokevirtual 74, 3) := by decide +kernel
theorem dX6_tryWays_92 : decode cX6_tryWays 92 = .ok (.putfield 22, 3) := by decide +kernel
theorem dX6_tryWays_95 : decode cX6_tryWays 95 = .ok (.iinc 3 1, 3) := by decide +kernel
theorem dX6_tryWays_98 : decode cX6_tryWays 98 = .ok (.goto (-96), 3) := by decide +kernel
theorem dX6_tryWays_101 : decode cX6_tryWays 101 = .ok (.return_, 1) := by decide +kernel
theorem ce_X6_tryWays : CeV RX6 yX6_tryWays cX6_tryWays 4 none 2 := ⟨tb_1074, tp_47, tb_7, tb_1075, rfl, by decide, by decide, by decide +kernel⟩
set_option maxHeartbeats 4000000 in
set_option maxRecDepth 20000 in
theorem V_X6_tryWays (l : Launch) (D : va_G) (A : Nat → Prop) (ad : Nat → Nat) (ns : List Nat) (I : MI) (L : ML) (G : MG) (a0 : Int32) (hG : SGC ns G) (hI : INV I) (ha0 : 0 ≤ a0.toInt ∧ a0.toInt ≤ 23) : Met l yX6_tryWays (wd yX6_tryWays cX6_tryWays 4 none) ({ frames := 4, cells := 0, slots := 0, locals := 107 }) (va_Pc [.ref (ad (50)), .ref (ad (100)), .int a0] (PM D A ad ns I L G)) (va_Qv (fun u => ∃ I2 L2, u = (ad, ns, I2, L2, G) ∧ INV I2 ∧ Kp [(11, 15), (105, 106)] [(10, 2), (10, 3), (10, 4), (10, 5), (10, 6), (10, 7), (10, 11), (10, 12), (50, 0), (50, 1), (50, 2)] I I2) (BM D A) A) 0 0 A := by
  refine m_ofW (by decide) (Nat.le_of_ble_eq_true rfl) ?_
  intro p e s m below meth c ls args hC hE hM hA hS hl
  obtain ⟨hx, hb, hml, hown, hts, hr, hlocks, hin⟩ := hC
  have k0 : (0 : Int32).toInt = 0 := by decide
  have k8 : (8 : Int32).toInt = 8 := by decide
  have hK : Kp [(11, 15), (105, 106)] [(10, 2), (10, 3), (10, 4), (10, 5), (10, 6), (10, 7), (10, 11), (10, 12), (50, 0), (50, 1), (50, 2)] I I := Kp.rf
  have hl : lv_has ls 4 [(0, .ref (ad (50))), (1, .ref (ad (100))), (2, .int (a0))] := hl
  refine lv_iconst (v := (0)) hx hb dX6_tryWays_0 (by decide) ?_
  refine lv_istore_n (lv' := [(3, .int (0)), (0, .ref (ad (50))), (1, .ref (ad (100))), (2, .int (a0))]) hx hb dX6_tryWays_1 rfl hl (by decide) rfl (fun ls hl => ?_)
  have loop2 : ∀ (n : Nat) (x3_2 : Int32) (Ia2 : MI) (La2 : ML) (H : Heap) (locs : List Loc) (ls : Array Slot), INV Ia2 → Kp [(11, 15), (105, 106)] [(10, 2), (10, 3), (10, 4), (10, 5), (10, 6), (10, 7), (10, 11), (10, 12), (50, 0), (50, 1), (50, 2)] I Ia2 → (0 ≤ x3_2.toInt ∧ x3_2.toInt ≤ 8) → (8 - x3_2.toInt).toNat < n → Mem D A ad ns Ia2 La2 G H → va_S A s.heap H locs → lv_has ls 4 [(3, .int (x3_2)), (0, .ref (ad (50))), (1, .ref (ad (100))), (2, .int (a0))] → W p l e ({ frames := 4, cells := 0, slots := 0, locals := 107 } : Room) s m args below meth c H locs 0 0 (MQ below (va_Qv (fun u => ∃ I2 L2, u = (ad, ns, I2, L2, G) ∧ INV I2 ∧ Kp [(11, 15), (105, 106)] [(10, 2), (10, 3), (10, 4), (10, 5), (10, 6), (10, 7), (10, 11), (10, 12), (50, 0), (50, 1), (50, 2)] I I2) (BM D A) A) args s 0 0 A) (F0 m 2 ls []) := by
    intro n
    induction n with
    | zero =>
      intro x3_2 Ia2 La2 H locs ls hI hK hr3_2 hmu
      exact absurd hmu (Nat.not_lt_zero _)
    | succ n ih2 =>
      intro x3_2 Ia2 La2 H locs ls hI hK hr3_2 hmu2 hM hS hl
      refine lv_iload_n hx hb dX6_tryWays_2 rfl (lv_at hl 0 rfl) ?_
      refine lv_bipush (v := (8)) hx hb dX6_tryWays_3 (by decide) ?_
      refine lv_icmp_ge (tgt := 101) hx hb dX6_tryWays_5 (by decide) (fun c1 => ?_) (fun c1 => ?_)
      · have hc1 := c1
        have q1 := q_le hc1
        exact m_vret hx hb hr hlocks hM hS (Nat.le_of_ble_eq_true rfl) (Nat.le_of_ble_eq_true rfl) ⟨_, _, rfl, hI, hK⟩ dX6_tryWays_101
      · have hc1 := c1
        have q1 := q_nle hc1
        refine lv_aload_n hx hb dX6_tryWays_8 rfl (lv_at hl 2 rfl) ?_
        refine lv_aload_n hx hb dX6_tryWays_9 rfl (lv_at hl 2 rfl) ?_
        refine m_geti (100) 2 hx hb hts hown hE oc8 hM (hG.1 100 (by decide)) rfl (by decide) rfl tb_42 dX6_tryWays_10 ?_
        have g2 := hI.get (100) 2 (lo := 0) (hi := 23) rfl
        refine va_getsN hx hb hE.2.2.2.2.2.1.1 hS hown (va_Nw.use rfl (hE.2.1 _ (List.mem_of_getElem? (i := 12) rfl))) (fun _ h => h) dX6_tryWays_13 ?_
        refine lv_iload_n hx hb dX6_tryWays_16 rfl (lv_at hl 0 rfl) ?_
        refine va_ti hx hb hE.2.2.2.2.2.1.2 hS (i := x3_2) (vp_in_iff.mpr (by omega)) rfl dX6_tryWays_17 ?_
        refine lv_topi (fun v3 ev3 => ?_)
        have tv3 := stX_r ev3
        refine lv_iadd hx hb dX6_tryWays_18 ?_
        refine lv_topi (fun v4 ev4 => ?_)
        have tv4 := a_add ev4 (by omega) (by omega)
        refine lv_aload_n hx hb dX6_tryWays_19 rfl (lv_at hl 2 rfl) ?_
        refine m_geti (100) 3 hx hb hts hown hE oc8 hM (hG.1 100 (by decide)) rfl (by decide) rfl tb_46 dX6_tryWays_20 ?_
        have g5 := hI.get (100) 3 (lo := 0) (hi := 23) rfl
        refine va_getsN hx hb hE.2.2.2.2.2.2.1.1 hS hown (va_Nw.use rfl (hE.2.1 _ (List.mem_of_getElem? (i := 13) rfl))) (fun _ h => h) dX6_tryWays_23 ?_
        refine lv_iload_n hx hb dX6_tryWays_26 rfl (lv_at hl 0 rfl) ?_
        refine va_ti hx hb hE.2.2.2.2.2.2.1.2 hS (i := x3_2) (vp_in_iff.mpr (by omega)) rfl dX6_tryWays_27 ?_
        refine lv_topi (fun v6 ev6 => ?_)
        have tv6 := stY_r ev6
        refine lv_iadd hx hb dX6_tryWays_28 ?_
        refine lv_topi (fun v7 ev7 => ?_)
        have tv7 := a_add ev7 (by omega) (by omega)
        refine m_calli (m_runV (100) (As := [.int (v4), .int (v7)]) (rest := []) hx hb hml hown hts hE hM hS hA ce_X8_hasCell tb_1078 (V_X8_hasCell_100 l D A ad ns Ia2 La2 G (v4) (v7) hG hI) rfl rfl ⟨Nat.le_of_ble_eq_true rfl, Nat.le_of_ble_eq_true rfl⟩ (hG.1 100 (by decide)) rfl rfl (by decide) rfl hl.1 rfl (Nat.le_of_ble_eq_true rfl) dX6_tryWays_29 ⟨Nat.le_of_ble_eq_true rfl, Nat.le_of_ble_eq_true rfl⟩) hS (fun r8 u H locs hw hM hS => ?_)
        obtain ⟨rfl, xr8⟩ := hw
        have hM : Mem D A ad ns Ia2 La2 G H := hM
        have yr8 := bo01 xr8
        have g9 := hI.get 100 0 (lo := 0) (hi := 24) rfl
        have g10 := hI.get 100 1 (lo := 0) (hi := 24) rfl
        refine lv_if_eq (tgt := 95) hx hb dX6_tryWays_32 (by decide) (fun c11 => ?_) (fun c11 => ?_)
        · have hc11 := c11
          have q11 := xr8.f hc11
          obtain ⟨v12, ev12⟩ : ∃ z : Int32, z = x3_2 + Int32.ofInt (1) := ⟨_, rfl⟩
          have tv12 := a_inc ev12 (by decide) (by omega) (by omega)
          refine lv_iinc (v := v12) (lv' := [(3, .int (v12)), (0, .ref (ad (50))), (1, .ref (ad (100))), (2, .int (a0))]) hx hb dX6_tryWays_95 hl (k := 0) rfl ev12.symm (by decide) rfl (fun ls hl => ?_)
          refine lv_goto (tgt := 2) hx hb dX6_tryWays_98 (by decide) ?_
          exact ih2 (v12) Ia2 La2 _ _ ls hI hK (by first | omega | decide) (by omega) hM hS (lv_sub hl [0, 1, 2, 3] rfl)
        · have hc11 := c11
          have q11 := xr8.t hc11
          refine lv_aload_n hx hb dX6_tryWays_35 rfl (lv_at hl 2 rfl) ?_
          refine lv_iload_n hx hb dX6_tryWays_36 rfl (lv_at hl 3 rfl) ?_
          refine lv_iload_n hx hb dX6_tryWays_37 rfl (lv_at hl 0 rfl) ?_
          refine m_callv (m_runV (100) (As := [.int (a0), .int (x3_2)]) (rest := []) hx hb hml hown hts hE hM hS hA ce_X8_setWay tb_1079 (V_X8_setWay_100 l D A ad ns Ia2 La2 G (a0) (x3_2) hG hI (by first | omega | decide) (by first | omega | decide)) rfl rfl ⟨Nat.le_of_ble_eq_true rfl, Nat.le_of_ble_eq_true rfl⟩ (hG.1 100 (by decide)) rfl rfl (by decide) rfl hl.1 rfl (Nat.le_of_ble_eq_true rfl) dX6_tryWays_38 ⟨Nat.le_of_ble_eq_true rfl, Nat.le_of_ble_eq_true rfl⟩) hS (fun u H locs hw hM hS => ?_)
          obtain ⟨I13, L14, rfl, hI, hkI13, xI13⟩ := hw
          have hM : Mem D A ad ns I13 L14 G H := hM
          have hK := hK.trans hkI13 rfl
          refine lv_aload_n hx hb dX6_tryWays_41 rfl (lv_at hl 1 rfl) ?_
          refine m_getr (50) 3 (10) hx hb hts hown hE oc6 hM (hG.1 50 (by decide)) rfl (by decide) rfl (hG.2 (50, 3, 10) (by decide)) (by decide) tb_274 dX6_tryWays_42 ?_
          refine lv_aload_n hx hb dX6_tryWays_45 rfl (lv_at hl 2 rfl) ?_
          refine lv_iload_n hx hb dX6_tryWays_46 rfl (lv_at hl 3 rfl) ?_
          refine m_callv (m_runV (10) (As := [.ref (ad (100)), .int (a0)]) (rest := []) hx hb hml hown hts hE hM hS hA ce_X1_shine tb_1083 (V_X1_shine_100 l D A ad ns I13 L14 G (a0) hG hI ((s_or (by omega) xI13)) (by first | omega | decide)) rfl rfl ⟨Nat.le_of_ble_eq_true rfl, Nat.le_of_ble_eq_true rfl⟩ (hG.1 10 (by decide)) rfl rfl (by decide) rfl hl.1 rfl (Nat.le_of_ble_eq_true rfl) dX6_tryWays_47 ⟨Nat.le_of_ble_eq_true rfl, Nat.le_of_ble_eq_true rfl⟩) hS (fun u H locs hw hM hS => ?_)
          obtain ⟨I15, L16, rfl, hI, hkI15⟩ := hw
          have hM : Mem D A ad ns I15 L16 G H := hM
          have hK := hK.trans hkI15 rfl
          refine lv_aload_n hx hb dX6_tryWays_50 rfl (lv_at hl 1 rfl) ?_
          refine m_getr (50) 3 (10) hx hb hts hown hE oc6 hM (hG.1 50 (by decide)) rfl (by decide) rfl (hG.2 (50, 3, 10) (by decide)) (by decide) tb_274 dX6_tryWays_51 ?_
          refine m_calli (m_runV (10) (As := []) (rest := []) hx hb hml hown hts hE hM hS hA ce_X1_total tb_1084 (V_X1_total l D A ad ns I15 L16 G hG hI) rfl rfl ⟨Nat.le_of_ble_eq_true rfl, Nat.le_of_ble_eq_true rfl⟩ (hG.1 10 (by decide)) rfl rfl (by decide) rfl hl.1 rfl (Nat.le_of_ble_eq_true rfl) dX6_tryWays_54 ⟨Nat.le_of_ble_eq_true rfl, Nat.le_of_ble_eq_true rfl⟩) hS (fun r17 u H locs hw hM hS => ?_)
          obtain ⟨rfl, xr17⟩ := hw
          have hM : Mem D A ad ns I15 L16 G H := hM
          refine lv_aload_n hx hb dX6_tryWays_57 rfl (lv_at hl 1 rfl) ?_
          refine m_geti (50) 2 hx hb hts hown hE oc6 hM (hG.1 50 (by decide)) rfl (by decide) rfl tb_272 dX6_tryWays_58 ?_
          have z18 : I15 (50) 2 = Ia2 (50) 2 := ((hkI15.get (50) 2 rfl)).trans (hkI13.get (50) 2 rfl)
          rw [z18]
          refine lv_icmp_le (tgt := 95) hx hb dX6_tryWays_61 (by decide) (fun c19 => ?_) (fun c19 => ?_)
          · have hc19 := c19
            have q19 := q_le hc19
            obtain ⟨v20, ev20⟩ : ∃ z : Int32, z = x3_2 + Int32.ofInt (1) := ⟨_, rfl⟩
            have tv20 := a_inc ev20 (by decide) (by omega) (by omega)
            refine lv_iinc (v := v20) (lv' := [(3, .int (v20)), (0, .ref (ad (50))), (1, .ref (ad (100))), (2, .int (a0))]) hx hb dX6_tryWays_95 hl (k := 0) rfl ev20.symm (by decide) rfl (fun ls hl => ?_)
            refine lv_goto (tgt := 2) hx hb dX6_tryWays_98 (by decide) ?_
            exact ih2 (v20) I15 L16 _ _ ls hI hK (by first | omega | decide) (by omega) hM hS (lv_sub hl [0, 1, 2, 3] rfl)
          · have hc19 := c19
            have q19 := q_nle hc19
            refine lv_aload_n hx hb dX6_tryWays_64 rfl (lv_at hl 1 rfl) ?_
            refine lv_aload_n hx hb dX6_tryWays_65 rfl (lv_at hl 2 rfl) ?_
            refine m_geti (100) 2 hx hb hts hown hE oc8 hM (hG.1 100 (by decide)) rfl (by decide) rfl tb_42 dX6_tryWays_66 ?_
            have g21 := hI.get (100) 2 (lo := 0) (hi := 23) rfl
            have z22 : I15 (100) 2 = Ia2 (100) 2 := ((hkI15.get (100) 2 rfl)).trans (hkI13.get (100) 2 rfl)
            rw [z22] at g21 ⊢
            refine lv_aload_n hx hb dX6_tryWays_69 rfl (lv_at hl 2 rfl) ?_
            refine m_geti (100) 3 hx hb hts hown hE oc8 hM (hG.1 100 (by decide)) rfl (by decide) rfl tb_46 dX6_tryWays_70 ?_
            have g23 := hI.get (100) 3 (lo := 0) (hi := 23) rfl
            have z24 : I15 (100) 3 = Ia2 (100) 3 := ((hkI15.get (100) 3 rfl)).trans (hkI13.get (100) 3 rfl)
            rw [z24] at g23 ⊢
            refine m_calli (m_runSN (As := [.int (Ia2 (100) 2), .int (Ia2 (100) 3)]) (rest := [.ref (ad (50))]) hx hb hml hown hts hE hM hS hA ce_X9_cellOf (List.mem_of_getElem? (i := 14) rfl) (V_X9_cellOf l D A ad ns I15 L16 G (Ia2 (100) 2) (Ia2 (100) 3) hI (by first | omega | decide) (by first | omega | decide)) rfl rfl ⟨Nat.le_of_ble_eq_true rfl, Nat.le_of_ble_eq_true rfl⟩  rfl hl.1 rfl (Nat.le_of_ble_eq_true rfl) dX6_tryWays_73 ⟨Nat.le_of_ble_eq_true rfl, Nat.le_of_ble_eq_true rfl⟩) hS (fun r25 u H locs hw hM hS => ?_)
            obtain ⟨rfl, xr25⟩ := hw
            have hM : Mem D A ad ns I15 L16 G H := hM
            refine m_puti (50) 0 hx hb hts hown hE oc6 hM hS (hG.1 50 (by decide)) rfl (by decide) rfl rfl rfl rfl tb_268 dX6_tryWays_76 (fun H locs I26 eI26 hM hS => ?_)
            subst eI26
            have hI := hI.putF (n := 50) (k := 0) (v := r25) rfl
            have hK := hK.put (n := 50) (k := 0) (v := r25) (by first | rfl | simp [inR])
            refine lv_aload_n hx hb dX6_tryWays_79 rfl (lv_at hl 1 rfl) ?_
            refine lv_iload_n hx hb dX6_tryWays_80 rfl (lv_at hl 0 rfl) ?_
            refine m_puti (50) 1 hx hb hts hown hE oc6 hM hS (hG.1 50 (by decide)) rfl (by decide) rfl rfl rfl rfl tb_270 dX6_tryWays_81 (fun H locs I27 eI27 hM hS => ?_)
            subst eI27
            have hI := hI.putF (n := 50) (k := 1) (v := x3_2) rfl
            have hK := hK.put (n := 50) (k := 1) (v := x3_2) (by first | rfl | simp [inR])
            refine lv_aload_n hx hb dX6_tryWays_84 rfl (lv_at hl 1 rfl) ?_
            refine lv_aload_n hx hb dX6_tryWays_85 rfl (lv_at hl 1 rfl) ?_
            refine m_getr (50) 3 (10) hx hb hts hown hE oc6 hM (hG.1 50 (by decide)) rfl (by decide) rfl (hG.2 (50, 3, 10) (by decide)) (by decide) tb_274 dX6_tryWays_86 ?_
            refine m_calli (m_runV (10) (As := []) (rest := [.ref (ad (50))]) hx hb hml hown hts hE hM hS hA ce_X1_total tb_1084 (V_X1_total l D A ad ns (u2 (u2 I15 (50) 0 (r25)) (50) 1 (x3_2)) L16 G hG hI) rfl rfl ⟨Nat.le_of_ble_eq_true rfl, Nat.le_of_ble_eq_true rfl⟩ (hG.1 10 (by decide)) rfl rfl (by decide) rfl hl.1 rfl (Nat.le_of_ble_eq_true rfl) dX6_tryWays_89 ⟨Nat.le_of_ble_eq_true rfl, Nat.le_of_ble_eq_true rfl⟩) hS (fun r28 u H locs hw hM hS => ?_)
            obtain ⟨rfl, xr28⟩ := hw
            have hM : Mem D A ad ns (u2 (u2 I15 (50) 0 (r25)) (50) 1 (x3_2)) L16 G H := hM
            refine m_puti (50) 2 hx hb hts hown hE oc6 hM hS (hG.1 50 (by decide)) rfl (by decide) rfl rfl rfl rfl tb_272 dX6_tryWays_92 (fun H locs I29 eI29 hM hS => ?_)
            subst eI29
            have hI := hI.putF (n := 50) (k := 2) (v := r28) rfl
            have hK := hK.put (n := 50) (k := 2) (v := r28) (by first | rfl | simp [inR])
            obtain ⟨v30, ev30⟩ : ∃ z : Int32, z = x3_2 + Int32.ofInt (1) := ⟨_, rfl⟩
            have tv30 := a_inc ev30 (by decide) (by omega) (by omega)
            refine lv_iinc (v := v30) (lv' := [(3, .int (v30)), (0, .ref (ad (50))), (1, .ref (ad (100))), (2, .int (a0))]) hx hb dX6_tryWays_95 hl (k := 0) rfl ev30.symm (by decide) rfl (fun ls hl => ?_)
            refine lv_goto (tgt := 2) hx hb dX6_tryWays_98 (by decide) ?_
            exact ih2 (v30) (u2 (u2 (u2 I15 (50) 0 (r25)) (50) 1 (x3_2)) (50) 2 (r28)) L16 _ _ ls hI hK (by first | omega | decide) (by omega) hM hS (lv_sub hl [0, 1, 2, 3] rfl)
  exact loop2 (_ + 1) (0) I L _ _ ls hI hK (by first | omega | decide) (Nat.lt_succ_self _) hM hS (lv_sub hl [0, 1, 2, 3] rfl)
theorem dX6_search_0 : decode cX6_search 0 = .ok (.aload_n 0, 1) := by decide +kernel
theorem dX6_search_1 : decode cX6_search 1 = .ok (.bipush (-2), 2) := by decide +kernel
theorem dX6_search_3 : decode cX6_search 3 = .ok (.putfield 15, 3) := by decide +kernel
theorem dX6_search_6 : decode cX6_search 6 = .ok (.aload_n 0, 1) := by decide +kernel
theorem dX6_search_7 : decode cX6_search 7 = .ok (.bipush (-2), 2) := by decide +kernel
theorem dX6_search_9 : decode cX6_search 9 = .ok (.putfield 19, 3) := by decide +kernel
theorem dX6_search_12 : decode cX6_search 12 = .ok (.aload_n 0, 1) := by decide +kernel
theorem dX6_search_13 : decode cX6_search 13 = .ok (.bipush (-2), 2) := by decide +kernel
theorem dX6_search_15 : decode cX6_search 15 = .ok (.putfield 22, 3) := by decide +kernel
theorem dX6_search_18 : decode cX6_search 18 = .ok (.aload_n 1, 1) := by decide +kernel
theorem dX6_search_19 : decode cX6_search 19 = .ok (.getfield 25, 3) := by decide +kernel
theorem dX6_search_22 : decode cX6_search 22 = .ok (.istore_n 3, 1) := by decide +kernel
theorem dX6_search_23 : decode cX6_search 23 = .ok (.aload_n 1, 1) := by decide +kernel
theorem dX6_search_24 : decode cX6_search 24 = .ok (.getfield 30, 3) := by decide +kernel
theorem dX6_search_27 : decode cX6_search 27 = .ok (.istore 4, 2) := by decide +kernel
theorem dX6_search_29 : decode cX6_search 29 = .ok (.aload_n 1, 1) := by decide +kernel
theorem dX6_search_30 : decode cX6_search 30 = .ok (.iload_n 2, 1) := by decide +kernel
theorem dX6_search_31 : decode cX6_search 31 = .ok (.invokevirtual 33, 3) := by decide +kernel
theorem dX6_search_34 : decode cX6_search 34 = .ok (.istore 5, 2) := by decide +kernel
theorem dX6_search_36 : decode cX6_search 36 = .ok (.iconst 0, 1) := by decide +kernel
theorem dX6_search_37 : decode cX6_search 37 = .ok (.istore 6, 2) := by decide +kernel
theorem dX6_search_39 : decode cX6_search 39 = .ok (.iload 6, 2) := by decide +kernel
theorem dX6_search_41 : decode cX6_search 41 = .ok (.aload_n 1, 1) := by decide +kernel
theorem dX6_search_42 : decode cX6_search 42 = .ok (.getfield 37, 3) := by decide +kernel
theorem dX6_search_45 : decode cX6_search 45 = .ok (.if_icmp .ge 92, 3) := by decide +kernel
theorem dX6_search_48 : decode cX6_search 48 = .ok (.iconst 0, 1) := by decide +kernel
theorem dX6_search_49 : decode cX6_search 49 = .ok (.istore 7, 2) := by decide +kernel
theorem dX6_search_51 : decode cX6_search 51 = .ok (.iload 7, 2) := by decide +kernel
theorem dX6_search_53 : decode cX6_search 53 = .ok (.aload_n 1, 1) := by decide +kernel
theorem dX6_search_54 : decode cX6_search 54 = .ok (.getfield 40, 3) := by decide +kernel
theorem dX6_search_57 : decode cX6_search 57 = .ok (.if_icmp .ge 74, 3) := by decide +kernel
theorem dX6_search_60 : decode cX6_search 60 = .ok (.iload 7, 2) := by decide +kernel
theorem dX6_search_62 : decode cX6_search 62 = .ok (.iload_n 3, 1) := by decide +kernel
theorem dX6_search_63 : decode cX6_search 63 = .ok (.if_icmp .ne 14, 3) := by decide +kernel
theorem dX6_search_66 : decode cX6_search 66 = .ok (.iload 6, 2) := by decide +kernel
theorem dX6_search_68 : decode cX6_search 68 = .ok (.iload 4, 2) := by decide +kernel
theorem dX6_search_70 : decode cX6_search 70 = .ok (.if_icmp .ne 7, 3) := by decide +kernel
theorem dX6_search_73 : decode cX6_search 73 = .ok (.iconst 1, 1) := by decide +kernel
theorem dX6_search_74 : decode cX6_search 74 = .ok (.goto 4, 3) := by decide +kernel
theorem dX6_search_77 : decode cX6_search 77 = .ok (.iconst 0, 1) := by decide +kernel
theorem dX6_search_78 : decode cX6_search 78 = .ok (.istore 8, 2) := by decide +kernel
theorem dX6_search_80 : decode cX6_search 80 = .ok (.iload 8, 2) := by decide +kernel
theorem dX6_search_82 : decode cX6_search 82 = .ok (.ifCond .ne 43, 3) := by decide +kernel
theorem dX6_search_85 : decode cX6_search 85 = .ok (.aload_n 1, 1) := by decide +kernel
theorem dX6_search_86 : decode cX6_search 86 = .ok (.iload 7, 2) := by decide +kernel
theorem dX6_search_88 : decode cX6_search 88 = .ok (.iload 6, 2) := by decide +kernel
theorem dX6_search_90 : decode cX6_search 90 = .ok (.invokestatic 43, 3) := by decide +kernel
theorem dX6_search_93 : decode cX6_search 93 = .ok (.ifCond .eq 32, 3) := by decide +kernel
theorem dX6_search_96 : decode cX6_search 96 = .ok (.aload_n 1, 1) := by decide +kernel
theorem dX6_search_97 : decode cX6_search 97 = .ok (.iload 7, 2) := by decide +kernel
theorem dX6_search_99 : decode cX6_search 99 = .ok (.iload 6, 2) := by decide +kernel
theorem dX6_search_101 : decode cX6_search 101 = .ok (.invokevirtual 47, 3) := by decide +kernel
theorem dX6_search_104 : decode cX6_search 104 = .ok (.ifCond .eq 21, 3) := by decide +kernel
theorem dX6_search_107 : decode cX6_search 107 = .ok (.aload_n 1, 1) := by decide +kernel
theorem dX6_search_108 : decode cX6_search 108 = .ok (.iload 7, 2) := by decide +kernel
theorem dX6_search_110 : decode cX6_search 110 = .ok (.putfield 25, 3) := by decide +kernel
theorem dX6_search_113 : decode cX6_search 113 = .ok (.aload_n 1, 1) := by decide +kernel
theorem dX6_search_114 : decode cX6_search 114 = .ok (.iload 6, 2) := by decide +kernel
theorem dX6_search_116 : decode cX6_search 116 = .ok (.putfield 30, 3) := by decide +kernel
theorem dX6_search_119 : decode cX6_search 119 = .ok (.aload_n 0, 1) := by decide +kernel
theorem dX6_search_120 : decode cX6_search 120 = .ok (.aload_n 1, 1) := by decide +kernel
theorem dX6_search_121 : decode cX6_search 121 = .ok (.iload_n 2, 1) := by decide +kernel
theorem dX6_search_122 : decode cX6_search 122 = .ok (.invokevirtual 51, 3) := by decide +kernel
theorem dX6_search_125 : decode cX6_search 125 = .ok (.iinc 7 1, 3) := by decide +kernel
theorem dX6_search_128 : decode cX6_search 128 = .ok (.goto (-77), 3) := by decide +kernel
theorem dX6_search_131 : decode cX6_search 131 = .ok (.iinc 6 1, 3) := by decide +kernel
theorem dX6_search_134 : decode cX6_search 134 = .ok (.goto (-95), 3) := by decide +kernel
theorem dX6_search_137 : decode cX6_search 137 = .ok (.aload_n 1, 1) := by decide +kernel
theorem dX6_search_138 : decode cX6_search 138 = .ok (.iload_n 3, 1) := by decide +kernel
theorem dX6_search_139 : decode cX6_search 139 = .ok (.putfield 25, 3) := by decide +kernel
theorem dX6_search_142 : decode cX6_search 142 = .ok (.aload_n 1, 1) := by decide +kernel
theorem dX6_search_143 : decode cX6_search 143 = .ok (.iload 4, 2) := by decide +kernel
theorem dX6_search_145 : decode cX6_search 145 = .ok (.putfield 30, 3) := by decide +kernel
theorem dX6_search_148 : decode cX6_search 148 = .ok (.aload_n 1, 1) := by decide +kernel
theorem dX6_search_149 : decode cX6_search 149 = .ok (.iload_n 2, 1) := by decide +kernel
theorem dX6_search_150 : decode cX6_search 150 = .ok (.iload 5, 2) := by decide +kernel
theorem dX6_search_152 : decode cX6_search 152 = .ok (.invokevirtual 55, 3) := by decide +kernel
theorem dX6_search_155 : decode cX6_search 155 = .ok (.return_, 1) := by decide +kernel
theorem ce_X6_search : CeV RX6 yX6_search cX6_search 9 none 2 := ⟨tb_1064, tb_1065, tb_7, tb_1066, rfl, by decide, by decide, by decide +kernel⟩
set_option maxHeartbeats 4000000 in
set_option maxRecDepth 20000 in
theorem V_X6_search (l : Launch) (D : va_G) (A : Nat → Prop) (ad : Nat → Nat) (ns : List Nat) (I : MI) (L : ML) (G : MG) (a0 : Int32) (hG : SGC ns G) (hI : INV I) (ha0 : 0 ≤ a0.toInt ∧ a0.toInt ≤ 23) : Met l yX6_search (wd yX6_search cX6_search 9 none) ({ frames := 5, cells := 0, slots := 0, locals := 130 }) (va_Pc [.ref (ad (50)), .ref (ad (100)), .int a0] (PM D A ad ns I L G)) (va_Qv (fun u => ∃ I2 L2, u = (ad, ns, I2, L2, G) ∧ INV I2 ∧ Kp [(11, 15), (105, 106)] [(10, 2), (10, 3), (10, 4), (10, 5), (10, 6), (10, 7), (10, 11), (10, 12), (50, 0), (50, 1), (50, 2), (100, 2), (100, 3)] I I2) (BM D A) A) 0 0 A := by
  refine m_ofW (by decide) (Nat.le_of_ble_eq_true rfl) ?_
  intro p e s m below meth c ls args hC hE hM hA hS hl
  obtain ⟨hx, hb, hml, hown, hts, hr, hlocks, hin⟩ := hC
  have km2 : (-2 : Int32).toInt = -2 := by decide
  have k0 : (0 : Int32).toInt = 0 := by decide
  have k1 : (1 : Int32).toInt = 1 := by decide
  have hK : Kp [(11, 15), (105, 106)] [(10, 2), (10, 3), (10, 4), (10, 5), (10, 6), (10, 7), (10, 11), (10, 12), (50, 0), (50, 1), (50, 2), (100, 2), (100, 3)] I I := Kp.rf
  have hl : lv_has ls 9 [(0, .ref (ad (50))), (1, .ref (ad (100))), (2, .int (a0))] := hl
  refine lv_aload_n hx hb dX6_search_0 rfl (lv_at hl 0 rfl) ?_
  refine lv_bipush (v := (-2)) hx hb dX6_search_1 (by decide) ?_
  refine m_puti (50) 0 hx hb hts hown hE oc6 hM hS (hG.1 50 (by decide)) rfl (by decide) rfl rfl rfl rfl tb_268 dX6_search_3 (fun H locs I1 eI1 hM hS => ?_)
  subst eI1
  have hI := hI.putF (n := 50) (k := 0) (v := (-2 : Int32)) rfl
  have hK := hK.put (n := 50) (k := 0) (v := (-2 : Int32)) (by first | rfl | simp [inR])
  refine lv_aload_n hx hb dX6_search_6 rfl (lv_at hl 0 rfl) ?_
  refine lv_bipush (v := (-2)) hx hb dX6_search_7 (by decide) ?_
  refine m_puti (50) 1 hx hb hts hown hE oc6 hM hS (hG.1 50 (by decide)) rfl (by decide) rfl rfl rfl rfl tb_270 dX6_search_9 (fun H locs I2 eI2 hM hS => ?_)
  subst eI2
  have hI := hI.putF (n := 50) (k := 1) (v := (-2 : Int32)) rfl
  have hK := hK.put (n := 50) (k := 1) (v := (-2 : Int32)) (by first | rfl | simp [inR])
  refine lv_aload_n hx hb dX6_search_12 rfl (lv_at hl 0 rfl) ?_
  refine lv_bipush (v := (-2)) hx hb dX6_search_13 (by decide) ?_
  refine m_puti (50) 2 hx hb hts hown hE oc6 hM hS (hG.1 50 (by decide)) rfl (by decide) rfl rfl rfl rfl tb_272 dX6_search_15 (fun H locs I3 eI3 hM hS => ?_)
  subst eI3
  have hI := hI.putF (n := 50) (k := 2) (v := (-2 : Int32)) rfl
  have hK := hK.put (n := 50) (k := 2) (v := (-2 : Int32)) (by first | rfl | simp [inR])
  refine lv_aload_n hx hb dX6_search_18 rfl (lv_at hl 1 rfl) ?_
  refine m_geti (100) 2 hx hb hts hown hE oc8 hM (hG.1 100 (by decide)) rfl (by decide) rfl tb_42 dX6_search_19 ?_
  have g4 := hI.get (100) 2 (lo := 0) (hi := 23) rfl
  have z5 : (u2 (u2 (u2 I (50) 0 ((-2 : Int32))) (50) 1 ((-2 : Int32))) (50) 2 ((-2 : Int32))) (100) 2 = I (100) 2 := (show (u2 (u2 (u2 I (50) 0 ((-2 : Int32))) (50) 1 ((-2 : Int32))) (50) 2 ((-2 : Int32))) (100) 2 = I (100) 2 from by simp [u2_v])
  rw [z5] at g4 ⊢
  refine lv_istore_n (lv' := [(3, .int (I (100) 2)), (0, .ref (ad (50))), (1, .ref (ad (100))), (2, .int (a0))]) hx hb dX6_search_22 rfl hl (by decide) rfl (fun ls hl => ?_)
  refine lv_aload_n hx hb dX6_search_23 rfl (lv_at hl 2 rfl) ?_
  refine m_geti (100) 3 hx hb hts hown hE oc8 hM (hG.1 100 (by decide)) rfl (by decide) rfl tb_46 dX6_search_24 ?_
  have g6 := hI.get (100) 3 (lo := 0) (hi := 23) rfl
  have z7 : (u2 (u2 (u2 I (50) 0 ((-2 : Int32))) (50) 1 ((-2 : Int32))) (50) 2 ((-2 : Int32))) (100) 3 = I (100) 3 := (show (u2 (u2 (u2 I (50) 0 ((-2 : Int32))) (50) 1 ((-2 : Int32))) (50) 2 ((-2 : Int32))) (100) 3 = I (100) 3 from by simp [u2_v])
  rw [z7] at g6 ⊢
  refine lv_istore (lv' := [(4, .int (I (100) 3)), (3, .int (I (100) 2)), (0, .ref (ad (50))), (1, .ref (ad (100))), (2, .int (a0))]) hx hb dX6_search_27 hl (by decide) rfl (fun ls hl => ?_)
  refine lv_aload_n hx hb dX6_search_29 rfl (lv_at hl 3 rfl) ?_
  refine lv_iload_n hx hb dX6_search_30 rfl (lv_at hl 4 rfl) ?_
  refine m_calli (m_runV (100) (As := [.int (a0)]) (rest := []) hx hb hml hown hts hE hM hS hA ce_X8_wayOf tb_1067 (V_X8_wayOf_100 l D A ad ns (u2 (u2 (u2 I (50) 0 ((-2 : Int32))) (50) 1 ((-2 : Int32))) (50) 2 ((-2 : Int32))) L G (a0) hG hI (by first | omega | decide)) rfl rfl ⟨Nat.le_of_ble_eq_true rfl, Nat.le_of_ble_eq_true rfl⟩ (hG.1 100 (by decide)) rfl rfl (by decide) rfl hl.1 rfl (Nat.le_of_ble_eq_true rfl) dX6_search_31 ⟨Nat.le_of_ble_eq_true rfl, Nat.le_of_ble_eq_true rfl⟩) hS (fun r8 u H locs hw hM hS => ?_)
  obtain ⟨rfl, xr8⟩ := hw
  have hM : Mem D A ad ns (u2 (u2 (u2 I (50) 0 ((-2 : Int32))) (50) 1 ((-2 : Int32))) (50) 2 ((-2 : Int32))) L G H := hM
  have lzr8 := hI.get 105 (((u2 (u2 (u2 I (50) 0 ((-2 : Int32))) (50) 1 ((-2 : Int32))) (50) 2 ((-2 : Int32))) 100 5 * 24 + a0).toNatClampNeg) (lo := -1) (hi := 7) rfl
  rw [← xr8] at lzr8
  refine lv_istore (lv' := [(5, .int (r8)), (4, .int (I (100) 3)), (3, .int (I (100) 2)), (0, .ref (ad (50))), (1, .ref (ad (100))), (2, .int (a0))]) hx hb dX6_search_34 hl (by decide) rfl (fun ls hl => ?_)
  refine lv_iconst (v := (0)) hx hb dX6_search_36 (by decide) ?_
  refine lv_istore (lv' := [(6, .int (0)), (5, .int (r8)), (4, .int (I (100) 3)), (3, .int (I (100) 2)), (0, .ref (ad (50))), (1, .ref (ad (100))), (2, .int (a0))]) hx hb dX6_search_37 hl (by decide) rfl (fun ls hl => ?_)
  have loop39 : ∀ (n : Nat) (x6_39 : Int32) (Ia39 : MI) (La39 : ML) (H : Heap) (locs : List Loc) (ls : Array Slot), INV Ia39 → Kp [(11, 15), (105, 106)] [(10, 2), (10, 3), (10, 4), (10, 5), (10, 6), (10, 7), (10, 11), (10, 12), (50, 0), (50, 1), (50, 2), (100, 2), (100, 3)] I Ia39 → (0 ≤ x6_39.toInt ∧ x6_39.toInt ≤ 24) → (24 - x6_39.toInt).toNat < n → Mem D A ad ns Ia39 La39 G H → va_S A s.heap H locs → lv_has ls 9 [(6, .int (x6_39)), (5, .int (r8)), (4, .int (I (100) 3)), (3, .int (I (100) 2)), (0, .ref (ad (50))), (1, .ref (ad (100))), (2, .int (a0))] → W p l e ({ frames := 5, cells := 0, slots := 0, locals := 130 } : Room) s m args below meth c H locs 0 0 (MQ below (va_Qv (fun u => ∃ I2 L2, u = (ad, ns, I2, L2, G) ∧ INV I2 ∧ Kp [(11, 15), (105, 106)] [(10, 2), (10, 3), (10, 4), (10, 5), (10, 6), (10, 7), (10, 11), (10, 12), (50, 0), (50, 1), (50, 2), (100, 2), (100, 3)] I I2) (BM D A) A) args s 0 0 A) (F0 m 39 ls []) := by
    intro n
    induction n with
    | zero =>
      intro x6_39 Ia39 La39 H locs ls hI hK hr6_39 hmu
      exact absurd hmu (Nat.not_lt_zero _)
    | succ n ih39 =>
      intro x6_39 Ia39 La39 H locs ls hI hK hr6_39 hmu39 hM hS hl
      refine lv_iload hx hb dX6_search_39 (lv_at hl 0 rfl) ?_
      refine lv_aload_n hx hb dX6_search_41 rfl (lv_at hl 5 rfl) ?_
      refine m_geti (100) 1 hx hb hts hown hE oc8 hM (hG.1 100 (by decide)) rfl (by decide) rfl tb_38 dX6_search_42 ?_
      have g9 := hI.get (100) 1 (lo := 0) (hi := 24) rfl
      refine lv_icmp_ge (tgt := 137) hx hb dX6_search_45 (by decide) (fun c10 => ?_) (fun c10 => ?_)
      · have hc10 := c10
        have q10 := q_le hc10
        refine lv_aload_n hx hb dX6_search_137 rfl (lv_at hl 5 rfl) ?_
        refine lv_iload_n hx hb dX6_search_138 rfl (lv_at hl 3 rfl) ?_
        refine m_puti (100) 2 hx hb hts hown hE oc8 hM hS (hG.1 100 (by decide)) rfl (by decide) rfl rfl rfl rfl tb_42 dX6_search_139 (fun H locs I11 eI11 hM hS => ?_)
        subst eI11
        have hI := hI.put (n := 100) (k := 2) (v := I (100) 2) (lo := 0) (hi := 23) rfl (by first | omega | decide)
        have hK := hK.put (n := 100) (k := 2) (v := I (100) 2) (by first | rfl | simp [inR])
        refine lv_aload_n hx hb dX6_search_142 rfl (lv_at hl 5 rfl) ?_
        refine lv_iload hx hb dX6_search_143 (lv_at hl 2 rfl) ?_
        refine m_puti (100) 3 hx hb hts hown hE oc8 hM hS (hG.1 100 (by decide)) rfl (by decide) rfl rfl rfl rfl tb_46 dX6_search_145 (fun H locs I12 eI12 hM hS => ?_)
        subst eI12
        have hI := hI.put (n := 100) (k := 3) (v := I (100) 3) (lo := 0) (hi := 23) rfl (by first | omega | decide)
        have hK := hK.put (n := 100) (k := 3) (v := I (100) 3) (by first | rfl | simp [inR])
        refine lv_aload_n hx hb dX6_search_148 rfl (lv_at hl 5 rfl) ?_
        refine lv_iload_n hx hb dX6_search_149 rfl (lv_at hl 6 rfl) ?_
        refine lv_iload hx hb dX6_search_150 (lv_at hl 1 rfl) ?_
        refine m_callv (m_runV (100) (As := [.int (a0), .int (r8)]) (rest := []) hx hb hml hown hts hE hM hS hA ce_X8_setWay tb_1079 (V_X8_setWay_100 l D A ad ns (u2 (u2 Ia39 (100) 2 (I (100) 2)) (100) 3 (I (100) 3)) La39 G (a0) (r8) hG hI (by first | omega | decide) (by first | omega | decide)) rfl rfl ⟨Nat.le_of_ble_eq_true rfl, Nat.le_of_ble_eq_true rfl⟩ (hG.1 100 (by decide)) rfl rfl (by decide) rfl hl.1 rfl (Nat.le_of_ble_eq_true rfl) dX6_search_152 ⟨Nat.le_of_ble_eq_true rfl, Nat.le_of_ble_eq_true rfl⟩) hS (fun u H locs hw hM hS => ?_)
        obtain ⟨I13, L14, rfl, hI, hkI13, xI13⟩ := hw
        have hM : Mem D A ad ns I13 L14 G H := hM
        have hK := hK.trans hkI13 rfl
        exact m_vret hx hb hr hlocks hM hS (Nat.le_of_ble_eq_true rfl) (Nat.le_of_ble_eq_true rfl) ⟨_, _, rfl, hI, hK⟩ dX6_search_155
      · have hc10 := c10
        have q10 := q_nle hc10
        refine lv_iconst (v := (0)) hx hb dX6_search_48 (by decide) ?_
        refine lv_istore (lv' := [(7, .int (0)), (6, .int (x6_39)), (5, .int (r8)), (4, .int (I (100) 3)), (3, .int (I (100) 2)), (0, .ref (ad (50))), (1, .ref (ad (100))), (2, .int (a0))]) hx hb dX6_search_49 hl (by decide) rfl (fun ls hl => ?_)
        have loop51 : ∀ (n : Nat) (x7_51 : Int32) (Ia51 : MI) (La51 : ML) (H : Heap) (locs : List Loc) (ls : Array Slot), INV Ia51 → Kp [(11, 15), (105, 106)] [(10, 2), (10, 3), (10, 4), (10, 5), (10, 6), (10, 7), (10, 11), (10, 12), (50, 0), (50, 1), (50, 2), (100, 2), (100, 3)] I Ia51 → (0 ≤ x7_51.toInt ∧ x7_51.toInt ≤ 24) → (24 - x7_51.toInt).toNat < n → Mem D A ad ns Ia51 La51 G H → va_S A s.heap H locs → lv_has ls 9 [(7, .int (x7_51)), (6, .int (x6_39)), (5, .int (r8)), (4, .int (I (100) 3)), (3, .int (I (100) 2)), (0, .ref (ad (50))), (1, .ref (ad (100))), (2, .int (a0))] → W p l e ({ frames := 5, cells := 0, slots := 0, locals := 130 } : Room) s m args below meth c H locs 0 0 (MQ below (va_Qv (fun u => ∃ I2 L2, u = (ad, ns, I2, L2, G) ∧ INV I2 ∧ Kp [(11, 15), (105, 106)] [(10, 2), (10, 3), (10, 4), (10, 5), (10, 6), (10, 7), (10, 11), (10, 12), (50, 0), (50, 1), (50, 2), (100, 2), (100, 3)] I I2) (BM D A) A) args s 0 0 A) (F0 m 51 ls []) := by
          intro n
          induction n with
          | zero =>
            intro x7_51 Ia51 La51 H locs ls hI hK hr7_51 hmu
            exact absurd hmu (Nat.not_lt_zero _)
          | succ n ih51 =>
            intro x7_51 Ia51 La51 H locs ls hI hK hr7_51 hmu51 hM hS hl
            refine lv_iload hx hb dX6_search_51 (lv_at hl 0 rfl) ?_
            refine lv_aload_n hx hb dX6_search_53 rfl (lv_at hl 6 rfl) ?_
            refine m_geti (100) 0 hx hb hts hown hE oc8 hM (hG.1 100 (by decide)) rfl (by decide) rfl tb_35 dX6_search_54 ?_
            have g15 := hI.get (100) 0 (lo := 0) (hi := 24) rfl
            refine lv_icmp_ge (tgt := 131) hx hb dX6_search_57 (by decide) (fun c16 => ?_) (fun c16 => ?_)
            · have hc16 := c16
              have q16 := q_le hc16
              obtain ⟨v17, ev17⟩ : ∃ z : Int32, z = x6_39 + Int32.ofInt (1) := ⟨_, rfl⟩
              have tv17 := a_inc ev17 (by decide) (by omega) (by omega)
              refine lv_iinc (v := v17) (lv' := [(6, .int (v17)), (7, .int (x7_51)), (5, .int (r8)), (4, .int (I (100) 3)), (3, .int (I (100) 2)), (0, .ref (ad (50))), (1, .ref (ad (100))), (2, .int (a0))]) hx hb dX6_search_131 hl (k := 1) rfl ev17.symm (by decide) rfl (fun ls hl => ?_)
              refine lv_goto (tgt := 39) hx hb dX6_search_134 (by decide) ?_
              exact ih39 (v17) Ia51 La51 _ _ ls hI hK (by first | omega | decide) (by omega) hM hS (lv_sub hl [0, 2, 3, 4, 5, 6, 7] rfl)
            · have hc16 := c16
              have q16 := q_nle hc16
              refine lv_iload hx hb dX6_search_60 (lv_at hl 0 rfl) ?_
              refine lv_iload_n hx hb dX6_search_62 rfl (lv_at hl 4 rfl) ?_
              refine lv_icmp_ne (tgt := 77) hx hb dX6_search_63 (by decide) (fun c18 => ?_) (fun c18 => ?_)
              · have hc18 := c18
                have q18 := q_ne hc18
                refine lv_iconst (v := (0)) hx hb dX6_search_77 (by decide) ?_
                refine lv_istore (lv' := [(8, .int (0)), (7, .int (x7_51)), (6, .int (x6_39)), (5, .int (r8)), (4, .int (I (100) 3)), (3, .int (I (100) 2)), (0, .ref (ad (50))), (1, .ref (ad (100))), (2, .int (a0))]) hx hb dX6_search_78 hl (by decide) rfl (fun ls hl => ?_)
                refine lv_iload hx hb dX6_search_80 (lv_at hl 0 rfl) ?_
                refine lv_if_ne (tgt := 125) hx hb dX6_search_82 (by decide) (fun c19 => ?_) (fun c19 => ?_)
                · exact absurd c19 (by decide)
                · have hc19 := c19
                  have q19 := q_eq hc19
                  refine lv_aload_n hx hb dX6_search_85 rfl (lv_at hl 7 rfl) ?_
                  refine lv_iload hx hb dX6_search_86 (lv_at hl 1 rfl) ?_
                  refine lv_iload hx hb dX6_search_88 (lv_at hl 2 rfl) ?_
                  refine m_calli (m_runS (As := [.ref (ad (100)), .int (x7_51), .int (x6_39)]) (rest := []) hx hb hml hown hts hE hM hS hA ce_X6_isEdge tb_1068 (V_X6_isEdge l D A ad ns Ia51 La51 G (x7_51) (x6_39) hG hI) rfl rfl ⟨Nat.le_of_ble_eq_true rfl, Nat.le_of_ble_eq_true rfl⟩  rfl hl.1 rfl (Nat.le_of_ble_eq_true rfl) dX6_search_90 ⟨Nat.le_of_ble_eq_true rfl, Nat.le_of_ble_eq_true rfl⟩) hS (fun r20 u H locs hw hM hS => ?_)
                  obtain ⟨rfl, xr20⟩ := hw
                  have hM : Mem D A ad ns Ia51 La51 G H := hM
                  refine lv_if_eq (tgt := 125) hx hb dX6_search_93 (by decide) (fun c21 => ?_) (fun c21 => ?_)
                  · have hc21 := c21
                    have q21 := q_eq hc21
                    obtain ⟨v22, ev22⟩ : ∃ z : Int32, z = x7_51 + Int32.ofInt (1) := ⟨_, rfl⟩
                    have tv22 := a_inc ev22 (by decide) (by omega) (by omega)
                    refine lv_iinc (v := v22) (lv' := [(7, .int (v22)), (8, .int (0)), (6, .int (x6_39)), (5, .int (r8)), (4, .int (I (100) 3)), (3, .int (I (100) 2)), (0, .ref (ad (50))), (1, .ref (ad (100))), (2, .int (a0))]) hx hb dX6_search_125 hl (k := 1) rfl ev22.symm (by decide) rfl (fun ls hl => ?_)
                    refine lv_goto (tgt := 51) hx hb dX6_search_128 (by decide) ?_
                    exact ih51 (v22) Ia51 La51 _ _ ls hI hK (by first | omega | decide) (by omega) hM hS (lv_sub hl [0, 2, 3, 4, 5, 6, 7, 8] rfl)
                  · have hc21 := c21
                    have q21 := q_ne hc21
                    refine lv_aload_n hx hb dX6_search_96 rfl (lv_at hl 7 rfl) ?_
                    refine lv_iload hx hb dX6_search_97 (lv_at hl 1 rfl) ?_
                    refine lv_iload hx hb dX6_search_99 (lv_at hl 2 rfl) ?_
                    refine m_calli (m_runV (100) (As := [.int (x7_51), .int (x6_39)]) (rest := []) hx hb hml hown hts hE hM hS hA ce_X8_isOpen tb_1071 (V_X8_isOpen_100 l D A ad ns Ia51 La51 G (x7_51) (x6_39) hG hI) rfl rfl ⟨Nat.le_of_ble_eq_true rfl, Nat.le_of_ble_eq_true rfl⟩ (hG.1 100 (by decide)) rfl rfl (by decide) rfl hl.1 rfl (Nat.le_of_ble_eq_true rfl) dX6_search_101 ⟨Nat.le_of_ble_eq_true rfl, Nat.le_of_ble_eq_true rfl⟩) hS (fun r23 u H locs hw hM hS => ?_)
                    obtain ⟨rfl, xr23⟩ := hw
                    have hM : Mem D A ad ns Ia51 La51 G H := hM
                    have g24 := hI.get 100 0 (lo := 0) (hi := 24) rfl
                    have g25 := hI.get 100 1 (lo := 0) (hi := 24) rfl
                    refine lv_if_eq (tgt := 125) hx hb dX6_search_104 (by decide) (fun c26 => ?_) (fun c26 => ?_)
                    · have hc26 := c26
                      have q26 := q_eq hc26
                      obtain ⟨v27, ev27⟩ : ∃ z : Int32, z = x7_51 + Int32.ofInt (1) := ⟨_, rfl⟩
                      have tv27 := a_inc ev27 (by decide) (by omega) (by omega)
                      refine lv_iinc (v := v27) (lv' := [(7, .int (v27)), (8, .int (0)), (6, .int (x6_39)), (5, .int (r8)), (4, .int (I (100) 3)), (3, .int (I (100) 2)), (0, .ref (ad (50))), (1, .ref (ad (100))), (2, .int (a0))]) hx hb dX6_search_125 hl (k := 1) rfl ev27.symm (by decide) rfl (fun ls hl => ?_)
                      refine lv_goto (tgt := 51) hx hb dX6_search_128 (by decide) ?_
                      exact ih51 (v27) Ia51 La51 _ _ ls hI hK (by first | omega | decide) (by omega) hM hS (lv_sub hl [0, 2, 3, 4, 5, 6, 7, 8] rfl)
                    · have hc26 := c26
                      have q26 := q_ne hc26
                      refine lv_aload_n hx hb dX6_search_107 rfl (lv_at hl 7 rfl) ?_
                      refine lv_iload hx hb dX6_search_108 (lv_at hl 1 rfl) ?_
                      refine m_puti (100) 2 hx hb hts hown hE oc8 hM hS (hG.1 100 (by decide)) rfl (by decide) rfl rfl rfl rfl tb_42 dX6_search_110 (fun H locs I28 eI28 hM hS => ?_)
                      subst eI28
                      have hI := hI.put (n := 100) (k := 2) (v := x7_51) (lo := 0) (hi := 23) rfl (by first | omega | decide)
                      have hK := hK.put (n := 100) (k := 2) (v := x7_51) (by first | rfl | simp [inR])
                      refine lv_aload_n hx hb dX6_search_113 rfl (lv_at hl 7 rfl) ?_
                      refine lv_iload hx hb dX6_search_114 (lv_at hl 2 rfl) ?_
                      refine m_puti (100) 3 hx hb hts hown hE oc8 hM hS (hG.1 100 (by decide)) rfl (by decide) rfl rfl rfl rfl tb_46 dX6_search_116 (fun H locs I29 eI29 hM hS => ?_)
                      subst eI29
                      have hI := hI.put (n := 100) (k := 3) (v := x6_39) (lo := 0) (hi := 23) rfl (by first | omega | decide)
                      have hK := hK.put (n := 100) (k := 3) (v := x6_39) (by first | rfl | simp [inR])
                      refine lv_aload_n hx hb dX6_search_119 rfl (lv_at hl 6 rfl) ?_
                      refine lv_aload_n hx hb dX6_search_120 rfl (lv_at hl 7 rfl) ?_
                      refine lv_iload_n hx hb dX6_search_121 rfl (lv_at hl 8 rfl) ?_
                      refine m_callv (m_runV (50) (As := [.ref (ad (100)), .int (a0)]) (rest := []) hx hb hml hown hts hE hM hS hA ce_X6_tryWays tb_1072 (V_X6_tryWays l D A ad ns (u2 (u2 Ia51 (100) 2 (x7_51)) (100) 3 (x6_39)) La51 G (a0) hG hI (by first | omega | decide)) rfl rfl ⟨Nat.le_of_ble_eq_true rfl, Nat.le_of_ble_eq_true rfl⟩ (hG.1 50 (by decide)) rfl rfl (by decide) rfl hl.1 rfl (Nat.le_of_ble_eq_true rfl) dX6_search_122 ⟨Nat.le_of_ble_eq_true rfl, Nat.le_of_ble_eq_true rfl⟩) hS (fun u H locs hw hM hS => ?_)
                      obtain ⟨I30, L31, rfl, hI, hkI30⟩ := hw
                      have hM : Mem D A ad ns I30 L31 G H := hM
                      have hK := hK.trans hkI30 rfl
                      obtain ⟨v32, ev32⟩ : ∃ z : Int32, z = x7_51 + Int32.ofInt (1) := ⟨_, rfl⟩
                      have tv32 := a_inc ev32 (by decide) (by omega) (by omega)
                      refine lv_iinc (v := v32) (lv' := [(7, .int (v32)), (8, .int (0)), (6, .int (x6_39)), (5, .int (r8)), (4, .int (I (100) 3)), (3, .int (I (100) 2)), (0, .ref (ad (50))), (1, .ref (ad (100))), (2, .int (a0))]) hx hb dX6_search_125 hl (k := 1) rfl ev32.symm (by decide) rfl (fun ls hl => ?_)
                      refine lv_goto (tgt := 51) hx hb dX6_search_128 (by decide) ?_
                      exact ih51 (v32) I30 L31 _ _ ls hI hK (by first | omega | decide) (by omega) hM hS (lv_sub hl [0, 2, 3, 4, 5, 6, 7, 8] rfl)
              · have hc18 := c18
                have q18 := q_eq hc18
                refine lv_iload hx hb dX6_search_66 (lv_at hl 1 rfl) ?_
                refine lv_iload hx hb dX6_search_68 (lv_at hl 3 rfl) ?_
                refine lv_icmp_ne (tgt := 77) hx hb dX6_search_70 (by decide) (fun c33 => ?_) (fun c33 => ?_)
                · have hc33 := c33
                  have q33 := q_ne hc33
                  refine lv_iconst (v := (0)) hx hb dX6_search_77 (by decide) ?_
                  refine lv_istore (lv' := [(8, .int (0)), (7, .int (x7_51)), (6, .int (x6_39)), (5, .int (r8)), (4, .int (I (100) 3)), (3, .int (I (100) 2)), (0, .ref (ad (50))), (1, .ref (ad (100))), (2, .int (a0))]) hx hb dX6_search_78 hl (by decide) rfl (fun ls hl => ?_)
                  refine lv_iload hx hb dX6_search_80 (lv_at hl 0 rfl) ?_
                  refine lv_if_ne (tgt := 125) hx hb dX6_search_82 (by decide) (fun c34 => ?_) (fun c34 => ?_)
                  · exact absurd c34 (by decide)
                  · have hc34 := c34
                    have q34 := q_eq hc34
                    refine lv_aload_n hx hb dX6_search_85 rfl (lv_at hl 7 rfl) ?_
                    refine lv_iload hx hb dX6_search_86 (lv_at hl 1 rfl) ?_
                    refine lv_iload hx hb dX6_search_88 (lv_at hl 2 rfl) ?_
                    refine m_calli (m_runS (As := [.ref (ad (100)), .int (x7_51), .int (x6_39)]) (rest := []) hx hb hml hown hts hE hM hS hA ce_X6_isEdge tb_1068 (V_X6_isEdge l D A ad ns Ia51 La51 G (x7_51) (x6_39) hG hI) rfl rfl ⟨Nat.le_of_ble_eq_true rfl, Nat.le_of_ble_eq_true rfl⟩  rfl hl.1 rfl (Nat.le_of_ble_eq_true rfl) dX6_search_90 ⟨Nat.le_of_ble_eq_true rfl, Nat.le_of_ble_eq_true rfl⟩) hS (fun r35 u H locs hw hM hS => ?_)
                    obtain ⟨rfl, xr35⟩ := hw
                    have hM : Mem D A ad ns Ia51 La51 G H := hM
                    refine lv_if_eq (tgt := 125) hx hb dX6_search_93 (by decide) (fun c36 => ?_) (fun c36 => ?_)
                    · have hc36 := c36
                      have q36 := q_eq hc36
                      obtain ⟨v37, ev37⟩ : ∃ z : Int32, z = x7_51 + Int32.ofInt (1) := ⟨_, rfl⟩
                      have tv37 := a_inc ev37 (by decide) (by omega) (by omega)
                      refine lv_iinc (v := v37) (lv' := [(7, .int (v37)), (8, .int (0)), (6, .int (x6_39)), (5, .int (r8)), (4, .int (I (100) 3)), (3, .int (I (100) 2)), (0, .ref (ad (50))), (1, .ref (ad (100))), (2, .int (a0))]) hx hb dX6_search_125 hl (k := 1) rfl ev37.symm (by decide) rfl (fun ls hl => ?_)
                      refine lv_goto (tgt := 51) hx hb dX6_search_128 (by decide) ?_
                      exact ih51 (v37) Ia51 La51 _ _ ls hI hK (by first | omega | decide) (by omega) hM hS (lv_sub hl [0, 2, 3, 4, 5, 6, 7, 8] rfl)
                    · have hc36 := c36
                      have q36 := q_ne hc36
                      refine lv_aload_n hx hb dX6_search_96 rfl (lv_at hl 7 rfl) ?_
                      refine lv_iload hx hb dX6_search_97 (lv_at hl 1 rfl) ?_
                      refine lv_iload hx hb dX6_search_99 (lv_at hl 2 rfl) ?_
                      refine m_calli (m_runV (100) (As := [.int (x7_51), .int (x6_39)]) (rest := []) hx hb hml hown hts hE hM hS hA ce_X8_isOpen tb_1071 (V_X8_isOpen_100 l D A ad ns Ia51 La51 G (x7_51) (x6_39) hG hI) rfl rfl ⟨Nat.le_of_ble_eq_true rfl, Nat.le_of_ble_eq_true rfl⟩ (hG.1 100 (by decide)) rfl rfl (by decide) rfl hl.1 rfl (Nat.le_of_ble_eq_true rfl) dX6_search_101 ⟨Nat.le_of_ble_eq_true rfl, Nat.le_of_ble_eq_true rfl⟩) hS (fun r38 u H locs hw hM hS => ?_)
                      obtain ⟨rfl, xr38⟩ := hw
                      have hM : Mem D A ad ns Ia51 La51 G H := hM
                      have g39 := hI.get 100 0 (lo := 0) (hi := 24) rfl
                      have g40 := hI.get 100 1 (lo := 0) (hi := 24) rfl
                      refine lv_if_eq (tgt := 125) hx hb dX6_search_104 (by decide) (fun c41 => ?_) (fun c41 => ?_)
                      · have hc41 := c41
                        have q41 := q_eq hc41
                        obtain ⟨v42, ev42⟩ : ∃ z : Int32, z = x7_51 + Int32.ofInt (1) := ⟨_, rfl⟩
                        have tv42 := a_inc ev42 (by decide) (by omega) (by omega)
                        refine lv_iinc (v := v42) (lv' := [(7, .int (v42)), (8, .int (0)), (6, .int (x6_39)), (5, .int (r8)), (4, .int (I (100) 3)), (3, .int (I (100) 2)), (0, .ref (ad (50))), (1, .ref (ad (100))), (2, .int (a0))]) hx hb dX6_search_125 hl (k := 1) rfl ev42.symm (by decide) rfl (fun ls hl => ?_)
                        refine lv_goto (tgt := 51) hx hb dX6_search_128 (by decide) ?_
                        exact ih51 (v42) Ia51 La51 _ _ ls hI hK (by first | omega | decide) (by omega) hM hS (lv_sub hl [0, 2, 3, 4, 5, 6, 7, 8] rfl)
                      · have hc41 := c41
                        have q41 := q_ne hc41
                        refine lv_aload_n hx hb dX6_search_107 rfl (lv_at hl 7 rfl) ?_
                        refine lv_iload hx hb dX6_search_108 (lv_at hl 1 rfl) ?_
                        refine m_puti (100) 2 hx hb hts hown hE oc8 hM hS (hG.1 100 (by decide)) rfl (by decide) rfl rfl rfl rfl tb_42 dX6_search_110 (fun H locs I43 eI43 hM hS => ?_)
                        subst eI43
                        have hI := hI.put (n := 100) (k := 2) (v := x7_51) (lo := 0) (hi := 23) rfl (by first | omega | decide)
                        have hK := hK.put (n := 100) (k := 2) (v := x7_51) (by first | rfl | simp [inR])
                        refine lv_aload_n hx hb dX6_search_113 rfl (lv_at hl 7 rfl) ?_
                        refine lv_iload hx hb dX6_search_114 (lv_at hl 2 rfl) ?_
                        refine m_puti (100) 3 hx hb hts hown hE oc8 hM hS (hG.1 100 (by decide)) rfl (by decide) rfl rfl rfl rfl tb_46 dX6_search_116 (fun H locs I44 eI44 hM hS => ?_)
                        subst eI44
                        have hI := hI.put (n := 100) (k := 3) (v := x6_39) (lo := 0) (hi := 23) rfl (by first | omega | decide)
                        have hK := hK.put (n := 100) (k := 3) (v := x6_39) (by first | rfl | simp [inR])
                        refine lv_aload_n hx hb dX6_search_119 rfl (lv_at hl 6 rfl) ?_
                        refine lv_aload_n hx hb dX6_search_120 rfl (lv_at hl 7 rfl) ?_
                        refine lv_iload_n hx hb dX6_search_121 rfl (lv_at hl 8 rfl) ?_
                        refine m_callv (m_runV (50) (As := [.ref (ad (100)), .int (a0)]) (rest := []) hx hb hml hown hts hE hM hS hA ce_X6_tryWays tb_1072 (V_X6_tryWays l D A ad ns (u2 (u2 Ia51 (100) 2 (x7_51)) (100) 3 (x6_39)) La51 G (a0) hG hI (by first | omega | decide)) rfl rfl ⟨Nat.le_of_ble_eq_true rfl, Nat.le_of_ble_eq_true rfl⟩ (hG.1 50 (by decide)) rfl rfl (by decide) rfl hl.1 rfl (Nat.le_of_ble_eq_true rfl) dX6_search_122 ⟨Nat.le_of_ble_eq_true rfl, Nat.le_of_ble_eq_true rfl⟩) hS (fun u H locs hw hM hS => ?_)
                        obtain ⟨I45, L46, rfl, hI, hkI45⟩ := hw
                        have hM : Mem D A ad ns I45 L46 G H := hM
                        have hK := hK.trans hkI45 rfl
                        obtain ⟨v47, ev47⟩ : ∃ z : Int32, z = x7_51 + Int32.ofInt (1) := ⟨_, rfl⟩
                        have tv47 := a_inc ev47 (by decide) (by omega) (by omega)
                        refine lv_iinc (v := v47) (lv' := [(7, .int (v47)), (8, .int (0)), (6, .int (x6_39)), (5, .int (r8)), (4, .int (I (100) 3)), (3, .int (I (100) 2)), (0, .ref (ad (50))), (1, .ref (ad (100))), (2, .int (a0))]) hx hb dX6_search_125 hl (k := 1) rfl ev47.symm (by decide) rfl (fun ls hl => ?_)
                        refine lv_goto (tgt := 51) hx hb dX6_search_128 (by decide) ?_
                        exact ih51 (v47) I45 L46 _ _ ls hI hK (by first | omega | decide) (by omega) hM hS (lv_sub hl [0, 2, 3, 4, 5, 6, 7, 8] rfl)
                · have hc33 := c33
                  have q33 := q_eq hc33
                  refine lv_iconst (v := (1)) hx hb dX6_search_73 (by decide) ?_
                  refine lv_goto (tgt := 78) hx hb dX6_search_74 (by decide) ?_
                  refine lv_istore (lv' := [(8, .int (1)), (7, .int (x7_51)), (6, .int (x6_39)), (5, .int (r8)), (4, .int (I (100) 3)), (3, .int (I (100) 2)), (0, .ref (ad (50))), (1, .ref (ad (100))), (2, .int (a0))]) hx hb dX6_search_78 hl (by decide) rfl (fun ls hl => ?_)
                  refine lv_iload hx hb dX6_search_80 (lv_at hl 0 rfl) ?_
                  refine lv_if_ne (tgt := 125) hx hb dX6_search_82 (by decide) (fun c48 => ?_) (fun c48 => ?_)
                  · have hc48 := c48
                    have q48 := q_ne hc48
                    obtain ⟨v49, ev49⟩ : ∃ z : Int32, z = x7_51 + Int32.ofInt (1) := ⟨_, rfl⟩
                    have tv49 := a_inc ev49 (by decide) (by omega) (by omega)
                    refine lv_iinc (v := v49) (lv' := [(7, .int (v49)), (8, .int (1)), (6, .int (x6_39)), (5, .int (r8)), (4, .int (I (100) 3)), (3, .int (I (100) 2)), (0, .ref (ad (50))), (1, .ref (ad (100))), (2, .int (a0))]) hx hb dX6_search_125 hl (k := 1) rfl ev49.symm (by decide) rfl (fun ls hl => ?_)
                    refine lv_goto (tgt := 51) hx hb dX6_search_128 (by decide) ?_
                    exact ih51 (v49) Ia51 La51 _ _ ls hI hK (by first | omega | decide) (by omega) hM hS (lv_sub hl [0, 2, 3, 4, 5, 6, 7, 8] rfl)
                  · exact absurd c48 (by decide)
        exact loop51 (_ + 1) (0) Ia39 La39 _ _ ls hI hK (by first | omega | decide) (Nat.lt_succ_self _) hM hS (lv_sub hl [0, 1, 2, 3, 4, 5, 6, 7] rfl)
  exact loop39 (_ + 1) (0) (u2 (u2 (u2 I (50) 0 ((-2 : Int32))) (50) 1 ((-2 : Int32))) (50) 2 ((-2 : Int32))) L _ _ ls hI hK (by first | omega | decide) (Nat.lt_succ_self _) hM hS (lv_sub hl [0, 1, 2, 3, 4, 5, 6] rfl)
theorem dX7_meet_0 : decode cX7_meet 0 = .ok (.aload_n 0, 1) := by decide +kernel
theorem dX7_meet_1 : decode cX7_meet 1 = .ok (.getfield 32, 3) := by decide +kernel
theorem dX7_meet_4 : decode cX7_meet 4 = .ok (.bipush 24, 2) := by decide +kernel
theorem dX7_meet_6 : decode cX7_meet 6 = .ok (.if_icmp .ge 33, 3) := by decide +kernel
theorem dX7_meet_9 : decode cX7_meet 9 = .ok (.aload_n 0, 1) := by decide +kernel
theorem dX7_meet_10 : decode cX7_meet 10 = .ok (.getfield 9, 3) := by decide +kernel
theorem dX7_meet_13 : decode cX7_meet 13 = .ok (.aload_n 0, 1) := by decide +kernel
theorem dX7_meet_14 : decode cX7_meet 14 = .ok (.getfield 32, 3) := by decide +kernel
theorem dX7_meet_17 : decode cX7_meet 17 = .ok (.iload_n 1, 1) := by decide +kernel
theorem dX7_meet_18 : decode cX7_meet 18 = .ok (.iastore, 1) := by decide +kernel
theorem dX7_meet_19 : decode cX7_meet 19 = .ok (.aload_n 0, 1) := by decide +kernel
theorem dX7_meet_20 : decode cX7_meet 20 = .ok (.getfield 15, 3) := by decide +kernel
theorem dX7_meet_23 : decode cX7_meet 23 = .ok (.aload_n 0, 1) := by decide +kernel
theorem dX7_meet_24 : decode cX7_meet 24 = .ok (.getfield 32, 3) := by decide +kernel
theorem dX7_meet_27 : decode cX7_meet 27 = .ok (.iload_n 2, 1) := by decide +kernel
theorem dX7_meet_28 : decode cX7_meet 28 = .ok (.iastore, 1) := by decide +kernel
theorem dX7_meet_29 : decode cX7_meet 29 = .ok (.aload_n 0, 1) := by decide +kernel
theorem dX7_meet_30 : decode cX7_meet 30 = .ok (.dup, 1) := by decide +kernel
theorem dX7_meet_31 : decode cX7_meet 31 = .ok (.getfield 32, 3) := by decide +kernel
theorem dX7_meet_34 : decode cX7_meet 34 = .ok (.iconst 1, 1) := by decide +kernel
theorem dX7_meet_35 : decode cX7_meet 35 = .ok (.iadd, 1) := by decide +kernel
theorem dX7_meet_36 : decode cX7_meet 36 = .ok (.putfield 32, 3) := by decide +kernel
theorem dX7_meet_39 : decode cX7_meet 39 = .ok (.iload_n 1, 1) := by decide +kernel
theorem dX7_meet_40 : decode cX7_meet 40 = .ok (.aload_n 0, 1) := by decide +kernel
theorem dX7_meet_41 : decode cX7_meet 41 = .ok (.getfield 18, 3) := by decide +kernel
theorem dX7_meet_44 : decode cX7_meet 44 = .ok (.if_icmp .ne 12, 3) := by decide +kernel
theorem dX7_meet_47 : decode cX7_meet 47 = .ok (.iload_n 2, 1) := by decide +kernel
theorem dX7_meet_48 : decode cX7_meet 48 = .ok (.aload_n 0, 1) := by decide +kernel
theorem dX7_meet_49 : decode cX7_meet 49 = .ok (.getfield 22, 3) := by decide +kernel
theorem dX7_meet_52 : decode cX7_meet 52 = .ok (.isub, 1) := by decide +kernel
theorem dX7_meet_53 : decode cX7_meet 53 = .ok (.goto 4, 3) := by decide +kernel
theorem dX7_meet_56 : decode cX7_meet 56 = .ok (.iload_n 2, 1) := by decide +kernel
theorem dX7_meet_57 : decode cX7_meet 57 = .ok (.ireturn, 1) := by decide +kernel
theorem ce_X7_meet : CeV RX7 yX7_meet cX7_meet 3 (some .int) 2 := ⟨tb_1110, tp_49, tb_8, tb_1111, rfl, by decide, by decide, by decide +kernel⟩
set_option maxHeartbeats 4000000 in
set_option maxRecDepth 20000 in
theorem V_X7_meet (l : Launch) (D : va_G) (A : Nat → Prop) (ad : Nat → Nat) (ns : List Nat) (I : MI) (L : ML) (G : MG) (a0 : Int32) (a1 : Int32) (hG : SGC ns G) (hI : INV I) (ha0 : 0 ≤ a0.toInt ∧ a0.toInt ≤ 23) : Met l yX7_meet (wd yX7_meet cX7_meet 3 (some .int)) ({ frames := 0, cells := 0, slots := 0, locals := 0 }) (va_Pc [.ref (ad (60)), .int a0, .int a1] (PM D A ad ns I L G)) (va_Qi (fun r u => ∃ I2 L2, u = (ad, ns, I2, L2, G) ∧ INV I2 ∧ Kp [(61, 63)] [(60, 5)] I I2) (BM D A) A) 0 0 A := by
  refine m_ofW (by decide) (Nat.le_of_ble_eq_true rfl) ?_
  intro p e s m below meth c ls args hC hE hM hA hS hl
  obtain ⟨hx, hb, hml, hown, hts, hr, hlocks, hin⟩ := hC
  have k0 : (0 : Int32).toInt = 0 := by decide
  have k1 : (1 : Int32).toInt = 1 := by decide
  have k24 : (24 : Int32).toInt = 24 := by decide
  have hK : Kp [(61, 63)] [(60, 5)] I I := Kp.rf
  have hl : lv_has ls 3 [(0, .ref (ad (60))), (1, .int (a0)), (2, .int (a1))] := hl
  refine lv_aload_n hx hb dX7_meet_0 rfl (lv_at hl 0 rfl) ?_
  refine m_geti (60) 5 hx hb hts hown hE oc7 hM (hG.1 60 (by decide)) rfl (by decide) rfl tb_298 dX7_meet_1 ?_
  have g1 := hI.get (60) 5 (lo := 0) (hi := 24) rfl
  refine lv_bipush (v := (24)) hx hb dX7_meet_4 (by decide) ?_
  refine lv_icmp_ge (tgt := 39) hx hb dX7_meet_6 (by decide) (fun c2 => ?_) (fun c2 => ?_)
  · have hc2 := c2
    have q2 := q_le hc2
    refine lv_iload_n hx hb dX7_meet_39 rfl (lv_at hl 1 rfl) ?_
    refine lv_aload_n hx hb dX7_meet_40 rfl (lv_at hl 0 rfl) ?_
    refine m_geti (60) 0 hx hb hts hown hE oc7 hM (hG.1 60 (by decide)) rfl (by decide) rfl tb_290 dX7_meet_41 ?_
    refine lv_icmp_ne (tgt := 56) hx hb dX7_meet_44 (by decide) (fun c3 => ?_) (fun c3 => ?_)
    · have hc3 := c3
      have q3 := q_ne hc3
      refine lv_iload_n hx hb dX7_meet_56 rfl (lv_at hl 2 rfl) ?_
      exact m_iret hx hb hr hlocks hM hS (Nat.le_of_ble_eq_true rfl) (Nat.le_of_ble_eq_true rfl) ⟨_, _, rfl, hI, hK⟩ dX7_meet_57
    · have hc3 := c3
      have q3 := q_eq hc3
      refine lv_iload_n hx hb dX7_meet_47 rfl (lv_at hl 2 rfl) ?_
      refine lv_aload_n hx hb dX7_meet_48 rfl (lv_at hl 0 rfl) ?_
      refine m_geti (60) 1 hx hb hts hown hE oc7 hM (hG.1 60 (by decide)) rfl (by decide) rfl tb_292 dX7_meet_49 ?_
      refine lv_isub hx hb dX7_meet_52 ?_
      refine lv_topi (fun v4 ev4 => ?_)
      refine lv_goto (tgt := 57) hx hb dX7_meet_53 (by decide) ?_
      exact m_iret hx hb hr hlocks hM hS (Nat.le_of_ble_eq_true rfl) (Nat.le_of_ble_eq_true rfl) ⟨_, _, rfl, hI, hK⟩ dX7_meet_57
  · have hc2 := c2
    have q2 := q_nle hc2
    refine lv_aload_n hx hb dX7_meet_9 rfl (lv_at hl 0 rfl) ?_
    refine m_getr (60) 3 (61) hx hb hts hown hE oc7 hM (hG.1 60 (by decide)) rfl (by decide) rfl (hG.2 (60, 3, 61) (by decide)) (by decide) tb_296 dX7_meet_10 ?_
    refine lv_aload_n hx hb dX7_meet_13 rfl (lv_at hl 0 rfl) ?_
    refine m_geti (60) 5 hx hb hts hown hE oc7 hM (hG.1 60 (by decide)) rfl (by decide) rfl tb_298 dX7_meet_14 ?_
    refine lv_iload_n hx hb dX7_meet_17 rfl (lv_at hl 1 rfl) ?_
    refine m_iast (61) hx hb hE hM hS (hG.1 61 (by decide)) rfl (vp_in_iff.mpr (by omega)) dX7_meet_18 (fun H locs I5 eI5 hM hS => ?_)
    subst eI5
    have hI := hI.put (n := 61) (k := ((I (60) 5).toNatClampNeg)) (v := a0) (lo := 0) (hi := 23) rfl (by first | omega | decide)
    have hK := hK.put (n := 61) (k := ((I (60) 5).toNatClampNeg)) (v := a0) (by first | rfl | simp [inR])
    refine lv_aload_n hx hb dX7_meet_19 rfl (lv_at hl 0 rfl) ?_
    refine m_getr (60) 4 (62) hx hb hts hown hE oc7 hM (hG.1 60 (by decide)) rfl (by decide) rfl (hG.2 (60, 4, 62) (by decide)) (by decide) tb_297 dX7_meet_20 ?_
    refine lv_aload_n hx hb dX7_meet_23 rfl (lv_at hl 0 rfl) ?_
    refine m_geti (60) 5 hx hb hts hown hE oc7 hM (hG.1 60 (by decide)) rfl (by decide) rfl tb_298 dX7_meet_24 ?_
    have z6 : (u2 I (61) ((I (60) 5).toNatClampNeg) (a0)) (60) 5 = I (60) 5 := (show (u2 I (61) ((I (60) 5).toNatClampNeg) (a0)) (60) 5 = I (60) 5 from by simp [u2_v])
    rw [z6]
    refine lv_iload_n hx hb dX7_meet_27 rfl (lv_at hl 2 rfl) ?_
    refine m_iast (62) hx hb hE hM hS (hG.1 62 (by decide)) rfl (vp_in_iff.mpr (by omega)) dX7_meet_28 (fun H locs I7 eI7 hM hS => ?_)
    subst eI7
    have hI := hI.putF (n := 62) (k := ((I (60) 5).toNatClampNeg)) (v := a1) rfl
    have hK := hK.put (n := 62) (k := ((I (60) 5).toNatClampNeg)) (v := a1) (by first | rfl | simp [inR])
    refine lv_aload_n hx hb dX7_meet_29 rfl (lv_at hl 0 rfl) ?_
    refine lv_dup hx hb dX7_meet_30 rfl ?_
    refine m_geti (60) 5 hx hb hts hown hE oc7 hM (hG.1 60 (by decide)) rfl (by decide) rfl tb_298 dX7_meet_31 ?_
    have z8 : (u2 (u2 I (61) ((I (60) 5).toNatClampNeg) (a0)) (62) ((I (60) 5).toNatClampNeg) (a1)) (60) 5 = I (60) 5 := (show (u2 (u2 I (61) ((I (60) 5).toNatClampNeg) (a0)) (62) ((I (60) 5).toNatClampNeg) (a1)) (60) 5 = I (60) 5 from by simp [u2_v])
    rw [z8]
    refine lv_iconst (v := (1)) hx hb dX7_meet_34 (by decide) ?_
    refine lv_iadd hx hb dX7_meet_35 ?_
    refine lv_topi (fun v9 ev9 => ?_)
    have tv9 := a_add ev9 (by omega) (by omega)
    refine m_puti (60) 5 hx hb hts hown hE oc7 hM hS (hG.1 60 (by decide)) rfl (by decide) rfl rfl rfl rfl tb_298 dX7_meet_36 (fun H locs I10 eI10 hM hS => ?_)
    subst eI10
    have hI := hI.put (n := 60) (k := 5) (v := v9) (lo := 0) (hi := 24) rfl (by first | omega | decide)
    have hK := hK.put (n := 60) (k := 5) (v := v9) (by first | rfl | simp [inR])
    refine lv_iload_n hx hb dX7_meet_39 rfl (lv_at hl 1 rfl) ?_
    refine lv_aload_n hx hb dX7_meet_40 rfl (lv_at hl 0 rfl) ?_
    refine m_geti (60) 0 hx hb hts hown hE oc7 hM (hG.1 60 (by decide)) rfl (by decide) rfl tb_290 dX7_meet_41 ?_
    have z11 : (u2 (u2 (u2 I (61) ((I (60) 5).toNatClampNeg) (a0)) (62) ((I (60) 5).toNatClampNeg) (a1)) (60) 5 (v9)) (60) 0 = I (60) 0 := (show (u2 (u2 (u2 I (61) ((I (60) 5).toNatClampNeg) (a0)) (62) ((I (60) 5).toNatClampNeg) (a1)) (60) 5 (v9)) (60) 0 = I (60) 0 from by simp [u2_v])
    rw [z11]
    refine lv_icmp_ne (tgt := 56) hx hb dX7_meet_44 (by decide) (fun c12 => ?_) (fun c12 => ?_)
    · have hc12 := c12
      have q12 := q_ne hc12
      refine lv_iload_n hx hb dX7_meet_56 rfl (lv_at hl 2 rfl) ?_
      exact m_iret hx hb hr hlocks hM hS (Nat.le_of_ble_eq_true rfl) (Nat.le_of_ble_eq_true rfl) ⟨_, _, rfl, hI, hK⟩ dX7_meet_57
    · have hc12 := c12
      have q12 := q_eq hc12
      refine lv_iload_n hx hb dX7_meet_47 rfl (lv_at hl 2 rfl) ?_
      refine lv_aload_n hx hb dX7_meet_48 rfl (lv_at hl 0 rfl) ?_
      refine m_geti (60) 1 hx hb hts hown hE oc7 hM (hG.1 60 (by decide)) rfl (by decide) rfl tb_292 dX7_meet_49 ?_
      have z13 : (u2 (u2 (u2 I (61) ((I (60) 5).toNatClampNeg) (a0)) (62) ((I (60) 5).toNatClampNeg) (a1)) (60) 5 (v9)) (60) 1 = I (60) 1 := (show (u2 (u2 (u2 I (61) ((I (60) 5).toNatClampNeg) (a0)) (62) ((I (60) 5).toNatClampNeg) (a1)) (60) 5 (v9)) (60) 1 = I (60) 1 from by simp [u2_v])
      rw [z13]
      refine lv_isub hx hb dX7_meet_52 ?_
      refine lv_topi (fun v14 ev14 => ?_)
      refine lv_goto (tgt := 57) hx hb dX7_meet_53 (by decide) ?_
      exact m_iret hx hb hr hlocks hM hS (Nat.le_of_ble_eq_true rfl) (Nat.le_of_ble_eq_true rfl) ⟨_, _, rfl, hI, hK⟩ dX7_meet_57
theorem dX7_walk_0 : decode cX7_walk 0 = .ok (.aload_n 0, 1) := by decide +kernel
theorem dX7_walk_1 : decode cX7_walk 1 = .ok (.iconst 0, 1) := by decide +kernel
theorem dX7_walk_2 : decode cX7_walk 2 = .ok (.putfield 32, 3) := by decide +kernel
theorem dX7_walk_5 : decode cX7_walk 5 = .ok (.iconst 0, 1) := by decide +kernel
theorem dX7_walk_6 : decode cX7_walk 6 = .ok (.istore_n 3, 1) := by decide +kernel
theorem dX7_walk_7 : decode cX7_walk 7 = .ok (.aload_n 1, 1) := by decide +kernel
theorem dX7_walk_8 : decode cX7_walk 8 = .ok (.getfield 51, 3) := by decide +kernel
theorem dX7_walk_11 : decode cX7_walk 11 = .ok (.istore 4, 2) := by decide +kernel
theorem dX7_walk_13 : decode cX7_walk 13 = .ok (.aload_n 1, 1) := by decide +kernel
theorem dX7_walk_14 : decode cX7_walk 14 = .ok (.getfield 54, 3) := by decide +kernel
theorem dX7_walk_17 : decode cX7_walk 17 = .ok (.istore 5, 2) := by decide +kernel
theorem dX7_walk_19 : decode cX7_walk 19 = .ok (.aload_n 1, 1) := by decide +kernel
theorem dX7_walk_20 : decode cX7_walk 20 = .ok (.iload_n 2, 1) := by decide +kernel
theorem dX7_walk_21 : decode cX7_walk 21 = .ok (.invokevirtual 57, 3) := by decide +kernel
theorem dX7_walk_24 : decode cX7_walk 24 = .ok (.istore 6, 2) := by decide +kernel
theorem dX7_walk_26 : decode cX7_walk 26 = .ok (.aload_n 1, 1) := by decide +kernel
theorem dX7_walk_27 : decode cX7_walk 27 = .ok (.iload_n 2, 1) := by decide +kernel
theorem dX7_walk_28 : decode cX7_walk 28 = .ok (.invokevirtual 61, 3) := by decide +kernel
theorem dX7_walk_31 : decode cX7_walk 31 = .ok (.istore 7, 2) := by decide +kernel
theorem dX7_walk_33 : decode cX7_walk 33 = .ok (.iconst 0, 1) := by decide +kernel
theorem dX7_walk_34 : decode cX7_walk 34 = .ok (.istore 8, 2) := by decide +kernel
theorem dX7_walk_36 : decode cX7_walk 36 = .ok (.iload 7, 2) := by decide +kernel
theorem dX7_walk_38 : decode cX7_walk 38 = .ok (.ifCond .le 184, 3) := by decide +kernel
theorem dX7_walk_41 : decode cX7_walk 41 = .ok (.iload 8, 2) := by decide +kernel
theorem dX7_walk_43 : decode cX7_walk 43 = .ok (.sipush 2000, 3) := by decide +kernel
theorem dX7_walk_46 : decode cX7_walk 46 = .ok (.if_icmp .ge 176, 3) := by decide +kernel
theorem dX7_walk_49 : decode cX7_walk 49 = .ok (.aload_n 1, 1) := by decide +kernel
theorem dX7_walk_50 : decode cX7_walk 50 = .ok (.iload 4, 2) := by decide +kernel
theorem dX7_walk_52 : decode cX7_walk 52 = .ok (.iload 5, 2) := by decide +kernel
theorem dX7_walk_54 : decode cX7_walk 54 = .ok (.invokevirtual 66, 3) := by decide +kernel
theorem dX7_walk_57 : decode cX7_walk 57 = .ok (.ifCond .ne 4, 3) := by decide +kernel
theorem dX7_walk_60 : decode cX7_walk 60 = .ok (.return_, 1) := by decide +kernel
theorem dX7_walk_61 : decode cX7_walk 61 = .ok (.iload 7, 2) := by decide +kernel
theorem dX7_walk_63 : decode cX7_walk 63 = .ok (.iload 7, 2) := by decide +kernel
theorem dX7_walk_65 : decode cX7_walk 65 = .ok (.aload_n 1, 1) := by decide +kernel
theorem dX7_walk_66 : decode cX7_walk 66 = .ok (.getfield 70, 3) := by decide +kernel
theorem dX7_walk_69 : decode cX7_walk 69 = .ok (.invokestatic 73, 3) := by decide +kernel
theorem dX7_walk_72 : decode cX7_walk 72 = .ok (.isub, 1) := by decide +kernel
theorem dX7_walk_73 : decode cX7_walk 73 = .ok (.istore 7, 2) := by decide +kernel
theorem dX7_walk_75 : decode cX7_walk 75 = .ok (.iload 7, 2) := by decide +kernel
theorem dX7_walk_77 : decode cX7_walk 77 = .ok (.iload 7, 2) := by decide +kernel
theorem dX7_walk_79 : decode cX7_walk 79 = .ok (.aload_n 1, 1) := by decide +kernel
theorem dX7_walk_80 : decode cX7_walk 80 = .ok (.iload 4, 2) := by decide +kernel
theorem dX7_walk_82 : decode cX7_walk 82 = .ok (.iload 5, 2) := by decide +kernel
theorem dX7_walk_84 : decode cX7_walk 84 = .ok (.invokestatic 76, 3) := by decide +kernel
theorem dX7_walk_87 : decode cX7_walk 87 = .ok (.invokevirtual 79, 3) := by decide +kernel
theorem dX7_walk_90 : decode cX7_walk 90 = .ok (.invokestatic 73, 3) := by decide +kernel
theorem dX7_walk_93 : decode cX7_walk 93 = .ok (.isub, 1) := by decide +kernel
theorem dX7_walk_94 : decode cX7_walk 94 = .ok (.istore 7, 2) := by decide +kernel
theorem dX7_walk_96 : decode cX7_walk 96 = .ok (.aload_n 1, 1) := by decide +kernel
theorem dX7_walk_97 : decode cX7_walk 97 = .ok (.getfield 82, 3) := by decide +kernel
theorem dX7_walk_100 : decode cX7_walk 100 = .ok (.iload 4, 2) := by decide +kernel
theorem dX7_walk_102 : decode cX7_walk 102 = .ok (.iload 5, 2) := by decide +kernel
theorem dX7_walk_104 : decode cX7_walk 104 = .ok (.invokestatic 76, 3) := by decide +kernel
theorem dX7_walk_107 : decode cX7_walk 107 = .ok (.iaload, 1) := by decide +kernel
theorem dX7_walk_108 : decode cX7_walk 108 = .ok (.istore 9, 2) := by decide +kernel
theorem dX7_walk_110 : decode cX7_walk 110 = .ok (.iload 9, 2) := by decide +kernel
theorem dX7_walk_112 : decode cX7_walk 112 = .ok (.iconst (-1), 1) := by decide +kernel
theorem dX7_walk_113 : decode cX7_walk 113 = .ok (.if_icmp .eq 81, 3) := by decide +kernel
theorem dX7_walk_116 : decode cX7_walk 116 = .ok (.aload_n 1, 1) := by decide +kernel
theorem dX7_walk_117 : decode cX7_walk 117 = .ok (.iload 9, 2) := by decide +kernel
theorem dX7_walk_119 : decode cX7_walk 119 = .ok (.invokevirtual 85, 3) := by decide +kernel
theorem dX7_walk_122 : decode cX7_walk 122 = .ok (.ifCond .eq 72, 3) := by decide +kernel
theorem dX7_walk_125 : decode cX7_walk 125 = .ok (.iload_n 3, 1) := by decide +kernel
theorem dX7_walk_126 : decode cX7_walk 126 = .ok (.iload 9, 2) := by decide +kernel
theorem dX7_walk_128 : decode cX7_walk 128 = .ok (.ishr, 1) := by decide +kernel
theorem dX7_walk_129 : decode cX7_walk 129 = .ok (.iconst 1, 1) := by decide +kernel
theorem dX7_walk_130 : decode cX7_walk 130 = .ok (.iand, 1) := by decide +kernel
theorem dX7_walk_131 : decode cX7_walk 131 = .ok (.ifCond .ne 20, 3) := by decide +kernel
theorem dX7_walk_134 : decode cX7_walk 134 = .ok (.iload_n 3, 1) := by decide +kernel
theorem dX7_walk_135 : decode cX7_walk 135 = .ok (.iconst 1, 1) := by decide +kernel
theorem dX7_walk_136 : decode cX7_walk 136 = .ok (.iload 9, 2) := by decide +kernel
theorem dX7_walk_138 : decode cX7_walk 138 = .ok (.ishl, 1) := by decide +kernel
theorem dX7_walk_139 : decode cX7_walk 139 = .ok (.ior, 1) := by decide +kernel
theorem dX7_walk_140 : decode cX7_walk 140 = .ok (.istore_n 3, 1) := by decide +kernel
theorem dX7_walk_141 : decode cX7_walk 141 = .ok (.aload_n 0, 1) := by decide +kernel
theorem dX7_walk_142 : decode cX7_walk 142 = .ok (.iload 9, 2) := by decide +kernel
theorem dX7_walk_144 : decode cX7_walk 144 = .ok (.iload 7, 2) := by decide +kernel
theorem dX7_walk_146 : decode cX7_walk 146 = .ok (.invokevirtual 89, 3) := by decide +kernel
theorem dX7_walk_149 : decode cX7_walk 149 = .ok (.istore 7, 2) := by decide +kernel
theorem dX7_walk_151 : decode cX7_walk 151 = .ok (.iload 7, 2) := by decide +kernel
theorem dX7_walk_153 : decode cX7_walk 153 = .ok (.iload 7, 2) := by decide +kernel
theorem dX7_walk_155 : decode cX7_walk 155 = .ok (.aload_n 1, 1) := by decide +kernel
theorem dX7_walk_156 : decode cX7_walk 156 = .ok (.iload 9, 2) := by decide +kernel
theorem dX7_walk_158 : decode cX7_walk 158 = .ok (.invokevirtual 92, 3) := by decide +kernel
theorem dX7_walk_161 : decode cX7_walk 161 = .ok (.invokestatic 73, 3) := by decide +kernel
theorem dX7_walk_164 : decode cX7_walk 164 = .ok (.isub, 1) := by decide +kernel
theorem dX7_walk_165 : decode cX7_walk 165 = .ok (.istore 7, 2) := by decide +kernel
theorem dX7_walk_167 : decode cX7_walk 167 = .ok (.iload 7, 2) := by decide +kernel
theorem dX7_walk_169 : decode cX7_walk 169 = .ok (.iload 7, 2) := by decide +kernel
theorem dX7_walk_171 : decode cX7_walk 171 = .ok (.aload_n 1, 1) := by decide +kernel
theorem dX7_walk_172 : decode cX7_walk 172 = .ok (.iload 9, 2) := by decide +kernel
theorem dX7_walk_174 : decode cX7_walk 174 = .ok (.iconst 4, 1) := by decide +kernel
theorem dX7_walk_175 : decode cX7_walk 175 = .ok (.invokevirtual 35, 3) := by decide +kernel
theorem dX7_walk_178 : decode cX7_walk 178 = .ok (.invokestatic 73, 3) := by decide +kernel
theorem dX7_walk_181 : decode cX7_walk 181 = .ok (.isub, 1) := by decide +kernel
theorem dX7_walk_182 : decode cX7_walk 182 = .ok (.istore 7, 2) := by decide +kernel
theorem dX7_walk_184 : decode cX7_walk 184 = .ok (.aload_n 1, 1) := by decide +kernel
theorem dX7_walk_185 : decode cX7_walk 185 = .ok (.iload 9, 2) := by decide +kernel
theorem dX7_walk_187 : decode cX7_walk 187 = .ok (.iload 6, 2) := by decide +kernel
theorem dX7_walk_189 : decode cX7_walk 189 = .ok (.invokevirtual 95, 3) := by decide +kernel
theorem dX7_walk_192 : decode cX7_walk 192 = .ok (.istore 6, 2) := by decide +kernel
theorem dX7_walk_194 : decode cX7_walk 194 = .ok (.iload 4, 2) := by decide +kernel
theorem dX7_walk_196 : decode cX7_walk 196 = .ok (.getstatic 98, 3) := by decide +kernel
theorem dX7_walk_199 : decode cX7_walk 199 = .ok (.iload 6, 2) := by decide +kernel
theorem dX7_walk_201 : decode cX7_walk 201 = .ok (.iaload, 1) := by decide +kernel
theorem dX7_walk_202 : decode cX7_walk 202 = .ok (.iadd, 1) := by decide +kernel
theorem dX7_walk_203 : decode cX7_walk 203 = .ok (.istore 4, 2) := by decide +kernel
theorem dX7_walk_205 : decode cX7_walk 205 = .ok (.iload 5, 2) := by decide +kernel
theorem dX7_walk_207 : decode cX7_walk 207 = .ok (.getstatic 101, 3) := by decide +kernel
theorem dX7_walk_210 : decode cX7_walk 210 = .ok (.iload 6, 2) := by decide +kernel
theorem dX7_walk_212 : decode cX7_walk 212 = .ok (.iaload, 1) := by decide +kernel
theorem dX7_walk_213 : decode cX7_walk 213 = .ok (.iadd, 1) := by decide +kernel
theorem dX7_walk_214 : decode cX7_walk 214 = .ok (.istore 5, 2) := by decide +kernel
theorem dX7_walk_216 : decode cX7_walk 216 = .ok (.iinc 8 1, 3) := by decide +kernel
theorem dX7_walk_219 : decode cX7_walk 219 = .ok (.goto (-183), 3) := by decide +kernel
theorem dX7_walk_222 : decode cX7_walk 222 = .ok (.return_, 1) := by decide +kernel
theorem ce_X7_walk : CeV RX7 yX7_walk cX7_walk 10 none 2 := ⟨tb_1096, tp_48, tb_8, tb_1097, rfl, by decide, by decide, by decide +kernel⟩
set_option maxHeartbeats 4000000 in
set_option maxRecDepth 20000 in
theorem V_X7_walk (l : Launch) (D : va_G) (A : Nat → Prop) (ad : Nat → Nat) (ns : List Nat) (I : MI) (L : ML) (G : MG) (a0 : Int32) (hG : SGC ns G) (hI : INV I) (hlit : Lit 100 I a0) (ha0 : 0 ≤ a0.toInt ∧ a0.toInt ≤ 23) : Met l yX7_walk (wd yX7_walk cX7_walk 10 none) ({ frames := 2, cells := 0, slots := 0, locals := 44 }) (va_Pc [.ref (ad (60)), .ref (ad (100)), .int a0] (PM D A ad ns I L G)) (va_Qv (fun u => ∃ I2 L2, u = (ad, ns, I2, L2, G) ∧ INV I2 ∧ Kp [(61, 63)] [(60, 5)] I I2) (BM D A) A) 0 0 A := by
  refine m_ofW (by decide) (Nat.le_of_ble_eq_true rfl) ?_
  intro p e s m below meth c ls args hC hE hM hA hS hl
  obtain ⟨hx, hb, hml, hown, hts, hr, hlocks, hin⟩ := hC
  have km1 : (-1 : Int32).toInt = -1 := by decide
  have k0 : (0 : Int32).toInt = 0 := by decide
  have k1 : (1 : Int32).toInt = 1 := by decide
  have k4 : (4 : Int32).toInt = 4 := by decide
  have k2000 : (2000 : Int32).toInt = 2000 := by decide
  have hK : Kp [(61, 63)] [(60, 5)] I I := Kp.rf
  have hl : lv_has ls 10 [(0, .ref (ad (60))), (1, .ref (ad (100))), (2, .int (a0))] := hl
  refine lv_aload_n hx hb dX7_walk_0 rfl (lv_at hl 0 rfl) ?_
  refine lv_iconst (v := (0)) hx hb dX7_walk_1 (by decide) ?_
  refine m_puti (60) 5 hx hb hts hown hE oc7 hM hS (hG.1 60 (by decide)) rfl (by decide) rfl rfl rfl rfl tb_298 dX7_walk_2 (fun H locs I1 eI1 hM hS => ?_)
  subst eI1
  have hI := hI.put (n := 60) (k := 5) (v := 0) (lo := 0) (hi := 24) rfl (by first | omega | decide)
  have hK := hK.put (n := 60) (k := 5) (v := 0) (by first | rfl | simp [inR])
  refine lv_iconst (v := (0)) hx hb dX7_walk_5 (by decide) ?_
  refine lv_istore_n (lv' := [(3, .int (0)), (0, .ref (ad (60))), (1, .ref (ad (100))), (2, .int (a0))]) hx hb dX7_walk_6 rfl hl (by decide) rfl (fun ls hl => ?_)
  refine lv_aload_n hx hb dX7_walk_7 rfl (lv_at hl 2 rfl) ?_
  refine m_geti (100) 2 hx hb hts hown hE oc8 hM (hG.1 100 (by decide)) rfl (by decide) rfl tb_43 dX7_walk_8 ?_
  have g2 := hI.get (100) 2 (lo := 0) (hi := 23) rfl
  have z3 : (u2 I (60) 5 (0)) (100) 2 = I (100) 2 := (show (u2 I (60) 5 (0)) (100) 2 = I (100) 2 from by simp [u2_v])
  rw [z3] at g2 ⊢
  refine lv_istore (lv' := [(4, .int (I (100) 2)), (3, .int (0)), (0, .ref (ad (60))), (1, .ref (ad (100))), (2, .int (a0))]) hx hb dX7_walk_11 hl (by decide) rfl (fun ls hl => ?_)
  refine lv_aload_n hx hb dX7_walk_13 rfl (lv_at hl 3 rfl) ?_
  refine m_geti (100) 3 hx hb hts hown hE oc8 hM (hG.1 100 (by decide)) rfl (by decide) rfl tb_47 dX7_walk_14 ?_
  have g4 := hI.get (100) 3 (lo := 0) (hi := 23) rfl
  have z5 : (u2 I (60) 5 (0)) (100) 3 = I (100) 3 := (show (u2 I (60) 5 (0)) (100) 3 = I (100) 3 from by simp [u2_v])
  rw [z5] at g4 ⊢
  refine lv_istore (lv' := [(5, .int (I (100) 3)), (4, .int (I (100) 2)), (3, .int (0)), (0, .ref (ad (60))), (1, .ref (ad (100))), (2, .int (a0))]) hx hb dX7_walk_17 hl (by decide) rfl (fun ls hl => ?_)
  refine lv_aload_n hx hb dX7_walk_19 rfl (lv_at hl 4 rfl) ?_
  refine lv_iload_n hx hb dX7_walk_20 rfl (lv_at hl 5 rfl) ?_
  refine m_calli (m_runV (100) (As := [.int (a0)]) (rest := []) hx hb hml hown hts hE hM hS hA ce_X8_wayOf tb_1098 (V_X8_wayOf_100 l D A ad ns (u2 I (60) 5 (0)) L G (a0) hG hI (by first | omega | decide)) rfl rfl ⟨Nat.le_of_ble_eq_true rfl, Nat.le_of_ble_eq_true rfl⟩ (hG.1 100 (by decide)) rfl rfl (by decide) rfl hl.1 rfl (Nat.le_of_ble_eq_true rfl) dX7_walk_21 ⟨Nat.le_of_ble_eq_true rfl, Nat.le_of_ble_eq_true rfl⟩) hS (fun r6 u H locs hw hM hS => ?_)
  obtain ⟨rfl, xr6⟩ := hw
  have hM : Mem D A ad ns (u2 I (60) 5 (0)) L G H := hM
  have lyr6 : ((u2 I (60) 5 (0)) 105 ((u2 I (60) 5 (0)) 100 5 * 24 + a0).toNatClampNeg).toInt ≠ -1 := (hlit.kp hK rfl).2
  have lzr6 := hI.get 105 (((u2 I (60) 5 (0)) 100 5 * 24 + a0).toNatClampNeg) (lo := -1) (hi := 7) rfl
  rw [← xr6] at lyr6 lzr6
  refine lv_istore (lv' := [(6, .int (r6)), (5, .int (I (100) 3)), (4, .int (I (100) 2)), (3, .int (0)), (0, .ref (ad (60))), (1, .ref (ad (100))), (2, .int (a0))]) hx hb dX7_walk_24 hl (by decide) rfl (fun ls hl => ?_)
  refine lv_aload_n hx hb dX7_walk_26 rfl (lv_at hl 5 rfl) ?_
  refine lv_iload_n hx hb dX7_walk_27 rfl (lv_at hl 6 rfl) ?_
  refine m_calli (m_runV (100) (As := [.int (a0)]) (rest := []) hx hb hml hown hts hE hM hS hA ce_X8_strengthOf tb_1099 (V_X8_strengthOf_100 l D A ad ns (u2 I (60) 5 (0)) L G (a0) hG hI (by first | omega | decide)) rfl rfl ⟨Nat.le_of_ble_eq_true rfl, Nat.le_of_ble_eq_true rfl⟩ (hG.1 100 (by decide)) rfl rfl (by decide) rfl hl.1 rfl (Nat.le_of_ble_eq_true rfl) dX7_walk_28 ⟨Nat.le_of_ble_eq_true rfl, Nat.le_of_ble_eq_true rfl⟩) hS (fun r7 u H locs hw hM hS => ?_)
  obtain ⟨rfl, xr7⟩ := hw
  have hM : Mem D A ad ns (u2 I (60) 5 (0)) L G H := hM
  refine lv_istore (lv' := [(7, .int (r7)), (6, .int (r6)), (5, .int (I (100) 3)), (4, .int (I (100) 2)), (3, .int (0)), (0, .ref (ad (60))), (1, .ref (ad (100))), (2, .int (a0))]) hx hb dX7_walk_31 hl (by decide) rfl (fun ls hl => ?_)
  refine lv_iconst (v := (0)) hx hb dX7_walk_33 (by decide) ?_
  refine lv_istore (lv' := [(8, .int (0)), (7, .int (r7)), (6, .int (r6)), (5, .int (I (100) 3)), (4, .int (I (100) 2)), (3, .int (0)), (0, .ref (ad (60))), (1, .ref (ad (100))), (2, .int (a0))]) hx hb dX7_walk_34 hl (by decide) rfl (fun ls hl => ?_)
  have loop36 : ∀ (n : Nat) (x8_36 : Int32) (x7_36 : Int32) (x6_36 : Int32) (x5_36 : Int32) (x4_36 : Int32) (x3_36 : Int32) (Ia36 : MI) (La36 : ML) (H : Heap) (locs : List Loc) (ls : Array Slot), INV Ia36 → Kp [(61, 63)] [(60, 5)] I Ia36 → (0 ≤ x8_36.toInt ∧ x8_36.toInt ≤ 2000) → (0 ≤ x6_36.toInt ∧ x6_36.toInt ≤ 7) → (2000 - x8_36.toInt).toNat < n → Mem D A ad ns Ia36 La36 G H → va_S A s.heap H locs → lv_has ls 10 [(8, .int (x8_36)), (7, .int (x7_36)), (6, .int (x6_36)), (5, .int (x5_36)), (4, .int (x4_36)), (3, .int (x3_36)), (0, .ref (ad (60))), (1, .ref (ad (100))), (2, .int (a0))] → W p l e ({ frames := 2, cells := 0, slots := 0, locals := 44 } : Room) s m args below meth c H locs 0 0 (MQ below (va_Qv (fun u => ∃ I2 L2, u = (ad, ns, I2, L2, G) ∧ INV I2 ∧ Kp [(61, 63)] [(60, 5)] I I2) (BM D A) A) args s 0 0 A) (F0 m 36 ls []) := by
    intro n
    induction n with
    | zero =>
      intro x8_36 x7_36 x6_36 x5_36 x4_36 x3_36 Ia36 La36 H locs ls hI hK hr8_36 hr6_36 hmu
      exact absurd hmu (Nat.not_lt_zero _)
    | succ n ih36 =>
      intro x8_36 x7_36 x6_36 x5_36 x4_36 x3_36 Ia36 La36 H locs ls hI hK hr8_36 hr6_36 hmu36 hM hS hl
      refine lv_iload hx hb dX7_walk_36 (lv_at hl 1 rfl) ?_
      refine lv_if_le (tgt := 222) hx hb dX7_walk_38 (by decide) (fun c8 => ?_) (fun c8 => ?_)
      · have hc8 := c8
        have q8 := q_le hc8
        exact m_vret hx hb hr hlocks hM hS (Nat.le_of_ble_eq_true rfl) (Nat.le_of_ble_eq_true rfl) ⟨_, _, rfl, hI, hK⟩ dX7_walk_222
      · have hc8 := c8
        have q8 := q_nle hc8
        refine lv_iload hx hb dX7_walk_41 (lv_at hl 0 rfl) ?_
        refine lv_sipush (v := (2000)) hx hb dX7_walk_43 (by decide) ?_
        refine lv_icmp_ge (tgt := 222) hx hb dX7_walk_46 (by decide) (fun c9 => ?_) (fun c9 => ?_)
        · have hc9 := c9
          have q9 := q_le hc9
          exact m_vret hx hb hr hlocks hM hS (Nat.le_of_ble_eq_true rfl) (Nat.le_of_ble_eq_true rfl) ⟨_, _, rfl, hI, hK⟩ dX7_walk_222
        · have hc9 := c9
          have q9 := q_nle hc9
          refine lv_aload_n hx hb dX7_walk_49 rfl (lv_at hl 7 rfl) ?_
          refine lv_iload hx hb dX7_walk_50 (lv_at hl 4 rfl) ?_
          refine lv_iload hx hb dX7_walk_52 (lv_at hl 3 rfl) ?_
          refine m_calli (m_runV (100) (As := [.int (x4_36), .int (x5_36)]) (rest := []) hx hb hml hown hts hE hM hS hA ce_X8_isOpen tb_1100 (V_X8_isOpen_100 l D A ad ns Ia36 La36 G (x4_36) (x5_36) hG hI) rfl rfl ⟨Nat.le_of_ble_eq_true rfl, Nat.le_of_ble_eq_true rfl⟩ (hG.1 100 (by decide)) rfl rfl (by decide) rfl hl.1 rfl (Nat.le_of_ble_eq_true rfl) dX7_walk_54 ⟨Nat.le_of_ble_eq_true rfl, Nat.le_of_ble_eq_true rfl⟩) hS (fun r10 u H locs hw hM hS => ?_)
          obtain ⟨rfl, xr10⟩ := hw
          have hM : Mem D A ad ns Ia36 La36 G H := hM
          have g11 := hI.get 100 0 (lo := 0) (hi := 24) rfl
          have g12 := hI.get 100 1 (lo := 0) (hi := 24) rfl
          refine lv_if_ne (tgt := 61) hx hb dX7_walk_57 (by decide) (fun c13 => ?_) (fun c13 => ?_)
          · have hc13 := c13
            have q13 := q_ne hc13
            refine lv_iload hx hb dX7_walk_61 (lv_at hl 1 rfl) ?_
            refine lv_iload hx hb dX7_walk_63 (lv_at hl 1 rfl) ?_
            refine lv_aload_n hx hb dX7_walk_65 rfl (lv_at hl 7 rfl) ?_
            refine m_geti (100) 4 hx hb hts hown hE oc8 hM (hG.1 100 (by decide)) rfl (by decide) rfl tb_49 dX7_walk_66 ?_
            refine m_calli (m_runSN (As := [.int (x7_36), .int (Ia36 (100) 4)]) (rest := [.int (x7_36)]) hx hb hml hown hts hE hM hS hA ce_X9_shareOf (List.mem_of_getElem? (i := 15) rfl) (V_X9_shareOf l D A ad ns Ia36 La36 G (x7_36) (Ia36 (100) 4) hI) rfl rfl ⟨Nat.le_of_ble_eq_true rfl, Nat.le_of_ble_eq_true rfl⟩  rfl hl.1 rfl (Nat.le_of_ble_eq_true rfl) dX7_walk_69 ⟨Nat.le_of_ble_eq_true rfl, Nat.le_of_ble_eq_true rfl⟩) hS (fun r14 u H locs hw hM hS => ?_)
            obtain ⟨rfl, xr14⟩ := hw
            have hM : Mem D A ad ns Ia36 La36 G H := hM
            refine lv_isub hx hb dX7_walk_72 ?_
            refine lv_topi (fun v15 ev15 => ?_)
            refine lv_istore (lv' := [(7, .int (v15)), (8, .int (x8_36)), (6, .int (x6_36)), (5, .int (x5_36)), (4, .int (x4_36)), (3, .int (x3_36)), (0, .ref (ad (60))), (1, .ref (ad (100))), (2, .int (a0))]) hx hb dX7_walk_73 hl (by decide) rfl (fun ls hl => ?_)
            refine lv_iload hx hb dX7_walk_75 (lv_at hl 0 rfl) ?_
            refine lv_iload hx hb dX7_walk_77 (lv_at hl 0 rfl) ?_
            refine lv_aload_n hx hb dX7_walk_79 rfl (lv_at hl 7 rfl) ?_
            refine lv_iload hx hb dX7_walk_80 (lv_at hl 4 rfl) ?_
            refine lv_iload hx hb dX7_walk_82 (lv_at hl 3 rfl) ?_
            refine m_calli (m_runSN (As := [.int (x4_36), .int (x5_36)]) (rest := [.ref (ad (100)), .int (v15), .int (v15)]) hx hb hml hown hts hE hM hS hA ce_X9_cellOf (List.mem_of_getElem? (i := 16) rfl) (V_X9_cellOf l D A ad ns Ia36 La36 G (x4_36) (x5_36) hI (by first | omega | decide) (by first | omega | decide)) rfl rfl ⟨Nat.le_of_ble_eq_true rfl, Nat.le_of_ble_eq_true rfl⟩  rfl hl.1 rfl (Nat.le_of_ble_eq_true rfl) dX7_walk_84 ⟨Nat.le_of_ble_eq_true rfl, Nat.le_of_ble_eq_true rfl⟩) hS (fun r16 u H locs hw hM hS => ?_)
            obtain ⟨rfl, xr16⟩ := hw
            have hM : Mem D A ad ns Ia36 La36 G H := hM
            refine m_calli (m_runV (100) (As := [.int (r16)]) (rest := [.int (v15), .int (v15)]) hx hb hml hown hts hE hM hS hA ce_X8_takeAt tb_1103 (V_X8_takeAt_100 l D A ad ns Ia36 La36 G (r16) hG hI (by first | omega | decide)) rfl rfl ⟨Nat.le_of_ble_eq_true rfl, Nat.le_of_ble_eq_true rfl⟩ (hG.1 100 (by decide)) rfl rfl (by decide) rfl hl.1 rfl (Nat.le_of_ble_eq_true rfl) dX7_walk_87 ⟨Nat.le_of_ble_eq_true rfl, Nat.le_of_ble_eq_true rfl⟩) hS (fun r17 u H locs hw hM hS => ?_)
            obtain ⟨rfl, xr17⟩ := hw
            have hM : Mem D A ad ns Ia36 La36 G H := hM
            refine m_calli (m_runSN (As := [.int (v15), .int (r17)]) (rest := [.int (v15)]) hx hb hml hown hts hE hM hS hA ce_X9_shareOf (List.mem_of_getElem? (i := 15) rfl) (V_X9_shareOf l D A ad ns Ia36 La36 G (v15) (r17) hI) rfl rfl ⟨Nat.le_of_ble_eq_true rfl, Nat.le_of_ble_eq_true rfl⟩  rfl hl.1 rfl (Nat.le_of_ble_eq_true rfl) dX7_walk_90 ⟨Nat.le_of_ble_eq_true rfl, Nat.le_of_ble_eq_true rfl⟩) hS (fun r18 u H locs hw hM hS => ?_)
            obtain ⟨rfl, xr18⟩ := hw
            have hM : Mem D A ad ns Ia36 La36 G H := hM
            refine lv_isub hx hb dX7_walk_93 ?_
            refine lv_topi (fun v19 ev19 => ?_)
            refine lv_istore (lv' := [(7, .int (v19)), (8, .int (x8_36)), (6, .int (x6_36)), (5, .int (x5_36)), (4, .int (x4_36)), (3, .int (x3_36)), (0, .ref (ad (60))), (1, .ref (ad (100))), (2, .int (a0))]) hx hb dX7_walk_94 hl (by decide) rfl (fun ls hl => ?_)
            refine lv_aload_n hx hb dX7_walk_96 rfl (lv_at hl 7 rfl) ?_
            refine m_getr (100) 12 (103) hx hb hts hown hE oc8 hM (hG.1 100 (by decide)) rfl (by decide) rfl (hG.2 (100, 12, 103) (by decide)) (by decide) tb_72 dX7_walk_97 ?_
            refine lv_iload hx hb dX7_walk_100 (lv_at hl 4 rfl) ?_
            refine lv_iload hx hb dX7_walk_102 (lv_at hl 3 rfl) ?_
            refine m_calli (m_runSN (As := [.int (x4_36), .int (x5_36)]) (rest := [.ref (ad (103))]) hx hb hml hown hts hE hM hS hA ce_X9_cellOf (List.mem_of_getElem? (i := 16) rfl) (V_X9_cellOf l D A ad ns Ia36 La36 G (x4_36) (x5_36) hI (by first | omega | decide) (by first | omega | decide)) rfl rfl ⟨Nat.le_of_ble_eq_true rfl, Nat.le_of_ble_eq_true rfl⟩  rfl hl.1 rfl (Nat.le_of_ble_eq_true rfl) dX7_walk_104 ⟨Nat.le_of_ble_eq_true rfl, Nat.le_of_ble_eq_true rfl⟩) hS (fun r20 u H locs hw hM hS => ?_)
            obtain ⟨rfl, xr20⟩ := hw
            have hM : Mem D A ad ns Ia36 La36 G H := hM
            refine m_iald (103) hx hb hE hM (hG.1 103 (by decide)) rfl (vp_in_iff.mpr (by omega)) dX7_walk_107 ?_
            have g21 := hI.get (103) ((r20).toNatClampNeg) (lo := -1) (hi := 23) rfl
            refine lv_istore (lv' := [(9, .int (Ia36 (103) (r20).toNatClampNeg)), (7, .int (v19)), (8, .int (x8_36)), (6, .int (x6_36)), (5, .int (x5_36)), (4, .int (x4_36)), (3, .int (x3_36)), (0, .ref (ad (60))), (1, .ref (ad (100))), (2, .int (a0))]) hx hb dX7_walk_108 hl (by decide) rfl (fun ls hl => ?_)
            refine lv_iload hx hb dX7_walk_110 (lv_at hl 0 rfl) ?_
            refine lv_iconst (v := (-1)) hx hb dX7_walk_112 (by decide) ?_
            refine lv_icmp_eq (tgt := 194) hx hb dX7_walk_113 (by decide) (fun c22 => ?_) (fun c22 => ?_)
            · have hc22 := c22
              have q22 := q_eq hc22
              refine lv_iload hx hb dX7_walk_194 (lv_at hl 5 rfl) ?_
              refine va_getsN hx hb hE.2.2.2.2.2.1.1 hS hown (va_Nw.use rfl (hE.2.1 _ (List.mem_of_getElem? (i := 17) rfl))) (fun _ h => h) dX7_walk_196 ?_
              refine lv_iload hx hb dX7_walk_199 (lv_at hl 3 rfl) ?_
              refine va_ti hx hb hE.2.2.2.2.2.1.2 hS (i := x6_36) (vp_in_iff.mpr (by omega)) rfl dX7_walk_201 ?_
              refine lv_topi (fun v23 ev23 => ?_)
              have tv23 := stX_r ev23
              refine lv_iadd hx hb dX7_walk_202 ?_
              refine lv_topi (fun v24 ev24 => ?_)
              refine lv_istore (lv' := [(4, .int (v24)), (9, .int (Ia36 (103) (r20).toNatClampNeg)), (7, .int (v19)), (8, .int (x8_36)), (6, .int (x6_36)), (5, .int (x5_36)), (3, .int (x3_36)), (0, .ref (ad (60))), (1, .ref (ad (100))), (2, .int (a0))]) hx hb dX7_walk_203 hl (by decide) rfl (fun ls hl => ?_)
              refine lv_iload hx hb dX7_walk_205 (lv_at hl 5 rfl) ?_
              refine va_getsN hx hb hE.2.2.2.2.2.2.1.1 hS hown (va_Nw.use rfl (hE.2.1 _ (List.mem_of_getElem? (i := 18) rfl))) (fun _ h => h) dX7_walk_207 ?_
              refine lv_iload hx hb dX7_walk_210 (lv_at hl 4 rfl) ?_
              refine va_ti hx hb hE.2.2.2.2.2.2.1.2 hS (i := x6_36) (vp_in_iff.mpr (by omega)) rfl dX7_walk_212 ?_
              refine lv_topi (fun v25 ev25 => ?_)
              have tv25 := stY_r ev25
              refine lv_iadd hx hb dX7_walk_213 ?_
              refine lv_topi (fun v26 ev26 => ?_)
              refine lv_istore (lv' := [(5, .int (v26)), (4, .int (v24)), (9, .int (Ia36 (103) (r20).toNatClampNeg)), (7, .int (v19)), (8, .int (x8_36)), (6, .int (x6_36)), (3, .int (x3_36)), (0, .ref (ad (60))), (1, .ref (ad (100))), (2, .int (a0))]) hx hb dX7_walk_214 hl (by decide) rfl (fun ls hl => ?_)
              obtain ⟨v27, ev27⟩ : ∃ z : Int32, z = x8_36 + Int32.ofInt (1) := ⟨_, rfl⟩
              have tv27 := a_inc ev27 (by decide) (by omega) (by omega)
              refine lv_iinc (v := v27) (lv' := [(8, .int (v27)), (5, .int (v26)), (4, .int (v24)), (9, .int (Ia36 (103) (r20).toNatClampNeg)), (7, .int (v19)), (6, .int (x6_36)), (3, .int (x3_36)), (0, .ref (ad (60))), (1, .ref (ad (100))), (2, .int (a0))]) hx hb dX7_walk_216 hl (k := 4) rfl ev27.symm (by decide) rfl (fun ls hl => ?_)
              refine lv_goto (tgt := 36) hx hb dX7_walk_219 (by decide) ?_
              exact ih36 (v27) (v19) (x6_36) (v26) (v24) (x3_36) Ia36 La36 _ _ ls hI hK (by first | omega | decide) (by first | omega | decide) (by omega) hM hS (lv_sub hl [0, 4, 5, 1, 2, 6, 7, 8, 9] rfl)
            · have hc22 := c22
              have q22 := q_ne hc22
              refine lv_aload_n hx hb dX7_walk_116 rfl (lv_at hl 8 rfl) ?_
              refine lv_iload hx hb dX7_walk_117 (lv_at hl 0 rfl) ?_
              refine m_calli (m_runV (100) (As := [.int (Ia36 (103) (r20).toNatClampNeg)]) (rest := []) hx hb hml hown hts hE hM hS hA ce_X8_isWhole tb_1107 (V_X8_isWhole_100 l D A ad ns Ia36 La36 G (Ia36 (103) (r20).toNatClampNeg) hG hI (by first | omega | decide)) rfl rfl ⟨Nat.le_of_ble_eq_true rfl, Nat.le_of_ble_eq_true rfl⟩ (hG.1 100 (by decide)) rfl rfl (by decide) rfl hl.1 rfl (Nat.le_of_ble_eq_true rfl) dX7_walk_119 ⟨Nat.le_of_ble_eq_true rfl, Nat.le_of_ble_eq_true rfl⟩) hS (fun r28 u H locs hw hM hS => ?_)
              obtain ⟨rfl, xr28⟩ := hw
              have hM : Mem D A ad ns Ia36 La36 G H := hM
              refine lv_if_eq (tgt := 194) hx hb dX7_walk_122 (by decide) (fun c29 => ?_) (fun c29 => ?_)
              · have hc29 := c29
                have q29 := q_eq hc29
                refine lv_iload hx hb dX7_walk_194 (lv_at hl 5 rfl) ?_
                refine va_getsN hx hb hE.2.2.2.2.2.1.1 hS hown (va_Nw.use rfl (hE.2.1 _ (List.mem_of_getElem? (i := 17) rfl))) (fun _ h => h) dX7_walk_196 ?_
                refine lv_iload hx hb dX7_walk_199 (lv_at hl 3 rfl) ?_
                refine va_ti hx hb hE.2.2.2.2.2.1.2 hS (i := x6_36) (vp_in_iff.mpr (by omega)) rfl dX7_walk_201 ?_
                refine lv_topi (fun v30 ev30 => ?_)
                have tv30 := stX_r ev30
                refine lv_iadd hx hb dX7_walk_202 ?_
                refine lv_topi (fun v31 ev31 => ?_)
                refine lv_istore (lv' := [(4, .int (v31)), (9, .int (Ia36 (103) (r20).toNatClampNeg)), (7, .int (v19)), (8, .int (x8_36)), (6, .int (x6_36)), (5, .int (x5_36)), (3, .int (x3_36)), (0, .ref (ad (60))), (1, .ref (ad (100))), (2, .int (a0))]) hx hb dX7_walk_203 hl (by decide) rfl (fun ls hl => ?_)
                refine lv_iload hx hb dX7_walk_205 (lv_at hl 5 rfl) ?_
                refine va_getsN hx hb hE.2.2.2.2.2.2.1.1 hS hown (va_Nw.use rfl (hE.2.1 _ (List.mem_of_getElem? (i := 18) rfl))) (fun _ h => h) dX7_walk_207 ?_
                refine lv_iload hx hb dX7_walk_210 (lv_at hl 4 rfl) ?_
                refine va_ti hx hb hE.2.2.2.2.2.2.1.2 hS (i := x6_36) (vp_in_iff.mpr (by omega)) rfl dX7_walk_212 ?_
                refine lv_topi (fun v32 ev32 => ?_)
                have tv32 := stY_r ev32
                refine lv_iadd hx hb dX7_walk_213 ?_
                refine lv_topi (fun v33 ev33 => ?_)
                refine lv_istore (lv' := [(5, .int (v33)), (4, .int (v31)), (9, .int (Ia36 (103) (r20).toNatClampNeg)), (7, .int (v19)), (8, .int (x8_36)), (6, .int (x6_36)), (3, .int (x3_36)), (0, .ref (ad (60))), (1, .ref (ad (100))), (2, .int (a0))]) hx hb dX7_walk_214 hl (by decide) rfl (fun ls hl => ?_)
                obtain ⟨v34, ev34⟩ : ∃ z : Int32, z = x8_36 + Int32.ofInt (1) := ⟨_, rfl⟩
                have tv34 := a_inc ev34 (by decide) (by omega) (by omega)
                refine lv_iinc (v := v34) (lv' := [(8, .int (v34)), (5, .int (v33)), (4, .int (v31)), (9, .int (Ia36 (103) (r20).toNatClampNeg)), (7, .int (v19)), (6, .int (x6_36)), (3, .int (x3_36)), (0, .ref (ad (60))), (1, .ref (ad (100))), (2, .int (a0))]) hx hb dX7_walk_216 hl (k := 4) rfl ev34.symm (by decide) rfl (fun ls hl => ?_)
                refine lv_goto (tgt := 36) hx hb dX7_walk_219 (by decide) ?_
                exact ih36 (v34) (v19) (x6_36) (v33) (v31) (x3_36) Ia36 La36 _ _ ls hI hK (by first | omega | decide) (by first | omega | decide) (by omega) hM hS (lv_sub hl [0, 4, 5, 1, 2, 6, 7, 8, 9] rfl)
              · have hc29 := c29
                have q29 := q_ne hc29
                refine lv_iload_n hx hb dX7_walk_125 rfl (lv_at hl 6 rfl) ?_
                refine lv_iload hx hb dX7_walk_126 (lv_at hl 0 rfl) ?_
                refine lv_ishr hx hb dX7_walk_128 ?_
                refine lv_topi (fun v35 ev35 => ?_)
                refine lv_iconst (v := (1)) hx hb dX7_walk_129 (by decide) ?_
                refine lv_iand hx hb dX7_walk_130 ?_
                refine lv_topi (fun v36 ev36 => ?_)
                have tv36 := a_and (c := 1) ev36 (by decide) (by decide)
                refine lv_if_ne (tgt := 151) hx hb dX7_walk_131 (by decide) (fun c37 => ?_) (fun c37 => ?_)
                · have hc37 := c37
                  have q37 := q_ne hc37
                  refine lv_iload hx hb dX7_walk_151 (lv_at hl 1 rfl) ?_
                  refine lv_iload hx hb dX7_walk_153 (lv_at hl 1 rfl) ?_
                  refine lv_aload_n hx hb dX7_walk_155 rfl (lv_at hl 8 rfl) ?_
                  refine lv_iload hx hb dX7_walk_156 (lv_at hl 0 rfl) ?_
                  refine m_calli (m_runV (100) (As := [.int (Ia36 (103) (r20).toNatClampNeg)]) (rest := [.int (v19), .int (v19)]) hx hb hml hown hts hE hM hS hA ce_X8_lossOf tb_1112 (V_X8_lossOf_100 l D A ad ns Ia36 La36 G (Ia36 (103) (r20).toNatClampNeg) hG hI (by first | omega | decide)) rfl rfl ⟨Nat.le_of_ble_eq_true rfl, Nat.le_of_ble_eq_true rfl⟩ (hG.1 100 (by decide)) rfl rfl (by decide) rfl hl.1 rfl (Nat.le_of_ble_eq_true rfl) dX7_walk_158 ⟨Nat.le_of_ble_eq_true rfl, Nat.le_of_ble_eq_true rfl⟩) hS (fun r38 u H locs hw hM hS => ?_)
                  obtain ⟨rfl, xr38⟩ := hw
                  have hM : Mem D A ad ns Ia36 La36 G H := hM
                  refine m_calli (m_runSN (As := [.int (v19), .int (r38)]) (rest := [.int (v19)]) hx hb hml hown hts hE hM hS hA ce_X9_shareOf (List.mem_of_getElem? (i := 15) rfl) (V_X9_shareOf l D A ad ns Ia36 La36 G (v19) (r38) hI) rfl rfl ⟨Nat.le_of_ble_eq_true rfl, Nat.le_of_ble_eq_true rfl⟩  rfl hl.1 rfl (Nat.le_of_ble_eq_true rfl) dX7_walk_161 ⟨Nat.le_of_ble_eq_true rfl, Nat.le_of_ble_eq_true rfl⟩) hS (fun r39 u H locs hw hM hS => ?_)
                  obtain ⟨rfl, xr39⟩ := hw
                  have hM : Mem D A ad ns Ia36 La36 G H := hM
                  refine lv_isub hx hb dX7_walk_164 ?_
                  refine lv_topi (fun v40 ev40 => ?_)
                  refine lv_istore (lv' := [(7, .int (v40)), (9, .int (Ia36 (103) (r20).toNatClampNeg)), (8, .int (x8_36)), (6, .int (x6_36)), (5, .int (x5_36)), (4, .int (x4_36)), (3, .int (x3_36)), (0, .ref (ad (60))), (1, .ref (ad (100))), (2, .int (a0))]) hx hb dX7_walk_165 hl (by decide) rfl (fun ls hl => ?_)
                  refine lv_iload hx hb dX7_walk_167 (lv_at hl 0 rfl) ?_
                  refine lv_iload hx hb dX7_walk_169 (lv_at hl 0 rfl) ?_
                  refine lv_aload_n hx hb dX7_walk_171 rfl (lv_at hl 8 rfl) ?_
                  refine lv_iload hx hb dX7_walk_172 (lv_at hl 1 rfl) ?_
                  refine lv_iconst (v := (4)) hx hb dX7_walk_174 (by decide) ?_
                  refine m_calli (m_runV (100) (As := [.int (Ia36 (103) (r20).toNatClampNeg), .int (4)]) (rest := [.int (v40), .int (v40)]) hx hb hml hown hts hE hM hS hA ce_X8_ofMirror tb_1113 (V_X8_ofMirror_100 l D A ad ns Ia36 La36 G (Ia36 (103) (r20).toNatClampNeg) (4) hG hI (by first | omega | decide) (by first | omega | decide)) rfl rfl ⟨Nat.le_of_ble_eq_true rfl, Nat.le_of_ble_eq_true rfl⟩ (hG.1 100 (by decide)) rfl rfl (by decide) rfl hl.1 rfl (Nat.le_of_ble_eq_true rfl) dX7_walk_175 ⟨Nat.le_of_ble_eq_true rfl, Nat.le_of_ble_eq_true rfl⟩) hS (fun r41 u H locs hw hM hS => ?_)
                  obtain ⟨rfl, xr41⟩ := hw
                  have hM : Mem D A ad ns Ia36 La36 G H := hM
                  refine m_calli (m_runSN (As := [.int (v40), .int (r41)]) (rest := [.int (v40)]) hx hb hml hown hts hE hM hS hA ce_X9_shareOf (List.mem_of_getElem? (i := 15) rfl) (V_X9_shareOf l D A ad ns Ia36 La36 G (v40) (r41) hI) rfl rfl ⟨Nat.le_of_ble_eq_true rfl, Nat.le_of_ble_eq_true rfl⟩  rfl hl.1 rfl (Nat.le_of_ble_eq_true rfl) dX7_walk_178 ⟨Nat.le_of_ble_eq_true rfl, Nat.le_of_ble_eq_true rfl⟩) hS (fun r42 u H locs hw hM hS => ?_)
                  obtain ⟨rfl, xr42⟩ := hw
                  have hM : Mem D A ad ns Ia36 La36 G H := hM
                  refine lv_isub hx hb dX7_walk_181 ?_
                  refine lv_topi (fun v43 ev43 => ?_)
                  refine lv_istore (lv' := [(7, .int (v43)), (9, .int (Ia36 (103) (r20).toNatClampNeg)), (8, .int (x8_36)), (6, .int (x6_36)), (5, .int (x5_36)), (4, .int (x4_36)), (3, .int (x3_36)), (0, .ref (ad (60))), (1, .ref (ad (100))), (2, .int (a0))]) hx hb dX7_walk_182 hl (by decide) rfl (fun ls hl => ?_)
                  refine lv_aload_n hx hb dX7_walk_184 rfl (lv_at hl 8 rfl) ?_
                  refine lv_iload hx hb dX7_walk_185 (lv_at hl 1 rfl) ?_
                  refine lv_iload hx hb dX7_walk_187 (lv_at hl 3 rfl) ?_
                  refine m_calli (m_runV (100) (As := [.int (Ia36 (103) (r20).toNatClampNeg), .int (x6_36)]) (rest := []) hx hb hml hown hts hE hM hS hA ce_X8_wayFrom tb_1114 (V_X8_wayFrom_100 l D A ad ns Ia36 La36 G (Ia36 (103) (r20).toNatClampNeg) (x6_36) hG hI (by first | omega | decide)) rfl rfl ⟨Nat.le_of_ble_eq_true rfl, Nat.le_of_ble_eq_true rfl⟩ (hG.1 100 (by decide)) rfl rfl (by decide) rfl hl.1 rfl (Nat.le_of_ble_eq_true rfl) dX7_walk_189 ⟨Nat.le_of_ble_eq_true rfl, Nat.le_of_ble_eq_true rfl⟩) hS (fun r44 u H locs hw hM hS => ?_)
                  obtain ⟨rfl, xr44⟩ := hw
                  have hM : Mem D A ad ns Ia36 La36 G H := hM
                  refine lv_istore (lv' := [(6, .int (r44)), (7, .int (v43)), (9, .int (Ia36 (103) (r20).toNatClampNeg)), (8, .int (x8_36)), (5, .int (x5_36)), (4, .int (x4_36)), (3, .int (x3_36)), (0, .ref (ad (60))), (1, .ref (ad (100))), (2, .int (a0))]) hx hb dX7_walk_192 hl (by decide) rfl (fun ls hl => ?_)
                  refine lv_iload hx hb dX7_walk_194 (lv_at hl 5 rfl) ?_
                  refine va_getsN hx hb hE.2.2.2.2.2.1.1 hS hown (va_Nw.use rfl (hE.2.1 _ (List.mem_of_getElem? (i := 17) rfl))) (fun _ h => h) dX7_walk_196 ?_
                  refine lv_iload hx hb dX7_walk_199 (lv_at hl 0 rfl) ?_
                  refine va_ti hx hb hE.2.2.2.2.2.1.2 hS (i := r44) (vp_in_iff.mpr (by omega)) rfl dX7_walk_201 ?_
                  refine lv_topi (fun v45 ev45 => ?_)
                  have tv45 := stX_r ev45
                  refine lv_iadd hx hb dX7_walk_202 ?_
                  refine lv_topi (fun v46 ev46 => ?_)
                  refine lv_istore (lv' := [(4, .int (v46)), (6, .int (r44)), (7, .int (v43)), (9, .int (Ia36 (103) (r20).toNatClampNeg)), (8, .int (x8_36)), (5, .int (x5_36)), (3, .int (x3_36)), (0, .ref (ad (60))), (1, .ref (ad (100))), (2, .int (a0))]) hx hb dX7_walk_203 hl (by decide) rfl (fun ls hl => ?_)
                  refine lv_iload hx hb dX7_walk_205 (lv_at hl 5 rfl) ?_
                  refine va_getsN hx hb hE.2.2.2.2.2.2.1.1 hS hown (va_Nw.use rfl (hE.2.1 _ (List.mem_of_getElem? (i := 18) rfl))) (fun _ h => h) dX7_walk_207 ?_
                  refine lv_iload hx hb dX7_walk_210 (lv_at hl 1 rfl) ?_
                  refine va_ti hx hb hE.2.2.2.2.2.2.1.2 hS (i := r44) (vp_in_iff.mpr (by omega)) rfl dX7_walk_212 ?_
                  refine lv_topi (fun v47 ev47 => ?_)
                  have tv47 := stY_r ev47
                  refine lv_iadd hx hb dX7_walk_213 ?_
                  refine lv_topi (fun v48 ev48 => ?_)
                  refine lv_istore (lv' := [(5, .int (v48)), (4, .int (v46)), (6, .int (r44)), (7, .int (v43)), (9, .int (Ia36 (103) (r20).toNatClampNeg)), (8, .int (x8_36)), (3, .int (x3_36)), (0, .ref (ad (60))), (1, .ref (ad (100))), (2, .int (a0))]) hx hb dX7_walk_214 hl (by decide) rfl (fun ls hl => ?_)
                  obtain ⟨v49, ev49⟩ : ∃ z : Int32, z = x8_36 + Int32.ofInt (1) := ⟨_, rfl⟩
                  have tv49 := a_inc ev49 (by decide) (by omega) (by omega)
                  refine lv_iinc (v := v49) (lv' := [(8, .int (v49)), (5, .int (v48)), (4, .int (v46)), (6, .int (r44)), (7, .int (v43)), (9, .int (Ia36 (103) (r20).toNatClampNeg)), (3, .int (x3_36)), (0, .ref (ad (60))), (1, .ref (ad (100))), (2, .int (a0))]) hx hb dX7_walk_216 hl (k := 5) rfl ev49.symm (by decide) rfl (fun ls hl => ?_)
                  refine lv_goto (tgt := 36) hx hb dX7_walk_219 (by decide) ?_
                  exact ih36 (v49) (v43) (r44) (v48) (v46) (x3_36) Ia36 La36 _ _ ls hI hK (by first | omega | decide) (by first | omega | decide) (by omega) hM hS (lv_sub hl [0, 4, 3, 1, 2, 6, 7, 8, 9] rfl)
                · have hc37 := c37
                  have q37 := q_eq hc37
                  refine lv_iload_n hx hb dX7_walk_134 rfl (lv_at hl 6 rfl) ?_
                  refine lv_iconst (v := (1)) hx hb dX7_walk_135 (by decide) ?_
                  refine lv_iload hx hb dX7_walk_136 (lv_at hl 0 rfl) ?_
                  refine lv_ishl hx hb dX7_walk_138 ?_
                  refine lv_topi (fun v50 ev50 => ?_)
                  refine lv_ior hx hb dX7_walk_139 ?_
                  refine lv_topi (fun v51 ev51 => ?_)
                  refine lv_istore_n (lv' := [(3, .int (v51)), (9, .int (Ia36 (103) (r20).toNatClampNeg)), (7, .int (v19)), (8, .int (x8_36)), (6, .int (x6_36)), (5, .int (x5_36)), (4, .int (x4_36)), (0, .ref (ad (60))), (1, .ref (ad (100))), (2, .int (a0))]) hx hb dX7_walk_140 rfl hl (by decide) rfl (fun ls hl => ?_)
                  refine lv_aload_n hx hb dX7_walk_141 rfl (lv_at hl 7 rfl) ?_
                  refine lv_iload hx hb dX7_walk_142 (lv_at hl 1 rfl) ?_
                  refine lv_iload hx hb dX7_walk_144 (lv_at hl 2 rfl) ?_
                  refine m_calli (m_runV (60) (As := [.int (Ia36 (103) (r20).toNatClampNeg), .int (v19)]) (rest := []) hx hb hml hown hts hE hM hS hA ce_X7_meet tb_1108 (V_X7_meet l D A ad ns Ia36 La36 G (Ia36 (103) (r20).toNatClampNeg) (v19) hG hI (by first | omega | decide)) rfl rfl ⟨Nat.le_of_ble_eq_true rfl, Nat.le_of_ble_eq_true rfl⟩ (hG.1 60 (by decide)) rfl rfl (by decide) rfl hl.1 rfl (Nat.le_of_ble_eq_true rfl) dX7_walk_146 ⟨Nat.le_of_ble_eq_true rfl, Nat.le_of_ble_eq_true rfl⟩) hS (fun r52 u H locs hw hM hS => ?_)
                  obtain ⟨I53, L54, rfl, hI, hkI53⟩ := hw
                  have hM : Mem D A ad ns I53 L54 G H := hM
                  have hK := hK.trans hkI53 rfl
                  refine lv_istore (lv' := [(7, .int (r52)), (3, .int (v51)), (9, .int (Ia36 (103) (r20).toNatClampNeg)), (8, .int (x8_36)), (6, .int (x6_36)), (5, .int (x5_36)), (4, .int (x4_36)), (0, .ref (ad (60))), (1, .ref (ad (100))), (2, .int (a0))]) hx hb dX7_walk_149 hl (by decide) rfl (fun ls hl => ?_)
                  refine lv_iload hx hb dX7_walk_151 (lv_at hl 0 rfl) ?_
                  refine lv_iload hx hb dX7_walk_153 (lv_at hl 0 rfl) ?_
                  refine lv_aload_n hx hb dX7_walk_155 rfl (lv_at hl 8 rfl) ?_
                  refine lv_iload hx hb dX7_walk_156 (lv_at hl 2 rfl) ?_
                  refine m_calli (m_runV (100) (As := [.int (Ia36 (103) (r20).toNatClampNeg)]) (rest := [.int (r52), .int (r52)]) hx hb hml hown hts hE hM hS hA ce_X8_lossOf tb_1112 (V_X8_lossOf_100 l D A ad ns I53 L54 G (Ia36 (103) (r20).toNatClampNeg) hG hI (by first | omega | decide)) rfl rfl ⟨Nat.le_of_ble_eq_true rfl, Nat.le_of_ble_eq_true rfl⟩ (hG.1 100 (by decide)) rfl rfl (by decide) rfl hl.1 rfl (Nat.le_of_ble_eq_true rfl) dX7_walk_158 ⟨Nat.le_of_ble_eq_true rfl, Nat.le_of_ble_eq_true rfl⟩) hS (fun r55 u H locs hw hM hS => ?_)
                  obtain ⟨rfl, xr55⟩ := hw
                  have hM : Mem D A ad ns I53 L54 G H := hM
                  refine m_calli (m_runSN (As := [.int (r52), .int (r55)]) (rest := [.int (r52)]) hx hb hml hown hts hE hM hS hA ce_X9_shareOf (List.mem_of_getElem? (i := 15) rfl) (V_X9_shareOf l D A ad ns I53 L54 G (r52) (r55) hI) rfl rfl ⟨Nat.le_of_ble_eq_true rfl, Nat.le_of_ble_eq_true rfl⟩  rfl hl.1 rfl (Nat.le_of_ble_eq_true rfl) dX7_walk_161 ⟨Nat.le_of_ble_eq_true rfl, Nat.le_of_ble_eq_true rfl⟩) hS (fun r56 u H locs hw hM hS => ?_)
                  obtain ⟨rfl, xr56⟩ := hw
                  have hM : Mem D A ad ns I53 L54 G H := hM
                  refine lv_isub hx hb dX7_walk_164 ?_
                  refine lv_topi (fun v57 ev57 => ?_)
                  refine lv_istore (lv' := [(7, .int (v57)), (3, .int (v51)), (9, .int (Ia36 (103) (r20).toNatClampNeg)), (8, .int (x8_36)), (6, .int (x6_36)), (5, .int (x5_36)), (4, .int (x4_36)), (0, .ref (ad (60))), (1, .ref (ad (100))), (2, .int (a0))]) hx hb dX7_walk_165 hl (by decide) rfl (fun ls hl => ?_)
                  refine lv_iload hx hb dX7_walk_167 (lv_at hl 0 rfl) ?_
                  refine lv_iload hx hb dX7_walk_169 (lv_at hl 0 rfl) ?_
                  refine lv_aload_n hx hb dX7_walk_171 rfl (lv_at hl 8 rfl) ?_
                  refine lv_iload hx hb dX7_walk_172 (lv_at hl 2 rfl) ?_
                  refine lv_iconst (v := (4)) hx hb dX7_walk_174 (by decide) ?_
                  refine m_calli (m_runV (100) (As := [.int (Ia36 (103) (r20).toNatClampNeg), .int (4)]) (rest := [.int (v57), .int (v57)]) hx hb hml hown hts hE hM hS hA ce_X8_ofMirror tb_1113 (V_X8_ofMirror_100 l D A ad ns I53 L54 G (Ia36 (103) (r20).toNatClampNeg) (4) hG hI (by first | omega | decide) (by first | omega | decide)) rfl rfl ⟨Nat.le_of_ble_eq_true rfl, Nat.le_of_ble_eq_true rfl⟩ (hG.1 100 (by decide)) rfl rfl (by decide) rfl hl.1 rfl (Nat.le_of_ble_eq_true rfl) dX7_walk_175 ⟨Nat.le_of_ble_eq_true rfl, Nat.le_of_ble_eq_true rfl⟩) hS (fun r58 u H locs hw hM hS => ?_)
                  obtain ⟨rfl, xr58⟩ := hw
                  have hM : Mem D A ad ns I53 L54 G H := hM
                  refine m_calli (m_runSN (As := [.int (v57), .int (r58)]) (rest := [.int (v57)]) hx hb hml hown hts hE hM hS hA ce_X9_shareOf (List.mem_of_getElem? (i := 15) rfl) (V_X9_shareOf l D A ad ns I53 L54 G (v57) (r58) hI) rfl rfl ⟨Nat.le_of_ble_eq_true rfl, Nat.le_of_ble_eq_true rfl⟩  rfl hl.1 rfl (Nat.le_of_ble_eq_true rfl) dX7_walk_178 ⟨Nat.le_of_ble_eq_true rfl, Nat.le_of_ble_eq_true rfl⟩) hS (fun r59 u H locs hw hM hS => ?_)
                  obtain ⟨rfl, xr59⟩ := hw
                  have hM : Mem D A ad ns I53 L54 G H := hM
                  refine lv_isub hx hb dX7_walk_181 ?_
                  refine lv_topi (fun v60 ev60 => ?_)
                  refine lv_istore (lv' := [(7, .int (v60)), (3, .int (v51)), (9, .int (Ia36 (103) (r20).toNatClampNeg)), (8, .int (x8_36)), (6, .int (x6_36)), (5, .int (x5_36)), (4, .int (x4_36)), (0, .ref (ad (60))), (1, .ref (ad (100))), (2, .int (a0))]) hx hb dX7_walk_182 hl (by decide) rfl (fun ls hl => ?_)
                  refine lv_aload_n hx hb dX7_walk_184 rfl (lv_at hl 8 rfl) ?_
                  refine lv_iload hx hb dX7_walk_185 (lv_at hl 2 rfl) ?_
                  refine lv_iload hx hb dX7_walk_187 (lv_at hl 4 rfl) ?_
                  refine m_calli (m_runV (100) (As := [.int (Ia36 (103) (r20).toNatClampNeg), .int (x6_36)]) (rest := []) hx hb hml hown hts hE hM hS hA ce_X8_wayFrom tb_1114 (V_X8_wayFrom_100 l D A ad ns I53 L54 G (Ia36 (103) (r20).toNatClampNeg) (x6_36) hG hI (by first | omega | decide)) rfl rfl ⟨Nat.le_of_ble_eq_true rfl, Nat.le_of_ble_eq_true rfl⟩ (hG.1 100 (by decide)) rfl rfl (by decide) rfl hl.1 rfl (Nat.le_of_ble_eq_true rfl) dX7_walk_189 ⟨Nat.le_of_ble_eq_true rfl, Nat.le_of_ble_eq_true rfl⟩) hS (fun r61 u H locs hw hM hS => ?_)
                  obtain ⟨rfl, xr61⟩ := hw
                  have hM : Mem D A ad ns I53 L54 G H := hM
                  refine lv_istore (lv' := [(6, .int (r61)), (7, .int (v60)), (3, .int (v51)), (9, .int (Ia36 (103) (r20).toNatClampNeg)), (8, .int (x8_36)), (5, .int (x5_36)), (4, .int (x4_36)), (0, .ref (ad (60))), (1, .ref (ad (100))), (2, .int (a0))]) hx hb dX7_walk_192 hl (by decide) rfl (fun ls hl => ?_)
                  refine lv_iload hx hb dX7_walk_194 (lv_at hl 6 rfl) ?_
                  refine va_getsN hx hb hE.2.2.2.2.2.1.1 hS hown (va_Nw.use rfl (hE.2.1 _ (List.mem_of_getElem? (i := 17) rfl))) (fun _ h => h) dX7_walk_196 ?_
                  refine lv_iload hx hb dX7_walk_199 (lv_at hl 0 rfl) ?_
                  refine va_ti hx hb hE.2.2.2.2.2.1.2 hS (i := r61) (vp_in_iff.mpr (by omega)) rfl dX7_walk_201 ?_
                  refine lv_topi (fun v62 ev62 => ?_)
                  have tv62 := stX_r ev62
                  refine lv_iadd hx hb dX7_walk_202 ?_
                  refine lv_topi (fun v63 ev63 => ?_)
                  refine lv_istore (lv' := [(4, .int (v63)), (6, .int (r61)), (7, .int (v60)), (3, .int (v51)), (9, .int (Ia36 (103) (r20).toNatClampNeg)), (8, .int (x8_36)), (5, .int (x5_36)), (0, .ref (ad (60))), (1, .ref (ad (100))), (2, .int (a0))]) hx hb dX7_walk_203 hl (by decide) rfl (fun ls hl => ?_)
                  refine lv_iload hx hb dX7_walk_205 (lv_at hl 6 rfl) ?_
                  refine va_getsN hx hb hE.2.2.2.2.2.2.1.1 hS hown (va_Nw.use rfl (hE.2.1 _ (List.mem_of_getElem? (i := 18) rfl))) (fun _ h => h) dX7_walk_207 ?_
                  refine lv_iload hx hb dX7_walk_210 (lv_at hl 1 rfl) ?_
                  refine va_ti hx hb hE.2.2.2.2.2.2.1.2 hS (i := r61) (vp_in_iff.mpr (by omega)) rfl dX7_walk_212 ?_
                  refine lv_topi (fun v64 ev64 => ?_)
                  have tv64 := stY_r ev64
                  refine lv_iadd hx hb dX7_walk_213 ?_
                  refine lv_topi (fun v65 ev65 => ?_)
                  refine lv_istore (lv' := [(5, .int (v65)), (4, .int (v63)), (6, .int (r61)), (7, .int (v60)), (3, .int (v51)), (9, .int (Ia36 (103) (r20).toNatClampNeg)), (8, .int (x8_36)), (0, .ref (ad (60))), (1, .ref (ad (100))), (2, .int (a0))]) hx hb dX7_walk_214 hl (by decide) rfl (fun ls hl => ?_)
                  obtain ⟨v66, ev66⟩ : ∃ z : Int32, z = x8_36 + Int32.ofInt (1) := ⟨_, rfl⟩
                  have tv66 := a_inc ev66 (by decide) (by omega) (by omega)
                  refine lv_iinc (v := v66) (lv' := [(8, .int (v66)), (5, .int (v65)), (4, .int (v63)), (6, .int (r61)), (7, .int (v60)), (3, .int (v51)), (9, .int (Ia36 (103) (r20).toNatClampNeg)), (0, .ref (ad (60))), (1, .ref (ad (100))), (2, .int (a0))]) hx hb dX7_walk_216 hl (k := 6) rfl ev66.symm (by decide) rfl (fun ls hl => ?_)
                  refine lv_goto (tgt := 36) hx hb dX7_walk_219 (by decide) ?_
                  exact ih36 (v66) (v60) (r61) (v65) (v63) (v51) I53 L54 _ _ ls hI hK (by first | omega | decide) (by first | omega | decide) (by omega) hM hS (lv_sub hl [0, 4, 3, 1, 2, 5, 7, 8, 9] rfl)
          · have hc13 := c13
            have q13 := q_eq hc13
            exact m_vret hx hb hr hlocks hM hS (Nat.le_of_ble_eq_true rfl) (Nat.le_of_ble_eq_true rfl) ⟨_, _, rfl, hI, hK⟩ dX7_walk_60
  exact loop36 (_ + 1) (0) (r7) (r6) (I (100) 3) (I (100) 2) (0) (u2 I (60) 5 (0)) L _ _ ls hI hK (by first | omega | decide) (by first | omega | decide) (Nat.lt_succ_self _) hM hS (lv_sub hl [0, 1, 2, 3, 4, 5, 6, 7, 8] rfl)
theorem dX7_isExplainedBehind_0 : decode cX7_isExplainedBehind 0 = .ok (.aload_n 0, 1) := by decide +kernel
theorem dX7_isExplainedBehind_1 : decode cX7_isExplainedBehind 1 = .ok (.getfield 32, 3) := by decide +kernel
theorem dX7_isExplainedBehind_4 : decode cX7_isExplainedBehind 4 = .ok (.istore 4, 2) := by decide +kernel
theorem dX7_isExplainedBehind_6 : decode cX7_isExplainedBehind 6 = .ok (.aload_n 0, 1) := by decide +kernel
theorem dX7_isExplainedBehind_7 : decode cX7_isExplainedBehind 7 = .ok (.getfield 15, 3) := by decide +kernel
theorem dX7_isExplainedBehind_10 : decode cX7_isExplainedBehind 10 = .ok (.iconst 0, 1) := by decide +kernel
theorem dX7_isExplainedBehind_11 : decode cX7_isExplainedBehind 11 = .ok (.invokestatic 45, 3) := by decide +kernel
theorem dX7_isExplainedBehind_14 : decode cX7_isExplainedBehind 14 = .ok (.aload_n 0, 1) := by decide +kernel
theorem dX7_isExplainedBehind_15 : decode cX7_isExplainedBehind 15 = .ok (.aload_n 1, 1) := by decide +kernel
theorem dX7_isExplainedBehind_16 : decode cX7_isExplainedBehind 16 = .ok (.iload_n 2, 1) := by decide +kernel
theorem dX7_isExplainedBehind_17 : decode cX7_isExplainedBehind 17 = .ok (.invokevirtual 28, 3) := by decide +kernel
theorem dX7_isExplainedBehind_20 : decode cX7_isExplainedBehind 20 = .ok (.iload_n 3, 1) := by decide +kernel
theorem dX7_isExplainedBehind_21 : decode cX7_isExplainedBehind 21 = .ok (.iconst 1, 1) := by decide +kernel
theorem dX7_isExplainedBehind_22 : decode cX7_isExplainedBehind 22 = .ok (.iadd, 1) := by decide +kernel
theorem dX7_isExplainedBehind_23 : decode cX7_isExplainedBehind 23 = .ok (.istore 5, 2) := by decide +kernel
theorem dX7_isExplainedBehind_25 : decode cX7_isExplainedBehind 25 = .ok (.iload 5, 2) := by decide +kernel
theorem dX7_isExplainedBehind_27 : decode cX7_isExplainedBehind 27 = .ok (.iload 4, 2) := by decide +kernel
theorem dX7_isExplainedBehind_29 : decode cX7_isExplainedBehind 29 = .ok (.if_icmp .ge 44, 3) := by decide +kernel
theorem dX7_isExplainedBehind_32 : decode cX7_isExplainedBehind 32 = .ok (.aload_n 1, 1) := by decide +kernel
theorem dX7_isExplainedBehind_33 : decode cX7_isExplainedBehind 33 = .ok (.aload_n 0, 1) := by decide +kernel
theorem dX7_isExplainedBehind_34 : decode cX7_isExplainedBehind 34 = .ok (.getfield 9, 3) := by decide +kernel
theorem dX7_isExplainedBehind_37 : decode cX7_isExplainedBehind 37 = .ok (.iload 5, 2) := by decide +kernel
theorem dX7_isExplainedBehind_39 : decode cX7_isExplainedBehind 39 = .ok (.iaload, 1) := by decide +kernel
theorem dX7_isExplainedBehind_40 : decode cX7_isExplainedBehind 40 = .ok (.bipush 9, 2) := by decide +kernel
theorem dX7_isExplainedBehind_42 : decode cX7_isExplainedBehind 42 = .ok (.invokevirtual 35, 3) := by decide +kernel
theorem dX7_isExplainedBehind_45 : decode cX7_isExplainedBehind 45 = .ok (.istore 6, 2) := by decide +kernel
theorem dX7_isExplainedBehind_47 : decode cX7_isExplainedBehind 47 = .ok (.iload 6, 2) := by decide +kernel
theorem dX7_isExplainedBehind_49 : decode cX7_isExplainedBehind 49 = .ok (.iconst (-1), 1) := by decide +kernel
theorem dX7_isExplainedBehind_50 : decode cX7_isExplainedBehind 50 = .ok (.if_icmp .eq 17, 3) := by decide +kernel
theorem dX7_isExplainedBehind_53 : decode cX7_isExplainedBehind 53 = .ok (.iload 6, 2) := by decide +kernel
theorem dX7_isExplainedBehind_55 : decode cX7_isExplainedBehind 55 = .ok (.aload_n 0, 1) := by decide +kernel
theorem dX7_isExplainedBehind_56 : decode cX7_isExplainedBehind 56 = .ok (.getfield 15, 3) := by decide +kernel
theorem dX7_isExplainedBehind_59 : decode cX7_isExplainedBehind 59 = .ok (.iload 5, 2) := by decide +kernel
theorem dX7_isExplainedBehind_61 : decode cX7_isExplainedBehind 61 = .ok (.iaload, 1) := by decide +kernel
theorem dX7_isExplainedBehind_62 : decode cX7_isExplainedBehind 62 = .ok (.if_icmp .eq 5, 3) := by decide +kernel
theorem dX7_isExplainedBehind_65 : decode cX7_isExplainedBehind 65 = .ok (.iconst 0, 1) := by decide +kernel
theorem dX7_isExplainedBehind_66 : decode cX7_isExplainedBehind 66 = .ok (.ireturn, 1) := by decide +kernel
theorem dX7_isExplainedBehind_67 : decode cX7_isExplainedBehind 67 = .ok (.iinc 5 1, 3) := by decide +kernel
theorem dX7_isExplainedBehind_70 : decode cX7_isExplainedBehind 70 = .ok (.goto (-45), 3) := by decide +kernel
theorem dX7_isExplainedBehind_73 : decode cX7_isExplainedBehind 73 = .ok (.iconst 1, 1) := by decide +kernel
theorem dX7_isExplainedBehind_74 : decode cX7_isExplainedBehind 74 = .ok (.ireturn, 1) := by decide +kernel
theorem ce_X7_isExplainedBehind : CeV RX7 yX7_isExplainedBehind cX7_isExplainedBehind 7 (some .boolean) 3 := ⟨tb_1119, tp_50, tb_8, tb_1120, rfl, by decide, by decide, by decide +kernel⟩
set_option maxHeartbeats 4000000 in
set_option maxRecDepth 20000 in
theorem V_X7_isExplainedBehind (l : Launch) (D : va_G) (A : Nat → Prop) (ad : Nat → Nat) (ns : List Nat) (I : MI) (L : ML) (G : MG) (a0 : Int32) (a1 : Int32) (hG : SGC ns G) (hI : INV I) (hlit : Lit 100 I a0) (ha0 : 0 ≤ a0.toInt ∧ a0.toInt ≤ 23) (ha1 : 0 ≤ a1.toInt ∧ a1.toInt ≤ 23) : Met l yX7_isExplainedBehind (wd yX7_isExplainedBehind cX7_isExplainedBehind 7 (some .boolean)) ({ frames := 3, cells := 0, slots := 0, locals := 73 }) (va_Pc [.ref (ad (60)), .ref (ad (100)), .int a0, .int a1] (PM D A ad ns I L G)) (va_Qi (fun r u => ∃ I2 L2, u = (ad, ns, I2, L2, G) ∧ INV I2 ∧ Kp [(61, 63)] [(60, 5)] I I2 ∧ (0 ≤ r.toInt ∧ r.toInt ≤ 1)) (BM D A) A) 0 0 A := by
  refine m_ofW (by decide) (Nat.le_of_ble_eq_true rfl) ?_
  intro p e s m below meth c ls args hC hE hM hA hS hl
  obtain ⟨hx, hb, hml, hown, hts, hr, hlocks, hin⟩ := hC
  have km1 : (-1 : Int32).toInt = -1 := by decide
  have k0 : (0 : Int32).toInt = 0 := by decide
  have k1 : (1 : Int32).toInt = 1 := by decide
  have k9 : (9 : Int32).toInt = 9 := by decide
  have hK : Kp [(61, 63)] [(60, 5)] I I := Kp.rf
  have hl : lv_has ls 7 [(0, .ref (ad (60))), (1, .ref (ad (100))), (2, .int (a0)), (3, .int (a1))] := hl
  refine lv_aload_n hx hb dX7_isExplainedBehind_0 rfl (lv_at hl 0 rfl) ?_
  refine m_geti (60) 5 hx hb hts hown hE oc7 hM (hG.1 60 (by decide)) rfl (by decide) rfl tb_298 dX7_isExplainedBehind_1 ?_
  have g1 := hI.get (60) 5 (lo := 0) (hi := 24) rfl
  refine lv_istore (lv' := [(4, .int (I (60) 5)), (0, .ref (ad (60))), (1, .ref (ad (100))), (2, .int (a0)), (3, .int (a1))]) hx hb dX7_isExplainedBehind_4 hl (by decide) rfl (fun ls hl => ?_)
  refine lv_aload_n hx hb dX7_isExplainedBehind_6 rfl (lv_at hl 1 rfl) ?_
  refine m_getr (60) 4 (62) hx hb hts hown hE oc7 hM (hG.1 60 (by decide)) rfl (by decide) rfl (hG.2 (60, 4, 62) (by decide)) (by decide) tb_297 dX7_isExplainedBehind_7 ?_
  refine lv_iconst (v := (0)) hx hb dX7_isExplainedBehind_10 (by decide) ?_
  refine m_callv (m_runS (As := [.ref (ad (62)), .int (0)]) (rest := []) hx hb hml hown hts hE hM hS hA ce_J7_fill_53178 tb_1121 (C_J7_fill_53178 l D A ad ns I L G (62) 24 (0) (hG.1 62 (by decide)) rfl (by decide)) rfl rfl ⟨Nat.le_of_ble_eq_true rfl, Nat.le_of_ble_eq_true rfl⟩  rfl hl.1 rfl (Nat.le_of_ble_eq_true rfl) dX7_isExplainedBehind_11 ⟨Nat.le_of_ble_eq_true rfl, Nat.le_of_ble_eq_true rfl⟩) hS (fun u H locs hw hM hS => ?_)
  subst hw
  obtain ⟨I2, eI2⟩ : ∃ z : MI, z = fillI I 62 24 (0) := ⟨_, rfl⟩
  have hM : Mem D A ad ns I2 L G H := by rw [eI2]; exact hM
  have hkI2 : Kp [(62, 63)] [] I I2 := by rw [eI2]; exact Kp.rf.fill rfl
  have hI : INV I2 := by rw [eI2]; exact hI.fill (fun k _ => (by decide : (-2147483648 : Int) ≤ (0 : Int32).toInt ∧ (0 : Int32).toInt ≤ (2147483647 : Int)))
  have hK := hK.trans hkI2 rfl
  refine lv_aload_n hx hb dX7_isExplainedBehind_14 rfl (lv_at hl 1 rfl) ?_
  refine lv_aload_n hx hb dX7_isExplainedBehind_15 rfl (lv_at hl 2 rfl) ?_
  refine lv_iload_n hx hb dX7_isExplainedBehind_16 rfl (lv_at hl 3 rfl) ?_
  refine m_callv (m_runV (60) (As := [.ref (ad (100)), .int (a0)]) (rest := []) hx hb hml hown hts hE hM hS hA ce_X7_walk tb_1094 (V_X7_walk l D A ad ns I2 L G (a0) hG hI (hlit.kp hK rfl) (by first | omega | decide)) rfl rfl ⟨Nat.le_of_ble_eq_true rfl, Nat.le_of_ble_eq_true rfl⟩ (hG.1 60 (by decide)) rfl rfl (by decide) rfl hl.1 rfl (Nat.le_of_ble_eq_true rfl) dX7_isExplainedBehind_17 ⟨Nat.le_of_ble_eq_true rfl, Nat.le_of_ble_eq_true rfl⟩) hS (fun u H locs hw hM hS => ?_)
  obtain ⟨I3, L4, rfl, hI, hkI3⟩ := hw
  have hM : Mem D A ad ns I3 L4 G H := hM
  have hK := hK.trans hkI3 rfl
  refine lv_iload_n hx hb dX7_isExplainedBehind_20 rfl (lv_at hl 4 rfl) ?_
  refine lv_iconst (v := (1)) hx hb dX7_isExplainedBehind_21 (by decide) ?_
  refine lv_iadd hx hb dX7_isExplainedBehind_22 ?_
  refine lv_topi (fun v5 ev5 => ?_)
  have tv5 := a_add ev5 (by omega) (by omega)
  refine lv_istore (lv' := [(5, .int (v5)), (4, .int (I (60) 5)), (0, .ref (ad (60))), (1, .ref (ad (100))), (2, .int (a0)), (3, .int (a1))]) hx hb dX7_isExplainedBehind_23 hl (by decide) rfl (fun ls hl => ?_)
  have loop25 : ∀ (n : Nat) (x5_25 : Int32) (Ia25 : MI) (La25 : ML) (H : Heap) (locs : List Loc) (ls : Array Slot), INV Ia25 → Kp [(61, 63)] [(60, 5)] I Ia25 → (0 ≤ x5_25.toInt ∧ x5_25.toInt ≤ 24) → (24 - x5_25.toInt).toNat < n → Mem D A ad ns Ia25 La25 G H → va_S A s.heap H locs → lv_has ls 7 [(5, .int (x5_25)), (4, .int (I (60) 5)), (0, .ref (ad (60))), (1, .ref (ad (100))), (2, .int (a0)), (3, .int (a1))] → W p l e ({ frames := 3, cells := 0, slots := 0, locals := 73 } : Room) s m args below meth c H locs 0 0 (MQ below (va_Qi (fun r u => ∃ I2 L2, u = (ad, ns, I2, L2, G) ∧ INV I2 ∧ Kp [(61, 63)] [(60, 5)] I I2 ∧ (0 ≤ r.toInt ∧ r.toInt ≤ 1)) (BM D A) A) args s 0 0 A) (F0 m 25 ls []) := by
    intro n
    induction n with
    | zero =>
      intro x5_25 Ia25 La25 H locs ls hI hK hr5_25 hmu
      exact absurd hmu (Nat.not_lt_zero _)
    | succ n ih25 =>
      intro x5_25 Ia25 La25 H locs ls hI hK hr5_25 hmu25 hM hS hl
      refine lv_iload hx hb dX7_isExplainedBehind_25 (lv_at hl 0 rfl) ?_
      refine lv_iload hx hb dX7_isExplainedBehind_27 (lv_at hl 1 rfl) ?_
      refine lv_icmp_ge (tgt := 73) hx hb dX7_isExplainedBehind_29 (by decide) (fun c6 => ?_) (fun c6 => ?_)
      · have hc6 := c6
        have q6 := q_le hc6
        refine lv_iconst (v := (1)) hx hb dX7_isExplainedBehind_73 (by decide) ?_
        exact m_zret hx hb hr rfl hlocks hM hS (Nat.le_of_ble_eq_true rfl) (Nat.le_of_ble_eq_true rfl) ⟨_, _, rfl, hI, hK, (by first | omega | decide)⟩ dX7_isExplainedBehind_74
      · have hc6 := c6
        have q6 := q_nle hc6
        refine lv_aload_n hx hb dX7_isExplainedBehind_32 rfl (lv_at hl 3 rfl) ?_
        refine lv_aload_n hx hb dX7_isExplainedBehind_33 rfl (lv_at hl 2 rfl) ?_
        refine m_getr (60) 3 (61) hx hb hts hown hE oc7 hM (hG.1 60 (by decide)) rfl (by decide) rfl (hG.2 (60, 3, 61) (by decide)) (by decide) tb_296 dX7_isExplainedBehind_34 ?_
        refine lv_iload hx hb dX7_isExplainedBehind_37 (lv_at hl 0 rfl) ?_
        refine m_iald (61) hx hb hE hM (hG.1 61 (by decide)) rfl (vp_in_iff.mpr (by omega)) dX7_isExplainedBehind_39 ?_
        have g7 := hI.get (61) ((x5_25).toNatClampNeg) (lo := 0) (hi := 23) rfl
        refine lv_bipush (v := (9)) hx hb dX7_isExplainedBehind_40 (by decide) ?_
        refine m_calli (m_runV (100) (As := [.int (Ia25 (61) (x5_25).toNatClampNeg), .int (9)]) (rest := []) hx hb hml hown hts hE hM hS hA ce_X8_ofMirror tb_1113 (V_X8_ofMirror_100 l D A ad ns Ia25 La25 G (Ia25 (61) (x5_25).toNatClampNeg) (9) hG hI (by first | omega | decide) (by first | omega | decide)) rfl rfl ⟨Nat.le_of_ble_eq_true rfl, Nat.le_of_ble_eq_true rfl⟩ (hG.1 100 (by decide)) rfl rfl (by decide) rfl hl.1 rfl (Nat.le_of_ble_eq_true rfl) dX7_isExplainedBehind_42 ⟨Nat.le_of_ble_eq_true rfl, Nat.le_of_ble_eq_true rfl⟩) hS (fun r8 u H locs hw hM hS => ?_)
        obtain ⟨rfl, xr8⟩ := hw
        have hM : Mem D A ad ns Ia25 La25 G H := hM
        refine lv_istore (lv' := [(6, .int (r8)), (5, .int (x5_25)), (4, .int (I (60) 5)), (0, .ref (ad (60))), (1, .ref (ad (100))), (2, .int (a0)), (3, .int (a1))]) hx hb dX7_isExplainedBehind_45 hl (by decide) rfl (fun ls hl => ?_)
        refine lv_iload hx hb dX7_isExplainedBehind_47 (lv_at hl 0 rfl) ?_
        refine lv_iconst (v := (-1)) hx hb dX7_isExplainedBehind_49 (by decide) ?_
        refine lv_icmp_eq (tgt := 67) hx hb dX7_isExplainedBehind_50 (by decide) (fun c9 => ?_) (fun c9 => ?_)
        · have hc9 := c9
          have q9 := q_eq hc9
          obtain ⟨v10, ev10⟩ : ∃ z : Int32, z = x5_25 + Int32.ofInt (1) := ⟨_, rfl⟩
          have tv10 := a_inc ev10 (by decide) (by omega) (by omega)
          refine lv_iinc (v := v10) (lv' := [(5, .int (v10)), (6, .int (r8)), (4, .int (I (60) 5)), (0, .ref (ad (60))), (1, .ref (ad (100))), (2, .int (a0)), (3, .int (a1))]) hx hb dX7_isExplainedBehind_67 hl (k := 1) rfl ev10.symm (by decide) rfl (fun ls hl => ?_)
          refine lv_goto (tgt := 25) hx hb dX7_isExplainedBehind_70 (by decide) ?_
          exact ih25 (v10) Ia25 La25 _ _ ls hI hK (by first | omega | decide) (by omega) hM hS (lv_sub hl [0, 2, 3, 4, 5, 6] rfl)
        · have hc9 := c9
          have q9 := q_ne hc9
          refine lv_iload hx hb dX7_isExplainedBehind_53 (lv_at hl 0 rfl) ?_
          refine lv_aload_n hx hb dX7_isExplainedBehind_55 rfl (lv_at hl 3 rfl) ?_
          refine m_getr (60) 4 (62) hx hb hts hown hE oc7 hM (hG.1 60 (by decide)) rfl (by decide) rfl (hG.2 (60, 4, 62) (by decide)) (by decide) tb_297 dX7_isExplainedBehind_56 ?_
          refine lv_iload hx hb dX7_isExplainedBehind_59 (lv_at hl 1 rfl) ?_
          refine m_iald (62) hx hb hE hM (hG.1 62 (by decide)) rfl (vp_in_iff.mpr (by omega)) dX7_isExplainedBehind_61 ?_
          refine lv_icmp_eq (tgt := 67) hx hb dX7_isExplainedBehind_62 (by decide) (fun c11 => ?_) (fun c11 => ?_)
          · have hc11 := c11
            have q11 := q_eq hc11
            obtain ⟨v12, ev12⟩ : ∃ z : Int32, z = x5_25 + Int32.ofInt (1) := ⟨_, rfl⟩
            have tv12 := a_inc ev12 (by decide) (by omega) (by omega)
            refine lv_iinc (v := v12) (lv' := [(5, .int (v12)), (6, .int (r8)), (4, .int (I (60) 5)), (0, .ref (ad (60))), (1, .ref (ad (100))), (2, .int (a0)), (3, .int (a1))]) hx hb dX7_isExplainedBehind_67 hl (k := 1) rfl ev12.symm (by decide) rfl (fun ls hl => ?_)
            refine lv_goto (tgt := 25) hx hb dX7_isExplainedBehind_70 (by decide) ?_
            exact ih25 (v12) Ia25 La25 _ _ ls hI hK (by first | omega | decide) (by omega) hM hS (lv_sub hl [0, 2, 3, 4, 5, 6] rfl)
          · have hc11 := c11
            have q11 := q_ne hc11
            refine lv_iconst (v := (0)) hx hb dX7_isExplainedBehind_65 (by decide) ?_
            exact m_zret hx hb hr rfl hlocks hM hS (Nat.le_of_ble_eq_true rfl) (Nat.le_of_ble_eq_true rfl) ⟨_, _, rfl, hI, hK, (by first | omega | decide)⟩ dX7_isExplainedBehind_66
  exact loop25 (_ + 1) (v5) I3 L4 _ _ ls hI hK (by first | omega | decide) (Nat.lt_succ_self _) hM hS (lv_sub hl [0, 1, 2, 3, 4, 5] rfl)
theorem dX7_search_0 : decode cX7_search 0 = .ok (.aload_n 0, 1) := by decide +kernel
theorem dX7_search_1 : decode cX7_search 1 = .ok (.bipush (-2), 2) := by decide +kernel
theorem dX7_search_3 : decode cX7_search 3 = .ok (.putfield 18, 3) := by decide +kernel
theorem dX7_search_6 : decode cX7_search 6 = .ok (.aload_n 0, 1) := by decide +kernel
theorem dX7_search_7 : decode cX7_search 7 = .ok (.iconst 0, 1) := by decide +kernel
theorem dX7_search_8 : decode cX7_search 8 = .ok (.putfield 22, 3) := by decide +kernel
theorem dX7_search_11 : decode cX7_search 11 = .ok (.aload_n 0, 1) := by decide +kernel
theorem dX7_search_12 : decode cX7_search 12 = .ok (.iconst 0, 1) := by decide +kernel
theorem dX7_search_13 : decode cX7_search 13 = .ok (.putfield 25, 3) := by decide +kernel
theorem dX7_search_16 : decode cX7_search 16 = .ok (.aload_n 0, 1) := by decide +kernel
theorem dX7_search_17 : decode cX7_search 17 = .ok (.aload_n 1, 1) := by decide +kernel
theorem dX7_search_18 : decode cX7_search 18 = .ok (.iload_n 2, 1) := by decide +kernel
theorem dX7_search_19 : decode cX7_search 19 = .ok (.invokevirtual 28, 3) := by decide +kernel
theorem dX7_search_22 : decode cX7_search 22 = .ok (.iconst 0, 1) := by decide +kernel
theorem dX7_search_23 : decode cX7_search 23 = .ok (.istore_n 3, 1) := by decide +kernel
theorem dX7_search_24 : decode cX7_search 24 = .ok (.iload_n 3, 1) := by decide +kernel
theorem dX7_search_25 : decode cX7_search 25 = .ok (.aload_n 0, 1) := by decide +kernel
theorem dX7_search_26 : decode cX7_search 26 = .ok (.getfield 32, 3) := by decide +kernel
theorem dX7_search_29 : decode cX7_search 29 = .ok (.if_icmp .ge 83, 3) := by decide +kernel
theorem dX7_search_32 : decode cX7_search 32 = .ok (.aload_n 1, 1) := by decide +kernel
theorem dX7_search_33 : decode cX7_search 33 = .ok (.aload_n 0, 1) := by decide +kernel
theorem dX7_search_34 : decode cX7_search 34 = .ok (.getfield 9, 3) := by decide +kernel
theorem dX7_search_37 : decode cX7_search 37 = .ok (.iload_n 3, 1) := by decide +kernel
theorem dX7_search_38 : decode cX7_search 38 = .ok (.iaload, 1) := by decide +kernel
theorem dX7_search_39 : decode cX7_search 39 = .ok (.bipush 9, 2) := by decide +kernel
theorem dX7_search_41 : decode cX7_search 41 = .ok (.invokevirtual 35, 3) := by decide +kernel
theorem dX7_search_44 : decode cX7_search 44 = .ok (.istore 4, 2) := by decide +kernel
theorem dX7_search_46 : decode cX7_search 46 = .ok (.iload 4, 2) := by decide +kernel
theorem dX7_search_48 : decode cX7_search 48 = .ok (.iconst (-1), 1) := by decide +kernel
theorem dX7_search_49 : decode cX7_search 49 = .ok (.if_icmp .eq 57, 3) := by decide +kernel
theorem dX7_search_52 : decode cX7_search 52 = .ok (.iload 4, 2) := by decide +kernel
theorem dX7_search_54 : decode cX7_search 54 = .ok (.aload_n 0, 1) := by decide +kernel
theorem dX7_search_55 : decode cX7_search 55 = .ok (.getfield 15, 3) := by decide +kernel
theorem dX7_search_58 : decode cX7_search 58 = .ok (.iload_n 3, 1) := by decide +kernel
theorem dX7_search_59 : decode cX7_search 59 = .ok (.iaload, 1) := by decide +kernel
theorem dX7_search_60 : decode cX7_search 60 = .ok (.if_icmp .ge 46, 3) := by decide +kernel
theorem dX7_search_63 : decode cX7_search 63 = .ok (.aload_n 0, 1) := by decide +kernel
theorem dX7_search_64 : decode cX7_search 64 = .ok (.aload_n 0, 1) := by decide +kernel
theorem dX7_search_65 : decode cX7_search 65 = .ok (.getfield 9, 3) := by decide +kernel
theorem dX7_search_68 : decode cX7_search 68 = .ok (.iload_n 3, 1) := by decide +kernel
theorem dX7_search_69 : decode cX7_search 69 = .ok (.iaload, 1) := by decide +kernel
theorem dX7_search_70 : decode cX7_search 70 = .ok (.putfield 18, 3) := by decide +kernel
theorem dX7_search_73 : decode cX7_search 73 = .ok (.aload_n 0, 1) := by decide +kernel
theorem dX7_search_74 : decode cX7_search 74 = .ok (.aload_n 0, 1) := by decide +kernel
theorem dX7_search_75 : decode cX7_search 75 = .ok (.getfield 15, 3) := by decide +kernel
theorem dX7_search_78 : decode cX7_search 78 = .ok (.iload_n 3, 1) := by decide +kernel
theorem dX7_search_79 : decode cX7_search 79 = .ok (.iaload, 1) := by decide +kernel
theorem dX7_search_80 : decode cX7_search 80 = .ok (.iload 4, 2) := by decide +kernel
theorem dX7_search_82 : decode cX7_search 82 = .ok (.isub, 1) := by decide +kernel
theorem dX7_search_83 : decode cX7_search 83 = .ok (.putfield 22, 3) := by decide +kernel
theorem dX7_search_86 : decode cX7_search 86 = .ok (.aload_n 0, 1) := by decide +kernel
theorem dX7_search_87 : decode cX7_search 87 = .ok (.aload_n 0, 1) := by decide +kernel
theorem dX7_search_88 : decode cX7_search 88 = .ok (.aload_n 1, 1) := by decide +kernel
theorem dX7_search_89 : decode cX7_search 89 = .ok (.iload_n 2, 1) := by decide +kernel
theorem dX7_search_90 : decode cX7_search 90 = .ok (.iload_n 3, 1) := by decide +kernel
theorem dX7_search_91 : decode cX7_search 91 = .ok (.invokevirtual 41, 3) := by decide +kernel
theorem dX7_search_94 : decode cX7_search 94 = .ok (.ifCond .eq 7, 3) := by decide +kernel
theorem dX7_search_97 : decode cX7_search 97 = .ok (.iconst 1, 1) := by decide +kernel
theorem dX7_search_98 : decode cX7_search 98 = .ok (.goto 4, 3) := by decide +kernel
theorem dX7_search_101 : decode cX7_search 101 = .ok (.iconst 0, 1) := by decide +kernel
theorem dX7_search_102 : decode cX7_search 102 = .ok (.putfield 25, 3) := by decide +kernel
theorem dX7_search_105 : decode cX7_search 105 = .ok (.return_, 1) := by decide +kernel
theorem dX7_search_106 : decode cX7_search 106 = .ok (.iinc 3 1, 3) := by decide +kernel
theorem dX7_search_109 : decode cX7_search 109 = .ok (.goto (-85), 3) := by decide +kernel
theorem dX7_search_112 : decode cX7_search 112 = .ok (.return_, 1) := by decide +kernel
theorem ce_X7_search : CeV RX7 yX7_search cX7_search 5 none 2 := ⟨tb_1091, tb_1092, tb_8, tb_1093, rfl, by decide, by decide, by decide +kernel⟩
set_option maxHeartbeats 4000000 in
set_option maxRecDepth 20000 in
theorem V_X7_search (l : Launch) (D : va_G) (A : Nat → Prop) (ad : Nat → Nat) (ns : List Nat) (I : MI) (L : ML) (G : MG) (a0 : Int32) (hG : SGC ns G) (hI : INV I) (hlit : Lit 100 I a0) (ha0 : 0 ≤ a0.toInt ∧ a0.toInt ≤ 23) : Met l yX7_search (wd yX7_search cX7_search 5 none) ({ frames := 4, cells := 0, slots := 0, locals := 99 }) (va_Pc [.ref (ad (60)), .ref (ad (100)), .int a0] (PM D A ad ns I L G)) (va_Qv (fun u => ∃ I2 L2, u = (ad, ns, I2, L2, G) ∧ INV I2 ∧ Kp [(61, 63)] [(60, 0), (60, 1), (60, 2), (60, 5)] I I2) (BM D A) A) 0 0 A := by
  refine m_ofW (by decide) (Nat.le_of_ble_eq_true rfl) ?_
  intro p e s m below meth c ls args hC hE hM hA hS hl
  obtain ⟨hx, hb, hml, hown, hts, hr, hlocks, hin⟩ := hC
  have km2 : (-2 : Int32).toInt = -2 := by decide
  have km1 : (-1 : Int32).toInt = -1 := by decide
  have k0 : (0 : Int32).toInt = 0 := by decide
  have k1 : (1 : Int32).toInt = 1 := by decide
  have k9 : (9 : Int32).toInt = 9 := by decide
  have hK : Kp [(61, 63)] [(60, 0), (60, 1), (60, 2), (60, 5)] I I := Kp.rf
  have hl : lv_has ls 5 [(0, .ref (ad (60))), (1, .ref (ad (100))), (2, .int (a0))] := hl
  refine lv_aload_n hx hb dX7_search_0 rfl (lv_at hl 0 rfl) ?_
  refine lv_bipush (v := (-2)) hx hb dX7_search_1 (by decide) ?_
  refine m_puti (60) 0 hx hb hts hown hE oc7 hM hS (hG.1 60 (by decide)) rfl (by decide) rfl rfl rfl rfl tb_290 dX7_search_3 (fun H locs I1 eI1 hM hS => ?_)
  subst eI1
  have hI := hI.putF (n := 60) (k := 0) (v := (-2 : Int32)) rfl
  have hK := hK.put (n := 60) (k := 0) (v := (-2 : Int32)) (by first | rfl | simp [inR])
  refine lv_aload_n hx hb dX7_search_6 rfl (lv_at hl 0 rfl) ?_
  refine lv_iconst (v := (0)) hx hb dX7_search_7 (by decide) ?_
  refine m_puti (60) 1 hx hb hts hown hE oc7 hM hS (hG.1 60 (by decide)) rfl (by decide) rfl rfl rfl rfl tb_292 dX7_search_8 (fun H locs I2 eI2 hM hS => ?_)
  subst eI2
  have hI := hI.putF (n := 60) (k := 1) (v := 0) rfl
  have hK := hK.put (n := 60) (k := 1) (v := 0) (by first | rfl | simp [inR])
  refine lv_aload_n hx hb dX7_search_11 rfl (lv_at hl 0 rfl) ?_
  refine lv_iconst (v := (0)) hx hb dX7_search_12 (by decide) ?_
  refine m_puti (60) 2 hx hb hts hown hE oc7 hM hS (hG.1 60 (by decide)) rfl (by decide) rfl rfl rfl rfl tb_294 dX7_search_13 (fun H locs I3 eI3 hM hS => ?_)
  subst eI3
  have hI := hI.putF (n := 60) (k := 2) (v := 0) rfl
  have hK := hK.put (n := 60) (k := 2) (v := 0) (by first | rfl | simp [inR])
  refine lv_aload_n hx hb dX7_search_16 rfl (lv_at hl 0 rfl) ?_
  refine lv_aload_n hx hb dX7_search_17 rfl (lv_at hl 1 rfl) ?_
  refine lv_iload_n hx hb dX7_search_18 rfl (lv_at hl 2 rfl) ?_
  refine m_callv (m_runV (60) (As := [.ref (ad (100)), .int (a0)]) (rest := []) hx hb hml hown hts hE hM hS hA ce_X7_walk tb_1094 (V_X7_walk l D A ad ns (u2 (u2 (u2 I (60) 0 ((-2 : Int32))) (60) 1 (0)) (60) 2 (0)) L G (a0) hG hI (hlit.kp hK rfl) (by first | omega | decide)) rfl rfl ⟨Nat.le_of_ble_eq_true rfl, Nat.le_of_ble_eq_true rfl⟩ (hG.1 60 (by decide)) rfl rfl (by decide) rfl hl.1 rfl (Nat.le_of_ble_eq_true rfl) dX7_search_19 ⟨Nat.le_of_ble_eq_true rfl, Nat.le_of_ble_eq_true rfl⟩) hS (fun u H locs hw hM hS => ?_)
  obtain ⟨I4, L5, rfl, hI, hkI4⟩ := hw
  have hM : Mem D A ad ns I4 L5 G H := hM
  have hK := hK.trans hkI4 rfl
  refine lv_iconst (v := (0)) hx hb dX7_search_22 (by decide) ?_
  refine lv_istore_n (lv' := [(3, .int (0)), (0, .ref (ad (60))), (1, .ref (ad (100))), (2, .int (a0))]) hx hb dX7_search_23 rfl hl (by decide) rfl (fun ls hl => ?_)
  have loop24 : ∀ (n : Nat) (x3_24 : Int32) (Ia24 : MI) (La24 : ML) (H : Heap) (locs : List Loc) (ls : Array Slot), INV Ia24 → Kp [(61, 63)] [(60, 0), (60, 1), (60, 2), (60, 5)] I Ia24 → (0 ≤ x3_24.toInt ∧ x3_24.toInt ≤ 24) → (24 - x3_24.toInt).toNat < n → Mem D A ad ns Ia24 La24 G H → va_S A s.heap H locs → lv_has ls 5 [(3, .int (x3_24)), (0, .ref (ad (60))), (1, .ref (ad (100))), (2, .int (a0))] → W p l e ({ frames := 4, cells := 0, slots := 0, locals := 99 } : Room) s m args below meth c H locs 0 0 (MQ below (va_Qv (fun u => ∃ I2 L2, u = (ad, ns, I2, L2, G) ∧ INV I2 ∧ Kp [(61, 63)] [(60, 0), (60, 1), (60, 2), (60, 5)] I I2) (BM D A) A) args s 0 0 A) (F0 m 24 ls []) := by
    intro n
    induction n with
    | zero =>
      intro x3_24 Ia24 La24 H locs ls hI hK hr3_24 hmu
      exact absurd hmu (Nat.not_lt_zero _)
    | succ n ih24 =>
      intro x3_24 Ia24 La24 H locs ls hI hK hr3_24 hmu24 hM hS hl
      refine lv_iload_n hx hb dX7_search_24 rfl (lv_at hl 0 rfl) ?_
      refine lv_aload_n hx hb dX7_search_25 rfl (lv_at hl 1 rfl) ?_
      refine m_geti (60) 5 hx hb hts hown hE oc7 hM (hG.1 60 (by decide)) rfl (by decide) rfl tb_298 dX7_search_26 ?_
      have g6 := hI.get (60) 5 (lo := 0) (hi := 24) rfl
      refine lv_icmp_ge (tgt := 112) hx hb dX7_search_29 (by decide) (fun c7 => ?_) (fun c7 => ?_)
      · have hc7 := c7
        have q7 := q_le hc7
        exact m_vret hx hb hr hlocks hM hS (Nat.le_of_ble_eq_true rfl) (Nat.le_of_ble_eq_true rfl) ⟨_, _, rfl, hI, hK⟩ dX7_search_112
      · have hc7 := c7
        have q7 := q_nle hc7
        refine lv_aload_n hx hb dX7_search_32 rfl (lv_at hl 2 rfl) ?_
        refine lv_aload_n hx hb dX7_search_33 rfl (lv_at hl 1 rfl) ?_
        refine m_getr (60) 3 (61) hx hb hts hown hE oc7 hM (hG.1 60 (by decide)) rfl (by decide) rfl (hG.2 (60, 3, 61) (by decide)) (by decide) tb_296 dX7_search_34 ?_
        refine lv_iload_n hx hb dX7_search_37 rfl (lv_at hl 0 rfl) ?_
        refine m_iald (61) hx hb hE hM (hG.1 61 (by decide)) rfl (vp_in_iff.mpr (by omega)) dX7_search_38 ?_
        have g8 := hI.get (61) ((x3_24).toNatClampNeg) (lo := 0) (hi := 23) rfl
        refine lv_bipush (v := (9)) hx hb dX7_search_39 (by decide) ?_
        refine m_calli (m_runV (100) (As := [.int (Ia24 (61) (x3_24).toNatClampNeg), .int (9)]) (rest := []) hx hb hml hown hts hE hM hS hA ce_X8_ofMirror tb_1113 (V_X8_ofMirror_100 l D A ad ns Ia24 La24 G (Ia24 (61) (x3_24).toNatClampNeg) (9) hG hI (by first | omega | decide) (by first | omega | decide)) rfl rfl ⟨Nat.le_of_ble_eq_true rfl, Nat.le_of_ble_eq_true rfl⟩ (hG.1 100 (by decide)) rfl rfl (by decide) rfl hl.1 rfl (Nat.le_of_ble_eq_true rfl) dX7_search_41 ⟨Nat.le_of_ble_eq_true rfl, Nat.le_of_ble_eq_true rfl⟩) hS (fun r9 u H locs hw hM hS => ?_)
        obtain ⟨rfl, xr9⟩ := hw
        have hM : Mem D A ad ns Ia24 La24 G H := hM
        refine lv_istore (lv' := [(4, .int (r9)), (3, .int (x3_24)), (0, .ref (ad (60))), (1, .ref (ad (100))), (2, .int (a0))]) hx hb dX7_search_44 hl (by decide) rfl (fun ls hl => ?_)
        refine lv_iload hx hb dX7_search_46 (lv_at hl 0 rfl) ?_
        refine lv_iconst (v := (-1)) hx hb dX7_search_48 (by decide) ?_
        refine lv_icmp_eq (tgt := 106) hx hb dX7_search_49 (by decide) (fun c10 => ?_) (fun c10 => ?_)
        · have hc10 := c10
          have q10 := q_eq hc10
          obtain ⟨v11, ev11⟩ : ∃ z : Int32, z = x3_24 + Int32.ofInt (1) := ⟨_, rfl⟩
          have tv11 := a_inc ev11 (by decide) (by omega) (by omega)
          refine lv_iinc (v := v11) (lv' := [(3, .int (v11)), (4, .int (r9)), (0, .ref (ad (60))), (1, .ref (ad (100))), (2, .int (a0))]) hx hb dX7_search_106 hl (k := 1) rfl ev11.symm (by decide) rfl (fun ls hl => ?_)
          refine lv_goto (tgt := 24) hx hb dX7_search_109 (by decide) ?_
          exact ih24 (v11) Ia24 La24 _ _ ls hI hK (by first | omega | decide) (by omega) hM hS (lv_sub hl [0, 2, 3, 4] rfl)
        · have hc10 := c10
          have q10 := q_ne hc10
          refine lv_iload hx hb dX7_search_52 (lv_at hl 0 rfl) ?_
          refine lv_aload_n hx hb dX7_search_54 rfl (lv_at hl 2 rfl) ?_
          refine m_getr (60) 4 (62) hx hb hts hown hE oc7 hM (hG.1 60 (by decide)) rfl (by decide) rfl (hG.2 (60, 4, 62) (by decide)) (by decide) tb_297 dX7_search_55 ?_
          refine lv_iload_n hx hb dX7_search_58 rfl (lv_at hl 1 rfl) ?_
          refine m_iald (62) hx hb hE hM (hG.1 62 (by decide)) rfl (vp_in_iff.mpr (by omega)) dX7_search_59 ?_
          refine lv_icmp_ge (tgt := 106) hx hb dX7_search_60 (by decide) (fun c12 => ?_) (fun c12 => ?_)
          · have hc12 := c12
            have q12 := q_le hc12
            obtain ⟨v13, ev13⟩ : ∃ z : Int32, z = x3_24 + Int32.ofInt (1) := ⟨_, rfl⟩
            have tv13 := a_inc ev13 (by decide) (by omega) (by omega)
            refine lv_iinc (v := v13) (lv' := [(3, .int (v13)), (4, .int (r9)), (0, .ref (ad (60))), (1, .ref (ad (100))), (2, .int (a0))]) hx hb dX7_search_106 hl (k := 1) rfl ev13.symm (by decide) rfl (fun ls hl => ?_)
            refine lv_goto (tgt := 24) hx hb dX7_search_109 (by decide) ?_
            exact ih24 (v13) Ia24 La24 _ _ ls hI hK (by first | omega | decide) (by omega) hM hS (lv_sub hl [0, 2, 3, 4] rfl)
          · have hc12 := c12
            have q12 := q_nle hc12
            refine lv_aload_n hx hb dX7_search_63 rfl (lv_at hl 2 rfl) ?_
            refine lv_aload_n hx hb dX7_search_64 rfl (lv_at hl 2 rfl) ?_
            refine m_getr (60) 3 (61) hx hb hts hown hE oc7 hM (hG.1 60 (by decide)) rfl (by decide) rfl (hG.2 (60, 3, 61) (by decide)) (by decide) tb_296 dX7_search_65 ?_
            refine lv_iload_n hx hb dX7_search_68 rfl (lv_at hl 1 rfl) ?_
            refine m_iald (61) hx hb hE hM (hG.1 61 (by decide)) rfl (vp_in_iff.mpr (by omega)) dX7_search_69 ?_
            refine m_puti (60) 0 hx hb hts hown hE oc7 hM hS (hG.1 60 (by decide)) rfl (by decide) rfl rfl rfl rfl tb_290 dX7_search_70 (fun H locs I14 eI14 hM hS => ?_)
            subst eI14
            have hI := hI.putF (n := 60) (k := 0) (v := Ia24 (61) (x3_24).toNatClampNeg) rfl
            have hK := hK.put (n := 60) (k := 0) (v := Ia24 (61) (x3_24).toNatClampNeg) (by first | rfl | simp [inR])
            refine lv_aload_n hx hb dX7_search_73 rfl (lv_at hl 2 rfl) ?_
            refine lv_aload_n hx hb dX7_search_74 rfl (lv_at hl 2 rfl) ?_
            refine m_getr (60) 4 (62) hx hb hts hown hE oc7 hM (hG.1 60 (by decide)) rfl (by decide) rfl (hG.2 (60, 4, 62) (by decide)) (by decide) tb_297 dX7_search_75 ?_
            refine lv_iload_n hx hb dX7_search_78 rfl (lv_at hl 1 rfl) ?_
            refine m_iald (62) hx hb hE hM (hG.1 62 (by decide)) rfl (vp_in_iff.mpr (by omega)) dX7_search_79 ?_
            have z15 : (u2 Ia24 (60) 0 (Ia24 (61) (x3_24).toNatClampNeg)) (62) (x3_24).toNatClampNeg = Ia24 (62) ((x3_24).toNatClampNeg) := (show (u2 Ia24 (60) 0 (Ia24 (61) (x3_24).toNatClampNeg)) (62) ((x3_24).toNatClampNeg) = Ia24 (62) ((x3_24).toNatClampNeg) from by simp [u2_v])
            rw [z15]
            refine lv_iload hx hb dX7_search_80 (lv_at hl 0 rfl) ?_
            refine lv_isub hx hb dX7_search_82 ?_
            refine lv_topi (fun v16 ev16 => ?_)
            refine m_puti (60) 1 hx hb hts hown hE oc7 hM hS (hG.1 60 (by decide)) rfl (by decide) rfl rfl rfl rfl tb_292 dX7_search_83 (fun H locs I17 eI17 hM hS => ?_)
            subst eI17
            have hI := hI.putF (n := 60) (k := 1) (v := v16) rfl
            have hK := hK.put (n := 60) (k := 1) (v := v16) (by first | rfl | simp [inR])
            refine lv_aload_n hx hb dX7_search_86 rfl (lv_at hl 2 rfl) ?_
            refine lv_aload_n hx hb dX7_search_87 rfl (lv_at hl 2 rfl) ?_
            refine lv_aload_n hx hb dX7_search_88 rfl (lv_at hl 3 rfl) ?_
            refine lv_iload_n hx hb dX7_search_89 rfl (lv_at hl 4 rfl) ?_
            refine lv_iload_n hx hb dX7_search_90 rfl (lv_at hl 1 rfl) ?_
            refine m_calli (m_runV (60) (As := [.ref (ad (100)), .int (a0), .int (x3_24)]) (rest := [.ref (ad (60))]) hx hb hml hown hts hE hM hS hA ce_X7_isExplainedBehind tb_1117 (V_X7_isExplainedBehind l D A ad ns (u2 (u2 Ia24 (60) 0 (Ia24 (61) (x3_24).toNatClampNeg)) (60) 1 (v16)) La24 G (a0) (x3_24) hG hI (hlit.kp hK rfl) (by first | omega | decide) (by first | omega | decide)) rfl rfl ⟨Nat.le_of_ble_eq_true rfl, Nat.le_of_ble_eq_true rfl⟩ (hG.1 60 (by decide)) rfl rfl (by decide) rfl hl.1 rfl (Nat.le_of_ble_eq_true rfl) dX7_search_91 ⟨Nat.le_of_ble_eq_true rfl, Nat.le_of_ble_eq_true rfl⟩) hS (fun r18 u H locs hw hM hS => ?_)
            obtain ⟨I19, L20, rfl, hI, hkI19, xr18⟩ := hw
            have hM : Mem D A ad ns I19 L20 G H := hM
            have hK := hK.trans hkI19 rfl
            refine lv_if_eq (tgt := 101) hx hb dX7_search_94 (by decide) (fun c21 => ?_) (fun c21 => ?_)
            · have hc21 := c21
              have q21 := q_eq hc21
              refine lv_iconst (v := (0)) hx hb dX7_search_101 (by decide) ?_
              refine m_puti (60) 2 hx hb hts hown hE oc7 hM hS (hG.1 60 (by decide)) rfl (by decide) rfl rfl rfl rfl tb_294 dX7_search_102 (fun H locs I22 eI22 hM hS => ?_)
              subst eI22
              have hI := hI.putF (n := 60) (k := 2) (v := 0) rfl
              have hK := hK.put (n := 60) (k := 2) (v := 0) (by first | rfl | simp [inR])
              exact m_vret hx hb hr hlocks hM hS (Nat.le_of_ble_eq_true rfl) (Nat.le_of_ble_eq_true rfl) ⟨_, _, rfl, hI, hK⟩ dX7_search_105
            · have hc21 := c21
              have q21 := q_ne hc21
              refine lv_iconst (v := (1)) hx hb dX7_search_97 (by decide) ?_
              refine lv_goto (tgt := 102) hx hb dX7_search_98 (by decide) ?_
              refine m_puti (60) 2 hx hb hts hown hE oc7 hM hS (hG.1 60 (by decide)) rfl (by decide) rfl rfl rfl rfl tb_294 dX7_search_102 (fun H locs I23 eI23 hM hS => ?_)
              subst eI23
              have hI := hI.putF (n := 60) (k := 2) (v := 1) rfl
              have hK := hK.put (n := 60) (k := 2) (v := 1) (by first | rfl | simp [inR])
              exact m_vret hx hb hr hlocks hM hS (Nat.le_of_ble_eq_true rfl) (Nat.le_of_ble_eq_true rfl) ⟨_, _, rfl, hI, hK⟩ dX7_search_105
  exact loop24 (_ + 1) (0) I4 L5 _ _ ls hI hK (by first | omega | decide) (Nat.lt_succ_self _) hM hS (lv_sub hl [0, 1, 2, 3] rfl)
