set_option maxHeartbeats 4000000 in
set_option maxRecDepth 20000 in
theorem V_X10_isHalf_z (l : Launch) (D : va_G) (A : Nat → Prop) (ad : Nat → Nat) (ns : List Nat) (I : MI) (L : ML) (G : MG) (a0 : Int32) (hJ : SGM ns G) (hI : INV I) (ha0 : 0 ≤ a0.toInt ∧ a0.toInt ≤ 23) : Met l yX10_isHalf (wd yX10_isHalf cX10_isHalf 4 (some .boolean)) ({ frames := 5, cells := 0, slots := 0, locals := 128 }) (va_Pc [.ref (ad (1000)), .int a0] (PM D A ad ns I L G)) (va_Qi (fun r u => ∃ I2 L2, u = (ad, ns, I2, L2, G) ∧ INV I2 ∧ Kp [(1045, 1051), (1058, 1059), (1061, 1063)] [(1000, 51), (1000, 52), (1000, 53), (1000, 54), (1000, 55), (1000, 56), (1000, 59), (1000, 63)] I I2 ∧ ((0 ≤ r.toInt ∧ r.toInt ≤ 1) ∧ Z59 I I2)) (BM D A) A) 0 0 A := by
  refine m_ofW (by decide) (Nat.le_of_ble_eq_true rfl) ?_
  intro p e s m below meth c ls args hC hE hM hA hS hl
  obtain ⟨hx, hb, hml, hown, hts, hr, hlocks, hin⟩ := hC
  have k0 : (0 : Int32).toInt = 0 := by decide
  have k1 : (1 : Int32).toInt = 1 := by decide
  have k2 : (2 : Int32).toInt = 2 := by decide
  have k9 : (9 : Int32).toInt = 9 := by decide
  have hK : Kp [(1045, 1051), (1058, 1059), (1061, 1063)] [(1000, 51), (1000, 52), (1000, 53), (1000, 54), (1000, 55), (1000, 56), (1000, 59), (1000, 63)] I I := Kp.rf
  have hl : lv_has ls 4 [(0, .ref (ad (1000))), (1, .int (a0))] := hl
  refine lv_aload_n hx hb dX10_isHalf_0 rfl (lv_at hl 0 rfl) ?_
  refine lv_iload_n hx hb dX10_isHalf_1 rfl (lv_at hl 1 rfl) ?_
  refine m_callv (m_runV (1000) (As := [.int (a0)]) (rest := []) hx hb hml hown hts hE hM hS hA ce_X10_shines tb_1640 (V_X10_shines_z l D A ad ns I L G (a0) hJ hI (by first | omega | decide)) rfl rfl ⟨Nat.le_of_ble_eq_true rfl, Nat.le_of_ble_eq_true rfl⟩ hJ.1 rfl rfl (by decide) rfl hl.1 rfl (Nat.le_of_ble_eq_true rfl) dX10_isHalf_2 ⟨Nat.le_of_ble_eq_true rfl, Nat.le_of_ble_eq_true rfl⟩) hS (fun u H locs hw hM hS => ?_)
  obtain ⟨I1, L2, rfl, hI, hkI1, xI1⟩ := hw
  have hM : Mem D A ad ns I1 L2 G H := hM
  have hK := hK.trans hkI1 rfl
  have zI1 := xI1
  have zt3a : ZA I1 := zI1
  refine lv_iconst (v := (1)) hx hb dX10_isHalf_5 (by decide) ?_
  refine lv_istore_n (lv' := [(2, .int (1)), (0, .ref (ad (1000))), (1, .int (a0))]) hx hb dX10_isHalf_6 rfl hl (by decide) rfl (fun ls hl => ?_)
  refine lv_iconst (v := (0)) hx hb dX10_isHalf_7 (by decide) ?_
  refine lv_istore_n (lv' := [(3, .int (0)), (2, .int (1)), (0, .ref (ad (1000))), (1, .int (a0))]) hx hb dX10_isHalf_8 rfl hl (by decide) rfl (fun ls hl => ?_)
  have loop9 : ∀ (n : Nat) (x3_9 : Int32) (x2_9 : Int32) (Ia9 : MI) (La9 : ML) (H : Heap) (locs : List Loc) (ls : Array Slot), INV Ia9 → Kp [(1045, 1051), (1058, 1059), (1061, 1063)] [(1000, 51), (1000, 52), (1000, 53), (1000, 54), (1000, 55), (1000, 56), (1000, 59), (1000, 63)] I Ia9 → (0 ≤ x3_9.toInt ∧ x3_9.toInt ≤ 8) → (0 ≤ x2_9.toInt ∧ x2_9.toInt ≤ 1) → (Z59 I Ia9) → (8 - x3_9.toInt).toNat < n → Mem D A ad ns Ia9 La9 G H → va_S A s.heap H locs → lv_has ls 4 [(3, .int (x3_9)), (2, .int (x2_9)), (0, .ref (ad (1000))), (1, .int (a0))] → W p l e ({ frames := 5, cells := 0, slots := 0, locals := 128 } : Room) s m args below meth c H locs 0 0 (MQ below (va_Qi (fun r u => ∃ I2 L2, u = (ad, ns, I2, L2, G) ∧ INV I2 ∧ Kp [(1045, 1051), (1058, 1059), (1061, 1063)] [(1000, 51), (1000, 52), (1000, 53), (1000, 54), (1000, 55), (1000, 56), (1000, 59), (1000, 63)] I I2 ∧ ((0 ≤ r.toInt ∧ r.toInt ≤ 1) ∧ Z59 I I2)) (BM D A) A) args s 0 0 A) (F0 m 9 ls []) := by
    intro n
    induction n with
    | zero =>
      intro x3_9 x2_9 Ia9 La9 H locs ls hI hK hr3_9 hr2_9 zz9 hmu
      exact absurd hmu (Nat.not_lt_zero _)
    | succ n ih9 =>
      intro x3_9 x2_9 Ia9 La9 H locs ls hI hK hr3_9 hr2_9 zz9 hmu9 hM hS hl
      refine lv_iload_n hx hb dX10_isHalf_9 rfl (lv_at hl 0 rfl) ?_
      refine lv_aload_n hx hb dX10_isHalf_10 rfl (lv_at hl 2 rfl) ?_
      refine m_getr (1000) 1 (1001) hx hb hts hown hE oc10 hM hJ.1 rfl (by decide) rfl (hJ.2 1 (by decide)).2 (by decide) tb_1178 dX10_isHalf_11 ?_
      refine lv_bipush (v := (9)) hx hb dX10_isHalf_14 (by decide) ?_
      refine m_iald (1001) hx hb hE hM (hJ.2 1 (by decide)).1 rfl (vp_in_iff.mpr (by decide)) dX10_isHalf_16 ?_
      rw [show (9 : Int32).toNatClampNeg = 9 from rfl]
      have g4 := hI.get (1001) 9 (lo := 0) (hi := 8) rfl
      refine lv_icmp_ge (tgt := 53) hx hb dX10_isHalf_17 (by decide) (fun c5 => ?_) (fun c5 => ?_)
      · have hc5 := c5
        have q5 := q_le hc5
        refine lv_iload_n hx hb dX10_isHalf_53 rfl (lv_at hl 1 rfl) ?_
        exact m_zret hx hb hr (nar01 (by omega) (by omega)).1 hlocks hM hS (Nat.le_of_ble_eq_true rfl) (Nat.le_of_ble_eq_true rfl) ⟨_, _, rfl, hI, hK, ⟨(by first | omega | decide), zz9⟩⟩ dX10_isHalf_54
      · have hc5 := c5
        have q5 := q_nle hc5
        refine lv_iload_n hx hb dX10_isHalf_20 rfl (lv_at hl 1 rfl) ?_
        refine lv_if_eq (tgt := 45) hx hb dX10_isHalf_21 (by decide) (fun c6 => ?_) (fun c6 => ?_)
        · have hc6 := c6
          have q6 := q_eq hc6
          refine lv_iconst (v := (0)) hx hb dX10_isHalf_45 (by decide) ?_
          refine lv_istore_n (lv' := [(2, .int (0)), (3, .int (x3_9)), (0, .ref (ad (1000))), (1, .int (a0))]) hx hb dX10_isHalf_46 rfl hl (by decide) rfl (fun ls hl => ?_)
          obtain ⟨v7, ev7⟩ : ∃ z : Int32, z = x3_9 + Int32.ofInt (1) := ⟨_, rfl⟩
          have tv7 := a_inc ev7 (by decide) (by omega) (by omega)
          refine lv_iinc (v := v7) (lv' := [(3, .int (v7)), (2, .int (0)), (0, .ref (ad (1000))), (1, .int (a0))]) hx hb dX10_isHalf_47 hl (k := 1) rfl ev7.symm (by decide) rfl (fun ls hl => ?_)
          refine lv_goto (tgt := 9) hx hb dX10_isHalf_50 (by decide) ?_
          exact ih9 (v7) (0) Ia9 La9 _ _ ls hI hK (by first | omega | decide) (by first | omega | decide) zz9 (by omega) hM hS (lv_sub hl [0, 1, 2, 3] rfl)
        · have hc6 := c6
          have q6 := q_ne hc6
          refine lv_aload_n hx hb dX10_isHalf_24 rfl (lv_at hl 2 rfl) ?_
          refine m_getr (1000) 50 (1050) hx hb hts hown hE oc10 hM hJ.1 rfl (by decide) rfl (hJ.2 50 (by decide)).2 (by decide) tb_1227 dX10_isHalf_25 ?_
          refine lv_iload_n hx hb dX10_isHalf_28 rfl (lv_at hl 0 rfl) ?_
          refine m_iald (1050) hx hb hE hM (hJ.2 50 (by decide)).1 rfl (vp_in_iff.mpr (by omega)) dX10_isHalf_29 ?_
          refine lv_aload_n hx hb dX10_isHalf_30 rfl (lv_at hl 2 rfl) ?_
          refine m_getr (1000) 66 (1066) hx hb hts hown hE oc10 hM hJ.1 rfl (by decide) rfl (hJ.2 66 (by decide)).2 (by decide) tb_1243 dX10_isHalf_31 ?_
          refine lv_iload_n hx hb dX10_isHalf_34 rfl (lv_at hl 0 rfl) ?_
          refine m_iald (1066) hx hb hE hM (hJ.2 66 (by decide)).1 rfl (vp_in_iff.mpr (by omega)) dX10_isHalf_35 ?_
          refine lv_iconst (v := (2)) hx hb dX10_isHalf_36 (by decide) ?_
          refine lv_idiv hx hb dX10_isHalf_37 (by decide) ?_
          refine lv_topi (fun v8 ev8 => ?_)
          refine lv_icmp_lt (tgt := 45) hx hb dX10_isHalf_38 (by decide) (fun c9 => ?_) (fun c9 => ?_)
          · have hc9 := c9
            have q9 := q_lt hc9
            refine lv_iconst (v := (0)) hx hb dX10_isHalf_45 (by decide) ?_
            refine lv_istore_n (lv' := [(2, .int (0)), (3, .int (x3_9)), (0, .ref (ad (1000))), (1, .int (a0))]) hx hb dX10_isHalf_46 rfl hl (by decide) rfl (fun ls hl => ?_)
            obtain ⟨v10, ev10⟩ : ∃ z : Int32, z = x3_9 + Int32.ofInt (1) := ⟨_, rfl⟩
            have tv10 := a_inc ev10 (by decide) (by omega) (by omega)
            refine lv_iinc (v := v10) (lv' := [(3, .int (v10)), (2, .int (0)), (0, .ref (ad (1000))), (1, .int (a0))]) hx hb dX10_isHalf_47 hl (k := 1) rfl ev10.symm (by decide) rfl (fun ls hl => ?_)
            refine lv_goto (tgt := 9) hx hb dX10_isHalf_50 (by decide) ?_
            exact ih9 (v10) (0) Ia9 La9 _ _ ls hI hK (by first | omega | decide) (by first | omega | decide) zz9 (by omega) hM hS (lv_sub hl [0, 1, 2, 3] rfl)
          · have hc9 := c9
            have q9 := q_nlt hc9
            refine lv_iconst (v := (1)) hx hb dX10_isHalf_41 (by decide) ?_
            refine lv_goto (tgt := 46) hx hb dX10_isHalf_42 (by decide) ?_
            refine lv_istore_n (lv' := [(2, .int (1)), (3, .int (x3_9)), (0, .ref (ad (1000))), (1, .int (a0))]) hx hb dX10_isHalf_46 rfl hl (by decide) rfl (fun ls hl => ?_)
            obtain ⟨v11, ev11⟩ : ∃ z : Int32, z = x3_9 + Int32.ofInt (1) := ⟨_, rfl⟩
            have tv11 := a_inc ev11 (by decide) (by omega) (by omega)
            refine lv_iinc (v := v11) (lv' := [(3, .int (v11)), (2, .int (1)), (0, .ref (ad (1000))), (1, .int (a0))]) hx hb dX10_isHalf_47 hl (k := 1) rfl ev11.symm (by decide) rfl (fun ls hl => ?_)
            refine lv_goto (tgt := 9) hx hb dX10_isHalf_50 (by decide) ?_
            exact ih9 (v11) (1) Ia9 La9 _ _ ls hI hK (by first | omega | decide) (by first | omega | decide) zz9 (by omega) hM hS (lv_sub hl [0, 1, 2, 3] rfl)
  exact loop9 (_ + 1) (0) (1) I1 L2 _ _ ls hI hK (by first | omega | decide) (by first | omega | decide) (ZA.z zt3a) (Nat.lt_succ_self _) hM hS (lv_sub hl [0, 1, 2, 3] rfl)
set_option maxHeartbeats 4000000 in
set_option maxRecDepth 20000 in
theorem V_X10_mendsOne_z (l : Launch) (D : va_G) (A : Nat → Prop) (ad : Nat → Nat) (ns : List Nat) (I : MI) (L : ML) (G : MG) (a0 : Int32) (hJ : SGM ns G) (hI : INV I) (ha0 : 0 ≤ a0.toInt ∧ a0.toInt ≤ 23) : Met l yX10_mendsOne (wd yX10_mendsOne cX10_mendsOne 5 (some .boolean)) ({ frames := 6, cells := 0, slots := 0, locals := 151 }) (va_Pc [.ref (ad (1000)), .int a0] (PM D A ad ns I L G)) (va_Qi (fun r u => ∃ I2 L2, u = (ad, ns, I2, L2, G) ∧ INV I2 ∧ Kp [(1009, 1010), (1045, 1051), (1058, 1059), (1061, 1063)] [(1000, 51), (1000, 52), (1000, 53), (1000, 54), (1000, 55), (1000, 56), (1000, 59), (1000, 63), (1073, 0), (1073, 1), (1073, 2), (1073, 3), (1073, 4)] I I2 ∧ ((0 ≤ r.toInt ∧ r.toInt ≤ 1) ∧ Z59 I I2)) (BM D A) A) 0 0 A := by
  refine m_ofW (by decide) (Nat.le_of_ble_eq_true rfl) ?_
  intro p e s m below meth c ls args hC hE hM hA hS hl
  obtain ⟨hx, hb, hml, hown, hts, hr, hlocks, hin⟩ := hC
  have km2 : (-2 : Int32).toInt = -2 := by decide
  have k0 : (0 : Int32).toInt = 0 := by decide
  have k1 : (1 : Int32).toInt = 1 := by decide
  have k8 : (8 : Int32).toInt = 8 := by decide
  have hK : Kp [(1009, 1010), (1045, 1051), (1058, 1059), (1061, 1063)] [(1000, 51), (1000, 52), (1000, 53), (1000, 54), (1000, 55), (1000, 56), (1000, 59), (1000, 63), (1073, 0), (1073, 1), (1073, 2), (1073, 3), (1073, 4)] I I := Kp.rf
  have hl : lv_has ls 5 [(0, .ref (ad (1000))), (1, .int (a0))] := hl
  refine lv_iconst (v := (0)) hx hb dX10_mendsOne_0 (by decide) ?_
  refine lv_istore_n (lv' := [(2, .int (0)), (0, .ref (ad (1000))), (1, .int (a0))]) hx hb dX10_mendsOne_1 rfl hl (by decide) rfl (fun ls hl => ?_)
  have loop2 : ∀ (n : Nat) (x2_2 : Int32) (Ia2 : MI) (La2 : ML) (H : Heap) (locs : List Loc) (ls : Array Slot), INV Ia2 → Kp [(1009, 1010), (1045, 1051), (1058, 1059), (1061, 1063)] [(1000, 51), (1000, 52), (1000, 53), (1000, 54), (1000, 55), (1000, 56), (1000, 59), (1000, 63), (1073, 0), (1073, 1), (1073, 2), (1073, 3), (1073, 4)] I Ia2 → (0 ≤ x2_2.toInt ∧ x2_2.toInt ≤ 24) → (Z59 I Ia2) → (24 - x2_2.toInt).toNat < n → Mem D A ad ns Ia2 La2 G H → va_S A s.heap H locs → lv_has ls 5 [(2, .int (x2_2)), (0, .ref (ad (1000))), (1, .int (a0))] → W p l e ({ frames := 6, cells := 0, slots := 0, locals := 151 } : Room) s m args below meth c H locs 0 0 (MQ below (va_Qi (fun r u => ∃ I2 L2, u = (ad, ns, I2, L2, G) ∧ INV I2 ∧ Kp [(1009, 1010), (1045, 1051), (1058, 1059), (1061, 1063)] [(1000, 51), (1000, 52), (1000, 53), (1000, 54), (1000, 55), (1000, 56), (1000, 59), (1000, 63), (1073, 0), (1073, 1), (1073, 2), (1073, 3), (1073, 4)] I I2 ∧ ((0 ≤ r.toInt ∧ r.toInt ≤ 1) ∧ Z59 I I2)) (BM D A) A) args s 0 0 A) (F0 m 2 ls []) := by
    intro n
    induction n with
    | zero =>
      intro x2_2 Ia2 La2 H locs ls hI hK hr2_2 zz2 hmu
      exact absurd hmu (Nat.not_lt_zero _)
    | succ n ih2 =>
      intro x2_2 Ia2 La2 H locs ls hI hK hr2_2 zz2 hmu2 hM hS hl
      refine lv_iload_n hx hb dX10_mendsOne_2 rfl (lv_at hl 0 rfl) ?_
      refine lv_aload_n hx hb dX10_mendsOne_3 rfl (lv_at hl 1 rfl) ?_
      refine m_getr (1000) 1 (1001) hx hb hts hown hE oc10 hM hJ.1 rfl (by decide) rfl (hJ.2 1 (by decide)).2 (by decide) tb_1178 dX10_mendsOne_4 ?_
      refine lv_bipush (v := (8)) hx hb dX10_mendsOne_7 (by decide) ?_
      refine m_iald (1001) hx hb hE hM (hJ.2 1 (by decide)).1 rfl (vp_in_iff.mpr (by decide)) dX10_mendsOne_9 ?_
      rw [show (8 : Int32).toNatClampNeg = 8 from rfl]
      have g1 := hI.get (1001) 8 (lo := 0) (hi := 24) rfl
      refine lv_icmp_ge (tgt := 94) hx hb dX10_mendsOne_10 (by decide) (fun c2 => ?_) (fun c2 => ?_)
      · have hc2 := c2
        have q2 := q_le hc2
        refine lv_iconst (v := (0)) hx hb dX10_mendsOne_94 (by decide) ?_
        exact m_zret hx hb hr rfl hlocks hM hS (Nat.le_of_ble_eq_true rfl) (Nat.le_of_ble_eq_true rfl) ⟨_, _, rfl, hI, hK, ⟨(by first | omega | decide), zz2⟩⟩ dX10_mendsOne_95
      · have hc2 := c2
        have q2 := q_nle hc2
        refine lv_aload_n hx hb dX10_mendsOne_13 rfl (lv_at hl 1 rfl) ?_
        refine m_getr (1000) 9 (1009) hx hb hts hown hE oc10 hM hJ.1 rfl (by decide) rfl (hJ.2 9 (by decide)).2 (by decide) tb_1186 dX10_mendsOne_14 ?_
        refine lv_iload_n hx hb dX10_mendsOne_17 rfl (lv_at hl 0 rfl) ?_
        refine m_iald (1009) hx hb hE hM (hJ.2 9 (by decide)).1 rfl (vp_in_iff.mpr (by omega)) dX10_mendsOne_18 ?_
        refine lv_istore_n (lv' := [(3, .int (Ia2 (1009) (x2_2).toNatClampNeg)), (2, .int (x2_2)), (0, .ref (ad (1000))), (1, .int (a0))]) hx hb dX10_mendsOne_19 rfl hl (by decide) rfl (fun ls hl => ?_)
        refine lv_iconst (v := (0)) hx hb dX10_mendsOne_20 (by decide) ?_
        refine lv_istore (lv' := [(4, .int (0)), (3, .int (Ia2 (1009) (x2_2).toNatClampNeg)), (2, .int (x2_2)), (0, .ref (ad (1000))), (1, .int (a0))]) hx hb dX10_mendsOne_21 hl (by decide) rfl (fun ls hl => ?_)
        have loop23 : ∀ (n : Nat) (x4_23 : Int32) (Ia23 : MI) (La23 : ML) (H : Heap) (locs : List Loc) (ls : Array Slot), INV Ia23 → Kp [(1009, 1010), (1045, 1051), (1058, 1059), (1061, 1063)] [(1000, 51), (1000, 52), (1000, 53), (1000, 54), (1000, 55), (1000, 56), (1000, 59), (1000, 63), (1073, 0), (1073, 1), (1073, 2), (1073, 3), (1073, 4)] I Ia23 → (0 ≤ x4_23.toInt ∧ x4_23.toInt ≤ 8) → (Z59 I Ia23) → (8 - x4_23.toInt).toNat < n → Mem D A ad ns Ia23 La23 G H → va_S A s.heap H locs → lv_has ls 5 [(4, .int (x4_23)), (3, .int (Ia2 (1009) (x2_2).toNatClampNeg)), (2, .int (x2_2)), (0, .ref (ad (1000))), (1, .int (a0))] → W p l e ({ frames := 6, cells := 0, slots := 0, locals := 151 } : Room) s m args below meth c H locs 0 0 (MQ below (va_Qi (fun r u => ∃ I2 L2, u = (ad, ns, I2, L2, G) ∧ INV I2 ∧ Kp [(1009, 1010), (1045, 1051), (1058, 1059), (1061, 1063)] [(1000, 51), (1000, 52), (1000, 53), (1000, 54), (1000, 55), (1000, 56), (1000, 59), (1000, 63), (1073, 0), (1073, 1), (1073, 2), (1073, 3), (1073, 4)] I I2 ∧ ((0 ≤ r.toInt ∧ r.toInt ≤ 1) ∧ Z59 I I2)) (BM D A) A) args s 0 0 A) (F0 m 23 ls []) := by
          intro n
          induction n with
          | zero =>
            intro x4_23 Ia23 La23 H locs ls hI hK hr4_23 zz23 hmu
            exact absurd hmu (Nat.not_lt_zero _)
          | succ n ih23 =>
            intro x4_23 Ia23 La23 H locs ls hI hK hr4_23 zz23 hmu23 hM hS hl
            refine lv_iload hx hb dX10_mendsOne_23 (lv_at hl 0 rfl) ?_
            refine lv_bipush (v := (8)) hx hb dX10_mendsOne_25 (by decide) ?_
            refine lv_icmp_ge (tgt := 81) hx hb dX10_mendsOne_27 (by decide) (fun c3 => ?_) (fun c3 => ?_)
            · have hc3 := c3
              have q3 := q_le hc3
              refine lv_aload_n hx hb dX10_mendsOne_81 rfl (lv_at hl 3 rfl) ?_
              refine m_getr (1000) 9 (1009) hx hb hts hown hE oc10 hM hJ.1 rfl (by decide) rfl (hJ.2 9 (by decide)).2 (by decide) tb_1186 dX10_mendsOne_82 ?_
              refine lv_iload_n hx hb dX10_mendsOne_85 rfl (lv_at hl 2 rfl) ?_
              refine lv_iload_n hx hb dX10_mendsOne_86 rfl (lv_at hl 1 rfl) ?_
              refine m_iast (1009) hx hb hE hM hS (hJ.2 9 (by decide)).1 rfl (vp_in_iff.mpr (by omega)) dX10_mendsOne_87 (fun H locs I4 eI4 hM hS => ?_)
              subst eI4
              have hI := hI.putF (n := 1009) (k := ((x2_2).toNatClampNeg)) (v := Ia2 (1009) (x2_2).toNatClampNeg) rfl
              have hK := hK.put (n := 1009) (k := ((x2_2).toNatClampNeg)) (v := Ia2 (1009) (x2_2).toNatClampNeg) (by first | rfl | simp [inR])
              have zt5 : Z59 I (u2 Ia23 (1009) ((x2_2).toNatClampNeg) (Ia2 (1009) (x2_2).toNatClampNeg)) := zz23.pt (fun z => absurd z.1 (by decide))
              obtain ⟨v6, ev6⟩ : ∃ z : Int32, z = x2_2 + Int32.ofInt (1) := ⟨_, rfl⟩
              have tv6 := a_inc ev6 (by decide) (by omega) (by omega)
              refine lv_iinc (v := v6) (lv' := [(2, .int (v6)), (4, .int (x4_23)), (3, .int (Ia2 (1009) (x2_2).toNatClampNeg)), (0, .ref (ad (1000))), (1, .int (a0))]) hx hb dX10_mendsOne_88 hl (k := 2) rfl ev6.symm (by decide) rfl (fun ls hl => ?_)
              refine lv_goto (tgt := 2) hx hb dX10_mendsOne_91 (by decide) ?_
              exact ih2 (v6) (u2 Ia23 (1009) ((x2_2).toNatClampNeg) (Ia2 (1009) (x2_2).toNatClampNeg)) La23 _ _ ls hI hK (by first | omega | decide) zt5 (by omega) hM hS (lv_sub hl [0, 3, 4] rfl)
            · have hc3 := c3
              have q3 := q_nle hc3
              refine lv_aload_n hx hb dX10_mendsOne_30 rfl (lv_at hl 3 rfl) ?_
              refine m_getr (1000) 15 (1015) hx hb hts hown hE oc10 hM hJ.1 rfl (by decide) rfl (hJ.2 15 (by decide)).2 (by decide) tb_1192 dX10_mendsOne_31 ?_
              refine lv_iload_n hx hb dX10_mendsOne_34 rfl (lv_at hl 2 rfl) ?_
              refine m_iald (1015) hx hb hE hM (hJ.2 15 (by decide)).1 rfl (vp_in_iff.mpr (by omega)) dX10_mendsOne_35 ?_
              refine lv_if_ne (tgt := 81) hx hb dX10_mendsOne_36 (by decide) (fun c7 => ?_) (fun c7 => ?_)
              · have hc7 := c7
                have q7 := q_ne hc7
                refine lv_aload_n hx hb dX10_mendsOne_81 rfl (lv_at hl 3 rfl) ?_
                refine m_getr (1000) 9 (1009) hx hb hts hown hE oc10 hM hJ.1 rfl (by decide) rfl (hJ.2 9 (by decide)).2 (by decide) tb_1186 dX10_mendsOne_82 ?_
                refine lv_iload_n hx hb dX10_mendsOne_85 rfl (lv_at hl 2 rfl) ?_
                refine lv_iload_n hx hb dX10_mendsOne_86 rfl (lv_at hl 1 rfl) ?_
                refine m_iast (1009) hx hb hE hM hS (hJ.2 9 (by decide)).1 rfl (vp_in_iff.mpr (by omega)) dX10_mendsOne_87 (fun H locs I8 eI8 hM hS => ?_)
                subst eI8
                have hI := hI.putF (n := 1009) (k := ((x2_2).toNatClampNeg)) (v := Ia2 (1009) (x2_2).toNatClampNeg) rfl
                have hK := hK.put (n := 1009) (k := ((x2_2).toNatClampNeg)) (v := Ia2 (1009) (x2_2).toNatClampNeg) (by first | rfl | simp [inR])
                have zt9 : Z59 I (u2 Ia23 (1009) ((x2_2).toNatClampNeg) (Ia2 (1009) (x2_2).toNatClampNeg)) := zz23.pt (fun z => absurd z.1 (by decide))
                obtain ⟨v10, ev10⟩ : ∃ z : Int32, z = x2_2 + Int32.ofInt (1) := ⟨_, rfl⟩
                have tv10 := a_inc ev10 (by decide) (by omega) (by omega)
                refine lv_iinc (v := v10) (lv' := [(2, .int (v10)), (4, .int (x4_23)), (3, .int (Ia2 (1009) (x2_2).toNatClampNeg)), (0, .ref (ad (1000))), (1, .int (a0))]) hx hb dX10_mendsOne_88 hl (k := 2) rfl ev10.symm (by decide) rfl (fun ls hl => ?_)
                refine lv_goto (tgt := 2) hx hb dX10_mendsOne_91 (by decide) ?_
                exact ih2 (v10) (u2 Ia23 (1009) ((x2_2).toNatClampNeg) (Ia2 (1009) (x2_2).toNatClampNeg)) La23 _ _ ls hI hK (by first | omega | decide) zt9 (by omega) hM hS (lv_sub hl [0, 3, 4] rfl)
              · have hc7 := c7
                have q7 := q_eq hc7
                refine lv_aload_n hx hb dX10_mendsOne_39 rfl (lv_at hl 3 rfl) ?_
                refine m_getr (1000) 9 (1009) hx hb hts hown hE oc10 hM hJ.1 rfl (by decide) rfl (hJ.2 9 (by decide)).2 (by decide) tb_1186 dX10_mendsOne_40 ?_
                refine lv_iload_n hx hb dX10_mendsOne_43 rfl (lv_at hl 2 rfl) ?_
                refine lv_iload hx hb dX10_mendsOne_44 (lv_at hl 0 rfl) ?_
                refine m_iast (1009) hx hb hE hM hS (hJ.2 9 (by decide)).1 rfl (vp_in_iff.mpr (by omega)) dX10_mendsOne_46 (fun H locs I11 eI11 hM hS => ?_)
                subst eI11
                have hI := hI.putF (n := 1009) (k := ((x2_2).toNatClampNeg)) (v := x4_23) rfl
                have hK := hK.put (n := 1009) (k := ((x2_2).toNatClampNeg)) (v := x4_23) (by first | rfl | simp [inR])
                have zt12 : Z59 I (u2 Ia23 (1009) ((x2_2).toNatClampNeg) (x4_23)) := zz23.pt (fun z => absurd z.1 (by decide))
                refine lv_iload hx hb dX10_mendsOne_47 (lv_at hl 0 rfl) ?_
                refine lv_iload_n hx hb dX10_mendsOne_49 rfl (lv_at hl 1 rfl) ?_
                refine lv_icmp_eq (tgt := 75) hx hb dX10_mendsOne_50 (by decide) (fun c13 => ?_) (fun c13 => ?_)
                · have hc13 := c13
                  have q13 := q_eq hc13
                  obtain ⟨v14, ev14⟩ : ∃ z : Int32, z = x4_23 + Int32.ofInt (1) := ⟨_, rfl⟩
                  have tv14 := a_inc ev14 (by decide) (by omega) (by omega)
                  refine lv_iinc (v := v14) (lv' := [(4, .int (v14)), (3, .int (Ia2 (1009) (x2_2).toNatClampNeg)), (2, .int (x2_2)), (0, .ref (ad (1000))), (1, .int (a0))]) hx hb dX10_mendsOne_75 hl (k := 0) rfl ev14.symm (by decide) rfl (fun ls hl => ?_)
                  refine lv_goto (tgt := 23) hx hb dX10_mendsOne_78 (by decide) ?_
                  exact ih23 (v14) (u2 Ia23 (1009) ((x2_2).toNatClampNeg) (x4_23)) La23 _ _ ls hI hK (by first | omega | decide) zt12 (by omega) hM hS (lv_sub hl [0, 1, 2, 3, 4] rfl)
                · have hc13 := c13
                  have q13 := q_ne hc13
                  refine lv_aload_n hx hb dX10_mendsOne_53 rfl (lv_at hl 3 rfl) ?_
                  refine lv_iload_n hx hb dX10_mendsOne_54 rfl (lv_at hl 4 rfl) ?_
                  refine m_calli (m_runV (1000) (As := [.int (a0)]) (rest := []) hx hb hml hown hts hE hM hS hA ce_X10_isHalf tb_1769 (V_X10_isHalf_z l D A ad ns (u2 Ia23 (1009) ((x2_2).toNatClampNeg) (x4_23)) La23 G (a0) hJ hI (by first | omega | decide)) rfl rfl ⟨Nat.le_of_ble_eq_true rfl, Nat.le_of_ble_eq_true rfl⟩ hJ.1 rfl rfl (by decide) rfl hl.1 rfl (Nat.le_of_ble_eq_true rfl) dX10_mendsOne_55 ⟨Nat.le_of_ble_eq_true rfl, Nat.le_of_ble_eq_true rfl⟩) hS (fun r15 u H locs hw hM hS => ?_)
                  obtain ⟨I16, L17, rfl, hI, hkI16, xr15⟩ := hw
                  have hM : Mem D A ad ns I16 L17 G H := hM
                  have hK := hK.trans hkI16 rfl
                  have zI16 := xr15.2
                  replace xr15 := xr15.1
                  have zt18 : Z59 I I16 := zt12.tr zI16
                  refine lv_if_eq (tgt := 75) hx hb dX10_mendsOne_58 (by decide) (fun c19 => ?_) (fun c19 => ?_)
                  · have hc19 := c19
                    have q19 := q_eq hc19
                    obtain ⟨v20, ev20⟩ : ∃ z : Int32, z = x4_23 + Int32.ofInt (1) := ⟨_, rfl⟩
                    have tv20 := a_inc ev20 (by decide) (by omega) (by omega)
                    refine lv_iinc (v := v20) (lv' := [(4, .int (v20)), (3, .int (Ia2 (1009) (x2_2).toNatClampNeg)), (2, .int (x2_2)), (0, .ref (ad (1000))), (1, .int (a0))]) hx hb dX10_mendsOne_75 hl (k := 0) rfl ev20.symm (by decide) rfl (fun ls hl => ?_)
                    refine lv_goto (tgt := 23) hx hb dX10_mendsOne_78 (by decide) ?_
                    exact ih23 (v20) I16 L17 _ _ ls hI hK (by first | omega | decide) zt18 (by omega) hM hS (lv_sub hl [0, 1, 2, 3, 4] rfl)
                  · have hc19 := c19
                    have q19 := q_ne hc19
                    refine lv_aload_n hx hb dX10_mendsOne_61 rfl (lv_at hl 3 rfl) ?_
                    refine lv_iconst (v := (1)) hx hb dX10_mendsOne_62 (by decide) ?_
                    refine lv_iload_n hx hb dX10_mendsOne_63 rfl (lv_at hl 2 rfl) ?_
                    refine lv_iload hx hb dX10_mendsOne_64 (lv_at hl 0 rfl) ?_
                    refine lv_bipush (v := (-2)) hx hb dX10_mendsOne_66 (by decide) ?_
                    refine lv_bipush (v := (-2)) hx hb dX10_mendsOne_68 (by decide) ?_
                    refine m_callv (m_runV (1000) (As := [.int (1), .int (x2_2), .int (x4_23), .int ((-2 : Int32)), .int ((-2 : Int32))]) (rest := []) hx hb hml hown hts hE hM hS hA ce_X10_isMended tb_1765 (V_X10_isMended l D A ad ns I16 L17 G (1) (x2_2) (x4_23) ((-2 : Int32)) ((-2 : Int32)) hJ hI) rfl rfl ⟨Nat.le_of_ble_eq_true rfl, Nat.le_of_ble_eq_true rfl⟩ hJ.1 rfl rfl (by decide) rfl hl.1 rfl (Nat.le_of_ble_eq_true rfl) dX10_mendsOne_70 ⟨Nat.le_of_ble_eq_true rfl, Nat.le_of_ble_eq_true rfl⟩) hS (fun u H locs hw hM hS => ?_)
                    obtain ⟨I21, L22, rfl, hI, hkI21⟩ := hw
                    have hM : Mem D A ad ns I21 L22 G H := hM
                    have hK := hK.trans hkI21 rfl
                    have zt23 : Z59 I I21 := zt18.eq (hkI21.get 1000 59 rfl)
                    refine lv_iconst (v := (1)) hx hb dX10_mendsOne_73 (by decide) ?_
                    exact m_zret hx hb hr rfl hlocks hM hS (Nat.le_of_ble_eq_true rfl) (Nat.le_of_ble_eq_true rfl) ⟨_, _, rfl, hI, hK, ⟨(by first | omega | decide), zt23⟩⟩ dX10_mendsOne_74
        exact loop23 (_ + 1) (0) Ia2 La2 _ _ ls hI hK (by first | omega | decide) zz2 (Nat.lt_succ_self _) hM hS (lv_sub hl [0, 1, 2, 3, 4] rfl)
  exact loop2 (_ + 1) (0) I L _ _ ls hI hK (by first | omega | decide) Z59.rf (Nat.lt_succ_self _) hM hS (lv_sub hl [0, 1, 2] rfl)
set_option maxHeartbeats 4000000 in
set_option maxRecDepth 20000 in
theorem V_X10_mendsPair_z (l : Launch) (D : va_G) (A : Nat → Prop) (ad : Nat → Nat) (ns : List Nat) (I : MI) (L : ML) (G : MG) (a0 : Int32) (a1 : Int32) (a2 : Int32) (hJ : SGM ns G) (hI : INV I) (ha0 : 0 ≤ a0.toInt ∧ a0.toInt ≤ 23) (ha1 : 0 ≤ a1.toInt ∧ a1.toInt ≤ 23) (ha2 : 0 ≤ a2.toInt ∧ a2.toInt ≤ 23) : Met l yX10_mendsPair (wd yX10_mendsPair cX10_mendsPair 7 (some .boolean)) ({ frames := 6, cells := 0, slots := 0, locals := 151 }) (va_Pc [.ref (ad (1000)), .int a0, .int a1, .int a2] (PM D A ad ns I L G)) (va_Qi (fun r u => ∃ I2 L2, u = (ad, ns, I2, L2, G) ∧ INV I2 ∧ Kp [(1009, 1010), (1045, 1051), (1058, 1059), (1061, 1063)] [(1000, 51), (1000, 52), (1000, 53), (1000, 54), (1000, 55), (1000, 56), (1000, 59), (1000, 63), (1073, 0), (1073, 1), (1073, 2), (1073, 3), (1073, 4)] I I2 ∧ ((0 ≤ r.toInt ∧ r.toInt ≤ 1) ∧ Z59 I I2)) (BM D A) A) 0 0 A := by
  refine m_ofW (by decide) (Nat.le_of_ble_eq_true rfl) ?_
  intro p e s m below meth c ls args hC hE hM hA hS hl
  obtain ⟨hx, hb, hml, hown, hts, hr, hlocks, hin⟩ := hC
  have k0 : (0 : Int32).toInt = 0 := by decide
  have k1 : (1 : Int32).toInt = 1 := by decide
  have k2 : (2 : Int32).toInt = 2 := by decide
  have k8 : (8 : Int32).toInt = 8 := by decide
  have k64 : (64 : Int32).toInt = 64 := by decide
  have hK : Kp [(1009, 1010), (1045, 1051), (1058, 1059), (1061, 1063)] [(1000, 51), (1000, 52), (1000, 53), (1000, 54), (1000, 55), (1000, 56), (1000, 59), (1000, 63), (1073, 0), (1073, 1), (1073, 2), (1073, 3), (1073, 4)] I I := Kp.rf
  have hl : lv_has ls 7 [(0, .ref (ad (1000))), (1, .int (a0)), (2, .int (a1)), (3, .int (a2))] := hl
  refine lv_aload_n hx hb dX10_mendsPair_0 rfl (lv_at hl 0 rfl) ?_
  refine m_getr (1000) 9 (1009) hx hb hts hown hE oc10 hM hJ.1 rfl (by decide) rfl (hJ.2 9 (by decide)).2 (by decide) tb_1186 dX10_mendsPair_1 ?_
  refine lv_iload_n hx hb dX10_mendsPair_4 rfl (lv_at hl 2 rfl) ?_
  refine m_iald (1009) hx hb hE hM (hJ.2 9 (by decide)).1 rfl (vp_in_iff.mpr (by omega)) dX10_mendsPair_5 ?_
  refine lv_istore (lv' := [(4, .int (I (1009) (a1).toNatClampNeg)), (0, .ref (ad (1000))), (1, .int (a0)), (2, .int (a1)), (3, .int (a2))]) hx hb dX10_mendsPair_6 hl (by decide) rfl (fun ls hl => ?_)
  refine lv_aload_n hx hb dX10_mendsPair_8 rfl (lv_at hl 1 rfl) ?_
  refine m_getr (1000) 9 (1009) hx hb hts hown hE oc10 hM hJ.1 rfl (by decide) rfl (hJ.2 9 (by decide)).2 (by decide) tb_1186 dX10_mendsPair_9 ?_
  refine lv_iload_n hx hb dX10_mendsPair_12 rfl (lv_at hl 4 rfl) ?_
  refine m_iald (1009) hx hb hE hM (hJ.2 9 (by decide)).1 rfl (vp_in_iff.mpr (by omega)) dX10_mendsPair_13 ?_
  refine lv_istore (lv' := [(5, .int (I (1009) (a2).toNatClampNeg)), (4, .int (I (1009) (a1).toNatClampNeg)), (0, .ref (ad (1000))), (1, .int (a0)), (2, .int (a1)), (3, .int (a2))]) hx hb dX10_mendsPair_14 hl (by decide) rfl (fun ls hl => ?_)
  refine lv_iconst (v := (0)) hx hb dX10_mendsPair_16 (by decide) ?_
  refine lv_istore (lv' := [(6, .int (0)), (5, .int (I (1009) (a2).toNatClampNeg)), (4, .int (I (1009) (a1).toNatClampNeg)), (0, .ref (ad (1000))), (1, .int (a0)), (2, .int (a1)), (3, .int (a2))]) hx hb dX10_mendsPair_17 hl (by decide) rfl (fun ls hl => ?_)
  have loop19 : ∀ (n : Nat) (x6_19 : Int32) (Ia19 : MI) (La19 : ML) (H : Heap) (locs : List Loc) (ls : Array Slot), INV Ia19 → Kp [(1009, 1010), (1045, 1051), (1058, 1059), (1061, 1063)] [(1000, 51), (1000, 52), (1000, 53), (1000, 54), (1000, 55), (1000, 56), (1000, 59), (1000, 63), (1073, 0), (1073, 1), (1073, 2), (1073, 3), (1073, 4)] I Ia19 → (0 ≤ x6_19.toInt ∧ x6_19.toInt ≤ 64) → (Z59 I Ia19) → (64 - x6_19.toInt).toNat < n → Mem D A ad ns Ia19 La19 G H → va_S A s.heap H locs → lv_has ls 7 [(6, .int (x6_19)), (5, .int (I (1009) (a2).toNatClampNeg)), (4, .int (I (1009) (a1).toNatClampNeg)), (0, .ref (ad (1000))), (1, .int (a0)), (2, .int (a1)), (3, .int (a2))] → W p l e ({ frames := 6, cells := 0, slots := 0, locals := 151 } : Room) s m args below meth c H locs 0 0 (MQ below (va_Qi (fun r u => ∃ I2 L2, u = (ad, ns, I2, L2, G) ∧ INV I2 ∧ Kp [(1009, 1010), (1045, 1051), (1058, 1059), (1061, 1063)] [(1000, 51), (1000, 52), (1000, 53), (1000, 54), (1000, 55), (1000, 56), (1000, 59), (1000, 63), (1073, 0), (1073, 1), (1073, 2), (1073, 3), (1073, 4)] I I2 ∧ ((0 ≤ r.toInt ∧ r.toInt ≤ 1) ∧ Z59 I I2)) (BM D A) A) args s 0 0 A) (F0 m 19 ls []) := by
    intro n
    induction n with
    | zero =>
      intro x6_19 Ia19 La19 H locs ls hI hK hr6_19 zz19 hmu
      exact absurd hmu (Nat.not_lt_zero _)
    | succ n ih19 =>
      intro x6_19 Ia19 La19 H locs ls hI hK hr6_19 zz19 hmu19 hM hS hl
      refine lv_iload hx hb dX10_mendsPair_19 (lv_at hl 0 rfl) ?_
      refine lv_bipush (v := (64)) hx hb dX10_mendsPair_21 (by decide) ?_
      refine lv_icmp_ge (tgt := 105) hx hb dX10_mendsPair_23 (by decide) (fun c1 => ?_) (fun c1 => ?_)
      · have hc1 := c1
        have q1 := q_le hc1
        refine lv_aload_n hx hb dX10_mendsPair_105 rfl (lv_at hl 3 rfl) ?_
        refine m_getr (1000) 9 (1009) hx hb hts hown hE oc10 hM hJ.1 rfl (by decide) rfl (hJ.2 9 (by decide)).2 (by decide) tb_1186 dX10_mendsPair_106 ?_
        refine lv_iload_n hx hb dX10_mendsPair_109 rfl (lv_at hl 5 rfl) ?_
        refine lv_iload hx hb dX10_mendsPair_110 (lv_at hl 2 rfl) ?_
        refine m_iast (1009) hx hb hE hM hS (hJ.2 9 (by decide)).1 rfl (vp_in_iff.mpr (by omega)) dX10_mendsPair_112 (fun H locs I2 eI2 hM hS => ?_)
        subst eI2
        have hI := hI.putF (n := 1009) (k := ((a1).toNatClampNeg)) (v := I (1009) (a1).toNatClampNeg) rfl
        have hK := hK.put (n := 1009) (k := ((a1).toNatClampNeg)) (v := I (1009) (a1).toNatClampNeg) (by first | rfl | simp [inR])
        have zt3 : Z59 I (u2 Ia19 (1009) ((a1).toNatClampNeg) (I (1009) (a1).toNatClampNeg)) := zz19.pt (fun z => absurd z.1 (by decide))
        refine lv_aload_n hx hb dX10_mendsPair_113 rfl (lv_at hl 3 rfl) ?_
        refine m_getr (1000) 9 (1009) hx hb hts hown hE oc10 hM hJ.1 rfl (by decide) rfl (hJ.2 9 (by decide)).2 (by decide) tb_1186 dX10_mendsPair_114 ?_
        refine lv_iload_n hx hb dX10_mendsPair_117 rfl (lv_at hl 6 rfl) ?_
        refine lv_iload hx hb dX10_mendsPair_118 (lv_at hl 1 rfl) ?_
        refine m_iast (1009) hx hb hE hM hS (hJ.2 9 (by decide)).1 rfl (vp_in_iff.mpr (by omega)) dX10_mendsPair_120 (fun H locs I4 eI4 hM hS => ?_)
        subst eI4
        have hI := hI.putF (n := 1009) (k := ((a2).toNatClampNeg)) (v := I (1009) (a2).toNatClampNeg) rfl
        have hK := hK.put (n := 1009) (k := ((a2).toNatClampNeg)) (v := I (1009) (a2).toNatClampNeg) (by first | rfl | simp [inR])
        have zt5 : Z59 I (u2 (u2 Ia19 (1009) ((a1).toNatClampNeg) (I (1009) (a1).toNatClampNeg)) (1009) ((a2).toNatClampNeg) (I (1009) (a2).toNatClampNeg)) := zt3.pt (fun z => absurd z.1 (by decide))
        refine lv_iconst (v := (0)) hx hb dX10_mendsPair_121 (by decide) ?_
        exact m_zret hx hb hr rfl hlocks hM hS (Nat.le_of_ble_eq_true rfl) (Nat.le_of_ble_eq_true rfl) ⟨_, _, rfl, hI, hK, ⟨(by first | omega | decide), zt5⟩⟩ dX10_mendsPair_122
      · have hc1 := c1
        have q1 := q_nle hc1
        refine lv_aload_n hx hb dX10_mendsPair_26 rfl (lv_at hl 3 rfl) ?_
        refine m_getr (1000) 9 (1009) hx hb hts hown hE oc10 hM hJ.1 rfl (by decide) rfl (hJ.2 9 (by decide)).2 (by decide) tb_1186 dX10_mendsPair_27 ?_
        refine lv_iload_n hx hb dX10_mendsPair_30 rfl (lv_at hl 5 rfl) ?_
        refine lv_iload hx hb dX10_mendsPair_31 (lv_at hl 0 rfl) ?_
        refine lv_bipush (v := (8)) hx hb dX10_mendsPair_33 (by decide) ?_
        refine lv_idiv hx hb dX10_mendsPair_35 (by decide) ?_
        refine lv_topi (fun v6 ev6 => ?_)
        have tv6 := a_div (c := 8) ev6 (by decide) (by decide) (by omega)
        refine m_iast (1009) hx hb hE hM hS (hJ.2 9 (by decide)).1 rfl (vp_in_iff.mpr (by omega)) dX10_mendsPair_36 (fun H locs I7 eI7 hM hS => ?_)
        subst eI7
        have hI := hI.putF (n := 1009) (k := ((a1).toNatClampNeg)) (v := v6) rfl
        have hK := hK.put (n := 1009) (k := ((a1).toNatClampNeg)) (v := v6) (by first | rfl | simp [inR])
        have zt8 : Z59 I (u2 Ia19 (1009) ((a1).toNatClampNeg) (v6)) := zz19.pt (fun z => absurd z.1 (by decide))
        refine lv_aload_n hx hb dX10_mendsPair_37 rfl (lv_at hl 3 rfl) ?_
        refine m_getr (1000) 9 (1009) hx hb hts hown hE oc10 hM hJ.1 rfl (by decide) rfl (hJ.2 9 (by decide)).2 (by decide) tb_1186 dX10_mendsPair_38 ?_
        refine lv_iload_n hx hb dX10_mendsPair_41 rfl (lv_at hl 6 rfl) ?_
        refine lv_iload hx hb dX10_mendsPair_42 (lv_at hl 0 rfl) ?_
        refine lv_bipush (v := (8)) hx hb dX10_mendsPair_44 (by decide) ?_
        refine lv_irem hx hb dX10_mendsPair_46 (by decide) ?_
        refine lv_topi (fun v9 ev9 => ?_)
        have tv9 := a_rem (c := 8) ev9 (by decide) (by decide) (by omega)
        refine m_iast (1009) hx hb hE hM hS (hJ.2 9 (by decide)).1 rfl (vp_in_iff.mpr (by omega)) dX10_mendsPair_47 (fun H locs I10 eI10 hM hS => ?_)
        subst eI10
        have hI := hI.putF (n := 1009) (k := ((a2).toNatClampNeg)) (v := v9) rfl
        have hK := hK.put (n := 1009) (k := ((a2).toNatClampNeg)) (v := v9) (by first | rfl | simp [inR])
        have zt11 : Z59 I (u2 (u2 Ia19 (1009) ((a1).toNatClampNeg) (v6)) (1009) ((a2).toNatClampNeg) (v9)) := zt8.pt (fun z => absurd z.1 (by decide))
        refine lv_aload_n hx hb dX10_mendsPair_48 rfl (lv_at hl 3 rfl) ?_
        refine m_getr (1000) 9 (1009) hx hb hts hown hE oc10 hM hJ.1 rfl (by decide) rfl (hJ.2 9 (by decide)).2 (by decide) tb_1186 dX10_mendsPair_49 ?_
        refine lv_iload_n hx hb dX10_mendsPair_52 rfl (lv_at hl 5 rfl) ?_
        refine m_iald (1009) hx hb hE hM (hJ.2 9 (by decide)).1 rfl (vp_in_iff.mpr (by omega)) dX10_mendsPair_53 ?_
        refine lv_iload hx hb dX10_mendsPair_54 (lv_at hl 2 rfl) ?_
        refine lv_icmp_eq (tgt := 99) hx hb dX10_mendsPair_56 (by decide) (fun c12 => ?_) (fun c12 => ?_)
        · have hc12 := c12
          have q12 := q_eq hc12
          obtain ⟨v13, ev13⟩ : ∃ z : Int32, z = x6_19 + Int32.ofInt (1) := ⟨_, rfl⟩
          have tv13 := a_inc ev13 (by decide) (by omega) (by omega)
          refine lv_iinc (v := v13) (lv' := [(6, .int (v13)), (5, .int (I (1009) (a2).toNatClampNeg)), (4, .int (I (1009) (a1).toNatClampNeg)), (0, .ref (ad (1000))), (1, .int (a0)), (2, .int (a1)), (3, .int (a2))]) hx hb dX10_mendsPair_99 hl (k := 0) rfl ev13.symm (by decide) rfl (fun ls hl => ?_)
          refine lv_goto (tgt := 19) hx hb dX10_mendsPair_102 (by decide) ?_
          exact ih19 (v13) (u2 (u2 Ia19 (1009) ((a1).toNatClampNeg) (v6)) (1009) ((a2).toNatClampNeg) (v9)) La19 _ _ ls hI hK (by first | omega | decide) zt11 (by omega) hM hS (lv_sub hl [0, 1, 2, 3, 4, 5, 6] rfl)
        · have hc12 := c12
          have q12 := q_ne hc12
          refine lv_aload_n hx hb dX10_mendsPair_59 rfl (lv_at hl 3 rfl) ?_
          refine m_getr (1000) 9 (1009) hx hb hts hown hE oc10 hM hJ.1 rfl (by decide) rfl (hJ.2 9 (by decide)).2 (by decide) tb_1186 dX10_mendsPair_60 ?_
          refine lv_iload_n hx hb dX10_mendsPair_63 rfl (lv_at hl 6 rfl) ?_
          refine m_iald (1009) hx hb hE hM (hJ.2 9 (by decide)).1 rfl (vp_in_iff.mpr (by omega)) dX10_mendsPair_64 ?_
          have z14 : (u2 (u2 Ia19 (1009) ((a1).toNatClampNeg) (v6)) (1009) ((a2).toNatClampNeg) (v9)) (1009) (a2).toNatClampNeg = v9 := (show (u2 (u2 Ia19 (1009) ((a1).toNatClampNeg) (v6)) (1009) ((a2).toNatClampNeg) (v9)) (1009) ((a2).toNatClampNeg) = v9 from by simp [u2_v])
          rw [z14]
          refine lv_iload hx hb dX10_mendsPair_65 (lv_at hl 1 rfl) ?_
          refine lv_icmp_eq (tgt := 99) hx hb dX10_mendsPair_67 (by decide) (fun c15 => ?_) (fun c15 => ?_)
          · have hc15 := c15
            have q15 := q_eq hc15
            obtain ⟨v16, ev16⟩ : ∃ z : Int32, z = x6_19 + Int32.ofInt (1) := ⟨_, rfl⟩
            have tv16 := a_inc ev16 (by decide) (by omega) (by omega)
            refine lv_iinc (v := v16) (lv' := [(6, .int (v16)), (5, .int (I (1009) (a2).toNatClampNeg)), (4, .int (I (1009) (a1).toNatClampNeg)), (0, .ref (ad (1000))), (1, .int (a0)), (2, .int (a1)), (3, .int (a2))]) hx hb dX10_mendsPair_99 hl (k := 0) rfl ev16.symm (by decide) rfl (fun ls hl => ?_)
            refine lv_goto (tgt := 19) hx hb dX10_mendsPair_102 (by decide) ?_
            exact ih19 (v16) (u2 (u2 Ia19 (1009) ((a1).toNatClampNeg) (v6)) (1009) ((a2).toNatClampNeg) (v9)) La19 _ _ ls hI hK (by first | omega | decide) zt11 (by omega) hM hS (lv_sub hl [0, 1, 2, 3, 4, 5, 6] rfl)
          · have hc15 := c15
            have q15 := q_ne hc15
            refine lv_aload_n hx hb dX10_mendsPair_70 rfl (lv_at hl 3 rfl) ?_
            refine lv_iload_n hx hb dX10_mendsPair_71 rfl (lv_at hl 4 rfl) ?_
            refine m_calli (m_runV (1000) (As := [.int (a0)]) (rest := []) hx hb hml hown hts hE hM hS hA ce_X10_isHalf tb_1769 (V_X10_isHalf_z l D A ad ns (u2 (u2 Ia19 (1009) ((a1).toNatClampNeg) (v6)) (1009) ((a2).toNatClampNeg) (v9)) La19 G (a0) hJ hI (by first | omega | decide)) rfl rfl ⟨Nat.le_of_ble_eq_true rfl, Nat.le_of_ble_eq_true rfl⟩ hJ.1 rfl rfl (by decide) rfl hl.1 rfl (Nat.le_of_ble_eq_true rfl) dX10_mendsPair_72 ⟨Nat.le_of_ble_eq_true rfl, Nat.le_of_ble_eq_true rfl⟩) hS (fun r17 u H locs hw hM hS => ?_)
            obtain ⟨I18, L19, rfl, hI, hkI18, xr17⟩ := hw
            have hM : Mem D A ad ns I18 L19 G H := hM
            have hK := hK.trans hkI18 rfl
            have zI18 := xr17.2
            replace xr17 := xr17.1
            have zt20 : Z59 I I18 := zt11.tr zI18
            refine lv_if_eq (tgt := 99) hx hb dX10_mendsPair_75 (by decide) (fun c21 => ?_) (fun c21 => ?_)
            · have hc21 := c21
              have q21 := q_eq hc21
              obtain ⟨v22, ev22⟩ : ∃ z : Int32, z = x6_19 + Int32.ofInt (1) := ⟨_, rfl⟩
              have tv22 := a_inc ev22 (by decide) (by omega) (by omega)
              refine lv_iinc (v := v22) (lv' := [(6, .int (v22)), (5, .int (I (1009) (a2).toNatClampNeg)), (4, .int (I (1009) (a1).toNatClampNeg)), (0, .ref (ad (1000))), (1, .int (a0)), (2, .int (a1)), (3, .int (a2))]) hx hb dX10_mendsPair_99 hl (k := 0) rfl ev22.symm (by decide) rfl (fun ls hl => ?_)
              refine lv_goto (tgt := 19) hx hb dX10_mendsPair_102 (by decide) ?_
              exact ih19 (v22) I18 L19 _ _ ls hI hK (by first | omega | decide) zt20 (by omega) hM hS (lv_sub hl [0, 1, 2, 3, 4, 5, 6] rfl)
            · have hc21 := c21
              have q21 := q_ne hc21
              refine lv_aload_n hx hb dX10_mendsPair_78 rfl (lv_at hl 3 rfl) ?_
              refine lv_iconst (v := (2)) hx hb dX10_mendsPair_79 (by decide) ?_
              refine lv_iload_n hx hb dX10_mendsPair_80 rfl (lv_at hl 5 rfl) ?_
              refine lv_aload_n hx hb dX10_mendsPair_81 rfl (lv_at hl 3 rfl) ?_
              refine m_getr (1000) 9 (1009) hx hb hts hown hE oc10 hM hJ.1 rfl (by decide) rfl (hJ.2 9 (by decide)).2 (by decide) tb_1186 dX10_mendsPair_82 ?_
              refine lv_iload_n hx hb dX10_mendsPair_85 rfl (lv_at hl 5 rfl) ?_
              refine m_iald (1009) hx hb hE hM (hJ.2 9 (by decide)).1 rfl (vp_in_iff.mpr (by omega)) dX10_mendsPair_86 ?_
              have z23 : I18 (1009) (a1).toNatClampNeg = (u2 (u2 Ia19 (1009) ((a1).toNatClampNeg) (v6)) (1009) ((a2).toNatClampNeg) (v9)) (1009) ((a1).toNatClampNeg) := (congrFun (hkI18.getA (1009) rfl) ((a1).toNatClampNeg))
              rw [z23]
              refine lv_iload_n hx hb dX10_mendsPair_87 rfl (lv_at hl 6 rfl) ?_
              refine lv_aload_n hx hb dX10_mendsPair_88 rfl (lv_at hl 3 rfl) ?_
              refine m_getr (1000) 9 (1009) hx hb hts hown hE oc10 hM hJ.1 rfl (by decide) rfl (hJ.2 9 (by decide)).2 (by decide) tb_1186 dX10_mendsPair_89 ?_
              refine lv_iload_n hx hb dX10_mendsPair_92 rfl (lv_at hl 6 rfl) ?_
              refine m_iald (1009) hx hb hE hM (hJ.2 9 (by decide)).1 rfl (vp_in_iff.mpr (by omega)) dX10_mendsPair_93 ?_
              have z24 : I18 (1009) (a2).toNatClampNeg = v9 := ((congrFun (hkI18.getA (1009) rfl) ((a2).toNatClampNeg))).trans (show (u2 (u2 Ia19 (1009) ((a1).toNatClampNeg) (v6)) (1009) ((a2).toNatClampNeg) (v9)) (1009) ((a2).toNatClampNeg) = v9 from by simp [u2_v])
              rw [z24]
              refine m_callv (m_runV (1000) (As := [.int (2), .int (a1), .int ((u2 (u2 Ia19 (1009) ((a1).toNatClampNeg) (v6)) (1009) ((a2).toNatClampNeg) (v9)) (1009) ((a1).toNatClampNeg)), .int (a2), .int (v9)]) (rest := []) hx hb hml hown hts hE hM hS hA ce_X10_isMended tb_1765 (V_X10_isMended l D A ad ns I18 L19 G (2) (a1) ((u2 (u2 Ia19 (1009) ((a1).toNatClampNeg) (v6)) (1009) ((a2).toNatClampNeg) (v9)) (1009) ((a1).toNatClampNeg)) (a2) (v9) hJ hI) rfl rfl ⟨Nat.le_of_ble_eq_true rfl, Nat.le_of_ble_eq_true rfl⟩ hJ.1 rfl rfl (by decide) rfl hl.1 rfl (Nat.le_of_ble_eq_true rfl) dX10_mendsPair_94 ⟨Nat.le_of_ble_eq_true rfl, Nat.le_of_ble_eq_true rfl⟩) hS (fun u H locs hw hM hS => ?_)
              obtain ⟨I25, L26, rfl, hI, hkI25⟩ := hw
              have hM : Mem D A ad ns I25 L26 G H := hM
              have hK := hK.trans hkI25 rfl
              have zt27 : Z59 I I25 := zt20.eq (hkI25.get 1000 59 rfl)
              refine lv_iconst (v := (1)) hx hb dX10_mendsPair_97 (by decide) ?_
              exact m_zret hx hb hr rfl hlocks hM hS (Nat.le_of_ble_eq_true rfl) (Nat.le_of_ble_eq_true rfl) ⟨_, _, rfl, hI, hK, ⟨(by first | omega | decide), zt27⟩⟩ dX10_mendsPair_98
  exact loop19 (_ + 1) (0) I L _ _ ls hI hK (by first | omega | decide) Z59.rf (Nat.lt_succ_self _) hM hS (lv_sub hl [0, 1, 2, 3, 4, 5, 6] rfl)
set_option maxHeartbeats 4000000 in
set_option maxRecDepth 20000 in
theorem V_X10_mendsTwo_z (l : Launch) (D : va_G) (A : Nat → Prop) (ad : Nat → Nat) (ns : List Nat) (I : MI) (L : ML) (G : MG) (a0 : Int32) (hJ : SGM ns G) (hI : INV I) (ha0 : 0 ≤ a0.toInt ∧ a0.toInt ≤ 23) : Met l yX10_mendsTwo (wd yX10_mendsTwo cX10_mendsTwo 4 (some .boolean)) ({ frames := 7, cells := 0, slots := 0, locals := 177 }) (va_Pc [.ref (ad (1000)), .int a0] (PM D A ad ns I L G)) (va_Qi (fun r u => ∃ I2 L2, u = (ad, ns, I2, L2, G) ∧ INV I2 ∧ Kp [(1009, 1010), (1045, 1051), (1058, 1059), (1061, 1063)] [(1000, 51), (1000, 52), (1000, 53), (1000, 54), (1000, 55), (1000, 56), (1000, 59), (1000, 63), (1073, 0), (1073, 1), (1073, 2), (1073, 3), (1073, 4)] I I2 ∧ ((0 ≤ r.toInt ∧ r.toInt ≤ 1) ∧ Z59 I I2)) (BM D A) A) 0 0 A := by
  refine m_ofW (by decide) (Nat.le_of_ble_eq_true rfl) ?_
  intro p e s m below meth c ls args hC hE hM hA hS hl
  obtain ⟨hx, hb, hml, hown, hts, hr, hlocks, hin⟩ := hC
  have k0 : (0 : Int32).toInt = 0 := by decide
  have k1 : (1 : Int32).toInt = 1 := by decide
  have k8 : (8 : Int32).toInt = 8 := by decide
  have hK : Kp [(1009, 1010), (1045, 1051), (1058, 1059), (1061, 1063)] [(1000, 51), (1000, 52), (1000, 53), (1000, 54), (1000, 55), (1000, 56), (1000, 59), (1000, 63), (1073, 0), (1073, 1), (1073, 2), (1073, 3), (1073, 4)] I I := Kp.rf
  have hl : lv_has ls 4 [(0, .ref (ad (1000))), (1, .int (a0))] := hl
  refine lv_iconst (v := (0)) hx hb dX10_mendsTwo_0 (by decide) ?_
  refine lv_istore_n (lv' := [(2, .int (0)), (0, .ref (ad (1000))), (1, .int (a0))]) hx hb dX10_mendsTwo_1 rfl hl (by decide) rfl (fun ls hl => ?_)
  have loop2 : ∀ (n : Nat) (x2_2 : Int32) (Ia2 : MI) (La2 : ML) (H : Heap) (locs : List Loc) (ls : Array Slot), INV Ia2 → Kp [(1009, 1010), (1045, 1051), (1058, 1059), (1061, 1063)] [(1000, 51), (1000, 52), (1000, 53), (1000, 54), (1000, 55), (1000, 56), (1000, 59), (1000, 63), (1073, 0), (1073, 1), (1073, 2), (1073, 3), (1073, 4)] I Ia2 → (0 ≤ x2_2.toInt ∧ x2_2.toInt ≤ 24) → (Z59 I Ia2) → (24 - x2_2.toInt).toNat < n → Mem D A ad ns Ia2 La2 G H → va_S A s.heap H locs → lv_has ls 4 [(2, .int (x2_2)), (0, .ref (ad (1000))), (1, .int (a0))] → W p l e ({ frames := 7, cells := 0, slots := 0, locals := 177 } : Room) s m args below meth c H locs 0 0 (MQ below (va_Qi (fun r u => ∃ I2 L2, u = (ad, ns, I2, L2, G) ∧ INV I2 ∧ Kp [(1009, 1010), (1045, 1051), (1058, 1059), (1061, 1063)] [(1000, 51), (1000, 52), (1000, 53), (1000, 54), (1000, 55), (1000, 56), (1000, 59), (1000, 63), (1073, 0), (1073, 1), (1073, 2), (1073, 3), (1073, 4)] I I2 ∧ ((0 ≤ r.toInt ∧ r.toInt ≤ 1) ∧ Z59 I I2)) (BM D A) A) args s 0 0 A) (F0 m 2 ls []) := by
    intro n
    induction n with
    | zero =>
      intro x2_2 Ia2 La2 H locs ls hI hK hr2_2 zz2 hmu
      exact absurd hmu (Nat.not_lt_zero _)
    | succ n ih2 =>
      intro x2_2 Ia2 La2 H locs ls hI hK hr2_2 zz2 hmu2 hM hS hl
      refine lv_iload_n hx hb dX10_mendsTwo_2 rfl (lv_at hl 0 rfl) ?_
      refine lv_aload_n hx hb dX10_mendsTwo_3 rfl (lv_at hl 1 rfl) ?_
      refine m_getr (1000) 1 (1001) hx hb hts hown hE oc10 hM hJ.1 rfl (by decide) rfl (hJ.2 1 (by decide)).2 (by decide) tb_1178 dX10_mendsTwo_4 ?_
      refine lv_bipush (v := (8)) hx hb dX10_mendsTwo_7 (by decide) ?_
      refine m_iald (1001) hx hb hE hM (hJ.2 1 (by decide)).1 rfl (vp_in_iff.mpr (by decide)) dX10_mendsTwo_9 ?_
      rw [show (8 : Int32).toNatClampNeg = 8 from rfl]
      have g1 := hI.get (1001) 8 (lo := 0) (hi := 24) rfl
      refine lv_icmp_ge (tgt := 70) hx hb dX10_mendsTwo_10 (by decide) (fun c2 => ?_) (fun c2 => ?_)
      · have hc2 := c2
        have q2 := q_le hc2
        refine lv_iconst (v := (0)) hx hb dX10_mendsTwo_70 (by decide) ?_
        exact m_zret hx hb hr rfl hlocks hM hS (Nat.le_of_ble_eq_true rfl) (Nat.le_of_ble_eq_true rfl) ⟨_, _, rfl, hI, hK, ⟨(by first | omega | decide), zz2⟩⟩ dX10_mendsTwo_71
      · have hc2 := c2
        have q2 := q_nle hc2
        refine lv_iload_n hx hb dX10_mendsTwo_13 rfl (lv_at hl 0 rfl) ?_
        refine lv_iconst (v := (1)) hx hb dX10_mendsTwo_14 (by decide) ?_
        refine lv_iadd hx hb dX10_mendsTwo_15 ?_
        refine lv_topi (fun v3 ev3 => ?_)
        have tv3 := a_add ev3 (by omega) (by omega)
        refine lv_istore_n (lv' := [(3, .int (v3)), (2, .int (x2_2)), (0, .ref (ad (1000))), (1, .int (a0))]) hx hb dX10_mendsTwo_16 rfl hl (by decide) rfl (fun ls hl => ?_)
        have loop17 : ∀ (n : Nat) (x3_17 : Int32) (Ia17 : MI) (La17 : ML) (H : Heap) (locs : List Loc) (ls : Array Slot), INV Ia17 → Kp [(1009, 1010), (1045, 1051), (1058, 1059), (1061, 1063)] [(1000, 51), (1000, 52), (1000, 53), (1000, 54), (1000, 55), (1000, 56), (1000, 59), (1000, 63), (1073, 0), (1073, 1), (1073, 2), (1073, 3), (1073, 4)] I Ia17 → (0 ≤ x3_17.toInt ∧ x3_17.toInt ≤ 24) → (Z59 I Ia17) → (24 - x3_17.toInt).toNat < n → Mem D A ad ns Ia17 La17 G H → va_S A s.heap H locs → lv_has ls 4 [(3, .int (x3_17)), (2, .int (x2_2)), (0, .ref (ad (1000))), (1, .int (a0))] → W p l e ({ frames := 7, cells := 0, slots := 0, locals := 177 } : Room) s m args below meth c H locs 0 0 (MQ below (va_Qi (fun r u => ∃ I2 L2, u = (ad, ns, I2, L2, G) ∧ INV I2 ∧ Kp [(1009, 1010), (1045, 1051), (1058, 1059), (1061, 1063)] [(1000, 51), (1000, 52), (1000, 53), (1000, 54), (1000, 55), (1000, 56), (1000, 59), (1000, 63), (1073, 0), (1073, 1), (1073, 2), (1073, 3), (1073, 4)] I I2 ∧ ((0 ≤ r.toInt ∧ r.toInt ≤ 1) ∧ Z59 I I2)) (BM D A) A) args s 0 0 A) (F0 m 17 ls []) := by
          intro n
          induction n with
          | zero =>
            intro x3_17 Ia17 La17 H locs ls hI hK hr3_17 zz17 hmu
            exact absurd hmu (Nat.not_lt_zero _)
          | succ n ih17 =>
            intro x3_17 Ia17 La17 H locs ls hI hK hr3_17 zz17 hmu17 hM hS hl
            refine lv_iload_n hx hb dX10_mendsTwo_17 rfl (lv_at hl 0 rfl) ?_
            refine lv_aload_n hx hb dX10_mendsTwo_18 rfl (lv_at hl 2 rfl) ?_
            refine m_getr (1000) 1 (1001) hx hb hts hown hE oc10 hM hJ.1 rfl (by decide) rfl (hJ.2 1 (by decide)).2 (by decide) tb_1178 dX10_mendsTwo_19 ?_
            refine lv_bipush (v := (8)) hx hb dX10_mendsTwo_22 (by decide) ?_
            refine m_iald (1001) hx hb hE hM (hJ.2 1 (by decide)).1 rfl (vp_in_iff.mpr (by decide)) dX10_mendsTwo_24 ?_
            rw [show (8 : Int32).toNatClampNeg = 8 from rfl]
            have g4 := hI.get (1001) 8 (lo := 0) (hi := 24) rfl
            refine lv_icmp_ge (tgt := 64) hx hb dX10_mendsTwo_25 (by decide) (fun c5 => ?_) (fun c5 => ?_)
            · have hc5 := c5
              have q5 := q_le hc5
              obtain ⟨v6, ev6⟩ : ∃ z : Int32, z = x2_2 + Int32.ofInt (1) := ⟨_, rfl⟩
              have tv6 := a_inc ev6 (by decide) (by omega) (by omega)
              refine lv_iinc (v := v6) (lv' := [(2, .int (v6)), (3, .int (x3_17)), (0, .ref (ad (1000))), (1, .int (a0))]) hx hb dX10_mendsTwo_64 hl (k := 1) rfl ev6.symm (by decide) rfl (fun ls hl => ?_)
              refine lv_goto (tgt := 2) hx hb dX10_mendsTwo_67 (by decide) ?_
              exact ih2 (v6) Ia17 La17 _ _ ls hI hK (by first | omega | decide) zz17 (by omega) hM hS (lv_sub hl [0, 2, 3] rfl)
            · have hc5 := c5
              have q5 := q_nle hc5
              refine lv_aload_n hx hb dX10_mendsTwo_28 rfl (lv_at hl 2 rfl) ?_
              refine m_getr (1000) 15 (1015) hx hb hts hown hE oc10 hM hJ.1 rfl (by decide) rfl (hJ.2 15 (by decide)).2 (by decide) tb_1192 dX10_mendsTwo_29 ?_
              refine lv_iload_n hx hb dX10_mendsTwo_32 rfl (lv_at hl 1 rfl) ?_
              refine m_iald (1015) hx hb hE hM (hJ.2 15 (by decide)).1 rfl (vp_in_iff.mpr (by omega)) dX10_mendsTwo_33 ?_
              refine lv_if_ne (tgt := 58) hx hb dX10_mendsTwo_34 (by decide) (fun c7 => ?_) (fun c7 => ?_)
              · have hc7 := c7
                have q7 := q_ne hc7
                obtain ⟨v8, ev8⟩ : ∃ z : Int32, z = x3_17 + Int32.ofInt (1) := ⟨_, rfl⟩
                have tv8 := a_inc ev8 (by decide) (by omega) (by omega)
                refine lv_iinc (v := v8) (lv' := [(3, .int (v8)), (2, .int (x2_2)), (0, .ref (ad (1000))), (1, .int (a0))]) hx hb dX10_mendsTwo_58 hl (k := 0) rfl ev8.symm (by decide) rfl (fun ls hl => ?_)
                refine lv_goto (tgt := 17) hx hb dX10_mendsTwo_61 (by decide) ?_
                exact ih17 (v8) Ia17 La17 _ _ ls hI hK (by first | omega | decide) zz17 (by omega) hM hS (lv_sub hl [0, 1, 2, 3] rfl)
              · have hc7 := c7
                have q7 := q_eq hc7
                refine lv_aload_n hx hb dX10_mendsTwo_37 rfl (lv_at hl 2 rfl) ?_
                refine m_getr (1000) 15 (1015) hx hb hts hown hE oc10 hM hJ.1 rfl (by decide) rfl (hJ.2 15 (by decide)).2 (by decide) tb_1192 dX10_mendsTwo_38 ?_
                refine lv_iload_n hx hb dX10_mendsTwo_41 rfl (lv_at hl 0 rfl) ?_
                refine m_iald (1015) hx hb hE hM (hJ.2 15 (by decide)).1 rfl (vp_in_iff.mpr (by omega)) dX10_mendsTwo_42 ?_
                refine lv_if_ne (tgt := 58) hx hb dX10_mendsTwo_43 (by decide) (fun c9 => ?_) (fun c9 => ?_)
                · have hc9 := c9
                  have q9 := q_ne hc9
                  obtain ⟨v10, ev10⟩ : ∃ z : Int32, z = x3_17 + Int32.ofInt (1) := ⟨_, rfl⟩
                  have tv10 := a_inc ev10 (by decide) (by omega) (by omega)
                  refine lv_iinc (v := v10) (lv' := [(3, .int (v10)), (2, .int (x2_2)), (0, .ref (ad (1000))), (1, .int (a0))]) hx hb dX10_mendsTwo_58 hl (k := 0) rfl ev10.symm (by decide) rfl (fun ls hl => ?_)
                  refine lv_goto (tgt := 17) hx hb dX10_mendsTwo_61 (by decide) ?_
                  exact ih17 (v10) Ia17 La17 _ _ ls hI hK (by first | omega | decide) zz17 (by omega) hM hS (lv_sub hl [0, 1, 2, 3] rfl)
                · have hc9 := c9
                  have q9 := q_eq hc9
                  refine lv_aload_n hx hb dX10_mendsTwo_46 rfl (lv_at hl 2 rfl) ?_
                  refine lv_iload_n hx hb dX10_mendsTwo_47 rfl (lv_at hl 3 rfl) ?_
                  refine lv_iload_n hx hb dX10_mendsTwo_48 rfl (lv_at hl 1 rfl) ?_
                  refine lv_iload_n hx hb dX10_mendsTwo_49 rfl (lv_at hl 0 rfl) ?_
                  refine m_calli (m_runV (1000) (As := [.int (a0), .int (x2_2), .int (x3_17)]) (rest := []) hx hb hml hown hts hE hM hS hA ce_X10_mendsPair tb_1781 (V_X10_mendsPair_z l D A ad ns Ia17 La17 G (a0) (x2_2) (x3_17) hJ hI (by first | omega | decide) (by first | omega | decide) (by first | omega | decide)) rfl rfl ⟨Nat.le_of_ble_eq_true rfl, Nat.le_of_ble_eq_true rfl⟩ hJ.1 rfl rfl (by decide) rfl hl.1 rfl (Nat.le_of_ble_eq_true rfl) dX10_mendsTwo_50 ⟨Nat.le_of_ble_eq_true rfl, Nat.le_of_ble_eq_true rfl⟩) hS (fun r11 u H locs hw hM hS => ?_)
                  obtain ⟨I12, L13, rfl, hI, hkI12, xr11⟩ := hw
                  have hM : Mem D A ad ns I12 L13 G H := hM
                  have hK := hK.trans hkI12 rfl
                  have zI12 := xr11.2
                  replace xr11 := xr11.1
                  have zt14 : Z59 I I12 := zz17.tr zI12
                  refine lv_if_eq (tgt := 58) hx hb dX10_mendsTwo_53 (by decide) (fun c15 => ?_) (fun c15 => ?_)
                  · have hc15 := c15
                    have q15 := q_eq hc15
                    obtain ⟨v16, ev16⟩ : ∃ z : Int32, z = x3_17 + Int32.ofInt (1) := ⟨_, rfl⟩
                    have tv16 := a_inc ev16 (by decide) (by omega) (by omega)
                    refine lv_iinc (v := v16) (lv' := [(3, .int (v16)), (2, .int (x2_2)), (0, .ref (ad (1000))), (1, .int (a0))]) hx hb dX10_mendsTwo_58 hl (k := 0) rfl ev16.symm (by decide) rfl (fun ls hl => ?_)
                    refine lv_goto (tgt := 17) hx hb dX10_mendsTwo_61 (by decide) ?_
                    exact ih17 (v16) I12 L13 _ _ ls hI hK (by first | omega | decide) zt14 (by omega) hM hS (lv_sub hl [0, 1, 2, 3] rfl)
                  · have hc15 := c15
                    have q15 := q_ne hc15
                    refine lv_iconst (v := (1)) hx hb dX10_mendsTwo_56 (by decide) ?_
                    exact m_zret hx hb hr rfl hlocks hM hS (Nat.le_of_ble_eq_true rfl) (Nat.le_of_ble_eq_true rfl) ⟨_, _, rfl, hI, hK, ⟨(by first | omega | decide), zt14⟩⟩ dX10_mendsTwo_57
        exact loop17 (_ + 1) (v3) Ia2 La2 _ _ ls hI hK (by first | omega | decide) zz2 (Nat.lt_succ_self _) hM hS (lv_sub hl [0, 1, 2, 3] rfl)
  exact loop2 (_ + 1) (0) I L _ _ ls hI hK (by first | omega | decide) Z59.rf (Nat.lt_succ_self _) hM hS (lv_sub hl [0, 1, 2] rfl)
