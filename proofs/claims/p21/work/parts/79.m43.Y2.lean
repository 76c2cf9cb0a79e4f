set_option maxHeartbeats 4000000 in
set_option maxRecDepth 20000 in
theorem V_X10_turns_y (l : Launch) (D : va_G) (A : Nat → Prop) (ad : Nat → Nat) (ns : List Nat) (I : MI) (L : ML) (G : MG) (lw : LWt) (a0 : Int32) (a1 : Int32) (a2 : Int32) (hJ : SGM ns G) (hI : INV I) (hLR : LRL lw I (a0).toNatClampNeg) (hLF : LWF lw) (hkm : a2.toInt < (I 1001 8).toInt) (hgz : ∀ j : Nat, (I 1001 9).toNatClampNeg ≤ j → j < 8 → I 1064 j = 0) (hsr : 0 ≤ (I 1009 (a2).toNatClampNeg).toInt ∧ (I 1009 (a2).toNatClampNeg).toInt ≤ 7) (hrr : 0 ≤ (I 1012 (a2).toNatClampNeg).toInt ∧ (I 1012 (a2).toNatClampNeg).toInt ≤ 4) (ha0 : 0 ≤ a0.toInt ∧ a0.toInt ≤ 5) (ha1 : 0 ≤ a1.toInt ∧ a1.toInt ≤ 23) (ha2 : 0 ≤ a2.toInt ∧ a2.toInt ≤ 23) : Met l yX10_turns (wd yX10_turns cX10_turns 9 none) ({ frames := 3, cells := 0, slots := 0, locals := 71 }) (va_Pc [.ref (ad (1000)), .int a0, .int a1, .int a2] (PM D A ad ns I L G)) (va_Qv (fun u => ∃ I2 L2, u = (ad, ns, I2, L2, G) ∧ INV I2 ∧ Kp [(1009, 1010)] [] I I2 ∧ (EqV (stV (live I) 9 (a2).toNatClampNeg (slA (live I) a1 (I 1064) lw (a2).toNatClampNeg (lw 0 5).toNatClampNeg)) (live I2))) (BM D A) A) 0 0 A := by
  refine m_ofW (by decide) (Nat.le_of_ble_eq_true rfl) ?_
  intro p e s m below meth c ls args hC hE hM hA hS hl
  obtain ⟨hx, hb, hml, hown, hts, hr, hlocks, hin⟩ := hC
  have k0 : (0 : Int32).toInt = 0 := by decide
  have k4 : (4 : Int32).toInt = 4 := by decide
  have k8 : (8 : Int32).toInt = 8 := by decide
  have k12 : (12 : Int32).toInt = 12 := by decide
  have kl1 : (1 : Int64).toInt = 1 := by decide
  have kl7 : (7 : Int64).toInt = 7 := by decide
  have kl0 : (0 : Int64).toInt = 0 := rfl
  have kl1 : (1 : Int64).toInt = 1 := rfl
  have hK : Kp [(1009, 1010)] [] I I := Kp.rf
  have hl : lv_has ls 9 [(0, .ref (ad (1000))), (1, .int (a0)), (2, .int (a1)), (3, .int (a2))] := hl
  refine lv_bipush (v := (12)) hx hb dX10_turns_0 (by decide) ?_
  refine lv_iload_n hx hb dX10_turns_2 rfl (lv_at hl 1 rfl) ?_
  refine lv_imul hx hb dX10_turns_3 ?_
  refine lv_topi (fun v1 ev1 => ?_)
  have tv1 := a_mulL (c := 12) ev1 (by decide) (by omega) (by omega)
  refine lv_istore (lv' := [(4, .int (v1)), (0, .ref (ad (1000))), (1, .int (a0)), (2, .int (a1)), (3, .int (a2))]) hx hb dX10_turns_4 hl (by decide) rfl (fun ls hl => ?_)
  have loop6 : ∀ (n : Nat) (x4_6 : Int32) (Ia6 : MI) (La6 : ML) (H : Heap) (locs : List Loc) (ls : Array Slot), INV Ia6 → Kp [(1009, 1010)] [] I Ia6 → (0 ≤ x4_6.toInt ∧ x4_6.toInt ≤ 72) → (12 * a0.toInt ≤ (x4_6).toInt) → ((x4_6).toInt ≤ 12 * a0.toInt + (lw 0 5).toInt) → (Ia6 = I) → (fsf (firV (live I) a1 (I 1064) lw (a2).toNatClampNeg) ((x4_6).toInt - 12 * a0.toInt).toNat = none) → (72 - x4_6.toInt).toNat < n → Mem D A ad ns Ia6 La6 G H → va_S A s.heap H locs → lv_has ls 9 [(4, .int (x4_6)), (0, .ref (ad (1000))), (1, .int (a0)), (2, .int (a1)), (3, .int (a2))] → W p l e ({ frames := 3, cells := 0, slots := 0, locals := 71 } : Room) s m args below meth c H locs 0 0 (MQ below (va_Qv (fun u => ∃ I2 L2, u = (ad, ns, I2, L2, G) ∧ INV I2 ∧ Kp [(1009, 1010)] [] I I2 ∧ (EqV (stV (live I) 9 (a2).toNatClampNeg (slA (live I) a1 (I 1064) lw (a2).toNatClampNeg (lw 0 5).toNatClampNeg)) (live I2))) (BM D A) A) args s 0 0 A) (F0 m 6 ls []) := by
    intro n
    induction n with
    | zero =>
      intro x4_6 Ia6 La6 H locs ls hI hK hr4_6 h12 hc6 hI6 hn6 hmu
      exact absurd hmu (Nat.not_lt_zero _)
    | succ n ih6 =>
      intro x4_6 Ia6 La6 H locs ls hI hK hr4_6 h12 hc6 hI6 hn6 hmu6 hM hS hl
      have u37 : (Ia6 1037 (a0).toNatClampNeg).toInt = (lw 0 5).toInt := by rw [hI6]; exact congrArg Int32.toInt hLR.1
      have hl5 := hLF.1
      have hl6 := hLF.2.1
      have hl6b := hLR.2.2.1
      have hs9 : 0 ≤ (Ia6 1009 (a2).toNatClampNeg).toInt ∧ (Ia6 1009 (a2).toNatClampNeg).toInt ≤ 7 := by rw [hI6]; exact hsr
      have hs12 : 0 ≤ (Ia6 1012 (a2).toNatClampNeg).toInt ∧ (Ia6 1012 (a2).toNatClampNeg).toInt ≤ 4 := by rw [hI6]; exact hrr
      have h9I : (Ia6 1009 (a2).toNatClampNeg).toInt = (I 1009 (a2).toNatClampNeg).toInt := by rw [hI6]
      have h12I : (Ia6 1012 (a2).toNatClampNeg).toInt = (I 1012 (a2).toNatClampNeg).toInt := by rw [hI6]
      refine lv_iload hx hb dX10_turns_6 (lv_at hl 0 rfl) ?_
      refine lv_bipush (v := (12)) hx hb dX10_turns_8 (by decide) ?_
      refine lv_iload_n hx hb dX10_turns_10 rfl (lv_at hl 2 rfl) ?_
      refine lv_imul hx hb dX10_turns_11 ?_
      refine lv_topi (fun v2 ev2 => ?_)
      have tv2 := a_mulL (c := 12) ev2 (by decide) (by omega) (by omega)
      refine lv_aload_n hx hb dX10_turns_12 rfl (lv_at hl 1 rfl) ?_
      refine m_getr (1000) 37 (1037) hx hb hts hown hE oc10 hM hJ.1 rfl (by decide) rfl (hJ.2 37 (by decide)).2 (by decide) tb_1214 dX10_turns_13 ?_
      refine lv_iload_n hx hb dX10_turns_16 rfl (lv_at hl 2 rfl) ?_
      refine m_iald (1037) hx hb hE hM (hJ.2 37 (by decide)).1 rfl (vp_in_iff.mpr (by omega)) dX10_turns_17 ?_
      refine lv_iadd hx hb dX10_turns_18 ?_
      refine lv_topi (fun v3 ev3 => ?_)
      have tv3 := a_add ev3 (by omega) (by omega)
      refine lv_icmp_ge (tgt := 205) hx hb dX10_turns_19 (by decide) (fun c4 => ?_) (fun c4 => ?_)
      · have hc4 := c4
        have q4 := q_le hc4
        have za0 := tn (i := a0) (by omega)
        have z4 := tn (i := x4_6) (by omega)
        have zl5 := tn (i := lw 0 5) (by omega)
        have hn9 := hn6
        rw [show ((x4_6).toInt - 12 * a0.toInt).toNat = (lw 0 5).toNatClampNeg from by omega] at hn9
        exact m_vret hx hb hr hlocks hM hS (Nat.le_of_ble_eq_true rfl) (Nat.le_of_ble_eq_true rfl) ⟨_, _, rfl, hI, hK, (by rw [slA_n hn9, show Ia6 = I from hI6, stV_same (V := live I) rfl]; exact EqV.rf)⟩ dX10_turns_205
      · have hc4 := c4
        have q4 := q_nle hc4
        obtain ⟨i6, hi6⟩ : ∃ z : Nat, z = ((x4_6).toInt - 12 * a0.toInt).toNat := ⟨_, rfl⟩
        have za0 := tn (i := a0) (by omega)
        have z4 := tn (i := x4_6) (by omega)
        have zl5 := tn (i := lw 0 5) (by omega)
        have hil : i6 < (lw 0 5).toNatClampNeg := by omega
        have hix : (x4_6).toNatClampNeg = 12 * (a0).toNatClampNeg + i6 := by omega
        obtain ⟨r38, r39, r40, r41⟩ := hLR.2.1 i6 hil
        have u38 : Ia6 1038 (x4_6).toNatClampNeg = lw 2 i6 := by rw [hI6, hix]; exact r38
        have u39 : Ia6 1039 (x4_6).toNatClampNeg = lw 3 i6 := by rw [hI6, hix]; exact r39
        have u40 : Ia6 1040 (x4_6).toNatClampNeg = lw 4 i6 := by rw [hI6, hix]; exact r40
        have u41 : Ia6 1041 (x4_6).toNatClampNeg = lw 5 i6 := by rw [hI6, hix]; exact r41
        have hx6 := hLF.2.2 i6 hil
        have hb6 := hx6.2.1
        have hm6 := hx6.1
        have t38 := congrArg Int32.toInt u38
        have t39 := congrArg Int32.toInt u39
        have t40 := congrArg Int32.toInt u40
        have t41 := congrArg Int32.toInt u41
        have hn0 := hn6
        rw [← hi6] at hn0
        refine lv_aload_n hx hb dX10_turns_22 rfl (lv_at hl 1 rfl) ?_
        refine m_getr (1000) 38 (1038) hx hb hts hown hE oc10 hM hJ.1 rfl (by decide) rfl (hJ.2 38 (by decide)).2 (by decide) tb_1215 dX10_turns_23 ?_
        refine lv_iload hx hb dX10_turns_26 (lv_at hl 0 rfl) ?_
        refine m_iald (1038) hx hb hE hM (hJ.2 38 (by decide)).1 rfl (vp_in_iff.mpr (by omega)) dX10_turns_28 ?_
        refine lv_iload_n hx hb dX10_turns_29 rfl (lv_at hl 4 rfl) ?_
        refine lv_icmp_ne (tgt := 199) hx hb dX10_turns_30 (by decide) (fun c5 => ?_) (fun c5 => ?_)
        · have hc5 := c5
          have q5 := q_ne hc5
          obtain ⟨v6, ev6⟩ : ∃ z : Int32, z = x4_6 + Int32.ofInt (1) := ⟨_, rfl⟩
          have tv6 := a_inc ev6 (by decide) (by omega) (by omega)
          refine lv_iinc (v := v6) (lv' := [(4, .int (v6)), (0, .ref (ad (1000))), (1, .int (a0)), (2, .int (a1)), (3, .int (a2))]) hx hb dX10_turns_199 hl (k := 0) rfl ev6.symm (by decide) rfl (fun ls hl => ?_)
          refine lv_goto (tgt := 6) hx hb dX10_turns_202 (by decide) ?_
          exact ih6 (v6) Ia6 La6 _ _ ls hI hK (by first | omega | decide) (by omega) (by omega) hI6 (by have z9 := tn (i := v6) (by omega); rw [show ((v6).toInt - 12 * a0.toInt).toNat = i6 + 1 from (by omega)]; exact fsf_n hn0 (fun z => by have z1 := z.1; have z2 := tn (i := lw 2 i6) (by omega); have z3 := tn (i := a2) (by omega); omega)) (by omega) hM hS (lv_sub hl [0, 1, 2, 3, 4] rfl)
        · have hc5 := c5
          have q5 := q_eq hc5
          refine lv_aload_n hx hb dX10_turns_33 rfl (lv_at hl 1 rfl) ?_
          refine lv_iload_n hx hb dX10_turns_34 rfl (lv_at hl 3 rfl) ?_
          refine lv_iload_n hx hb dX10_turns_35 rfl (lv_at hl 4 rfl) ?_
          refine m_callv (m_runV (1000) (As := [.int (a1), .int (a2)]) (rest := []) hx hb hml hown hts hE hM hS hA ce_X10_asks tb_1621 (V_X10_asks_y l D A ad ns Ia6 La6 G (a1) (a2) hJ hI (by rw [hI6]; exact hkm) (by rw [hI6]; exact hgz) (by first | omega | decide) (by first | omega | decide)) rfl rfl ⟨Nat.le_of_ble_eq_true rfl, Nat.le_of_ble_eq_true rfl⟩ hJ.1 rfl rfl (by decide) rfl hl.1 rfl (Nat.le_of_ble_eq_true rfl) dX10_turns_36 ⟨Nat.le_of_ble_eq_true rfl, Nat.le_of_ble_eq_true rfl⟩) hS (fun u H locs hw hM hS => ?_)
          obtain ⟨I7, L8, rfl, hI, hkI7, xI7⟩ := hw
          have hM : Mem D A ad ns I7 L8 G H := hM
          have hK := hK.trans hkI7 rfl
          have hask := xI7
          rw [hI6] at hask
          refine lv_aload_n hx hb dX10_turns_39 rfl (lv_at hl 1 rfl) ?_
          refine m_getr (1000) 40 (1040) hx hb hts hown hE oc10 hM hJ.1 rfl (by decide) rfl (hJ.2 40 (by decide)).2 (by decide) tb_1217 dX10_turns_40 ?_
          refine lv_iload hx hb dX10_turns_43 (lv_at hl 0 rfl) ?_
          refine m_iald (1040) hx hb hE hM (hJ.2 40 (by decide)).1 rfl (vp_in_iff.mpr (by omega)) dX10_turns_45 ?_
          have g9 := hI.get (1040) ((x4_6).toNatClampNeg) (lo := 0) (hi := 300) rfl
          have z10 : I7 (1040) (x4_6).toNatClampNeg = Ia6 (1040) ((x4_6).toNatClampNeg) := (congrFun (hkI7.getA (1040) rfl) ((x4_6).toNatClampNeg))
          rw [z10] at g9 ⊢
          refine lv_aload_n hx hb dX10_turns_46 rfl (lv_at hl 1 rfl) ?_
          refine m_getr (1000) 41 (1041) hx hb hts hown hE oc10 hM hJ.1 rfl (by decide) rfl (hJ.2 41 (by decide)).2 (by decide) tb_1218 dX10_turns_47 ?_
          refine lv_iload hx hb dX10_turns_50 (lv_at hl 0 rfl) ?_
          refine m_iald (1041) hx hb hE hM (hJ.2 41 (by decide)).1 rfl (vp_in_iff.mpr (by omega)) dX10_turns_52 ?_
          have g11 := hI.get (1041) ((x4_6).toNatClampNeg) (lo := 0) (hi := 300) rfl
          have z12 : I7 (1041) (x4_6).toNatClampNeg = Ia6 (1041) ((x4_6).toNatClampNeg) := (congrFun (hkI7.getA (1041) rfl) ((x4_6).toNatClampNeg))
          rw [z12] at g11 ⊢
          refine lv_icmp_eq (tgt := 80) hx hb dX10_turns_53 (by decide) (fun c13 => ?_) (fun c13 => ?_)
          · have hc13 := c13
            have q13 := q_eq hc13
            refine lv_aload_n hx hb dX10_turns_80 rfl (lv_at hl 1 rfl) ?_
            refine lv_iload_n hx hb dX10_turns_81 rfl (lv_at hl 2 rfl) ?_
            refine lv_aload_n hx hb dX10_turns_82 rfl (lv_at hl 1 rfl) ?_
            refine m_getr (1000) 39 (1039) hx hb hts hown hE oc10 hM hJ.1 rfl (by decide) rfl (hJ.2 39 (by decide)).2 (by decide) tb_1216 dX10_turns_83 ?_
            refine lv_iload hx hb dX10_turns_86 (lv_at hl 0 rfl) ?_
            refine m_iald (1039) hx hb hE hM (hJ.2 39 (by decide)).1 rfl (vp_in_iff.mpr (by omega)) dX10_turns_88 ?_
            have g14 := hI.get (1039) ((x4_6).toNatClampNeg) (lo := 0) (hi := 300) rfl
            have z15 : I7 (1039) (x4_6).toNatClampNeg = Ia6 (1039) ((x4_6).toNatClampNeg) := (congrFun (hkI7.getA (1039) rfl) ((x4_6).toNatClampNeg))
            rw [z15] at g14 ⊢
            refine lv_aload_n hx hb dX10_turns_89 rfl (lv_at hl 1 rfl) ?_
            refine m_getr (1000) 40 (1040) hx hb hts hown hE oc10 hM hJ.1 rfl (by decide) rfl (hJ.2 40 (by decide)).2 (by decide) tb_1217 dX10_turns_90 ?_
            refine lv_iload hx hb dX10_turns_93 (lv_at hl 0 rfl) ?_
            refine m_iald (1040) hx hb hE hM (hJ.2 40 (by decide)).1 rfl (vp_in_iff.mpr (by omega)) dX10_turns_95 ?_
            have z16 : I7 (1040) (x4_6).toNatClampNeg = Ia6 (1040) ((x4_6).toNatClampNeg) := (congrFun (hkI7.getA (1040) rfl) ((x4_6).toNatClampNeg))
            rw [z16]
            refine m_calll (m_runV (1000) (As := [.int (a0), .int (Ia6 (1039) ((x4_6).toNatClampNeg)), .int (Ia6 (1040) ((x4_6).toNatClampNeg))]) (rest := []) hx hb hml hown hts hE hM hS hA ce_X10_answer tb_1630 (V_X10_answer_y l D A ad ns I7 L8 G (lw 1) false (a0) (Ia6 (1039) ((x4_6).toNatClampNeg)) (Ia6 (1040) ((x4_6).toNatClampNeg)) hJ hI (by rw [u39, u40]; omega) (by rw [((funext fun n => funext fun k => hkI7 n k rfl rfl : I7 = _).trans hI6), u39, u40]; exact fun i h1 h2 => hLR.2.2.2 i (by have z1 := tn (i := lw 4 i6) (by omega); have z2 := tn (i := lw 0 6) (by omega); omega)) (by rw [u39, u40]; exact hx6.2.2.1.1) (by rw [u39, u40]; exact hx6.2.2.1.2) (by first | omega | decide) (by first | omega | decide) (by first | omega | decide)) rfl rfl ⟨Nat.le_of_ble_eq_true rfl, Nat.le_of_ble_eq_true rfl⟩ hJ.1 rfl rfl (by decide) rfl hl.1 rfl (Nat.le_of_ble_eq_true rfl) dX10_turns_96 ⟨Nat.le_of_ble_eq_true rfl, Nat.le_of_ble_eq_true rfl⟩) hS (fun r17 u H locs hw hM hS => ?_)
            obtain ⟨I18, L19, rfl, hI, hkI18, xr17⟩ := hw
            have hM : Mem D A ad ns I18 L19 G H := hM
            have hK := hK.trans hkI18 rfl
            have xas := xr17.1
            rw [u39, u40] at xas
            have hvs : r17 = vsV (live I) a1 (I 1064) lw (a2).toNatClampNeg i6 := by have h1 := evl_congr (e := envV (live I) a1 (I 1064) (a2).toNatClampNeg) (e2 := L8 1043) hask (segL lw (lw 3 i6) (lw 4 i6)) []; unfold vsV; rw [← h1, show evl (L8 1043) (segL lw (lw 3 i6) (lw 4 i6)) [] = [r17] from xas]; rfl
            refine lv_ldc2 (v := (7)) hx hb hown (hts _ tb_1451) dX10_turns_99 ?_
            refine lv_land hx hb dX10_turns_102 ?_
            refine lv_topl (fun v20 ev20 => ?_)
            refine lv_l2i hx hb dX10_turns_103 rfl ?_
            refine lv_topi (fun v21 ev21 => ?_)
            have h7 := i7 r17
            have hto : (v21).toInt = (vsV (live I) a1 (I 1064) lw (a2).toNatClampNeg i6 &&& 7).toInt := by rw [ev21, ev20, ← h7.1, hvs]
            have hto7 : 0 ≤ (v21).toInt ∧ (v21).toInt ≤ 7 := by rw [ev21, ev20]; exact h7.2
            refine lv_istore (lv' := [(5, .int (v21)), (4, .int (x4_6)), (0, .ref (ad (1000))), (1, .int (a0)), (2, .int (a1)), (3, .int (a2))]) hx hb dX10_turns_104 hl (by decide) rfl (fun ls hl => ?_)
            refine lv_iload hx hb dX10_turns_106 (lv_at hl 0 rfl) ?_
            refine lv_aload_n hx hb dX10_turns_108 rfl (lv_at hl 2 rfl) ?_
            refine m_getr (1000) 9 (1009) hx hb hts hown hE oc10 hM hJ.1 rfl (by decide) rfl (hJ.2 9 (by decide)).2 (by decide) tb_1186 dX10_turns_109 ?_
            refine lv_iload_n hx hb dX10_turns_112 rfl (lv_at hl 5 rfl) ?_
            refine m_iald (1009) hx hb hE hM (hJ.2 9 (by decide)).1 rfl (vp_in_iff.mpr (by omega)) dX10_turns_113 ?_
            have z22 : I18 (1009) (a2).toNatClampNeg = Ia6 (1009) ((a2).toNatClampNeg) := ((congrFun (hkI18.getA (1009) rfl) ((a2).toNatClampNeg))).trans (congrFun (hkI7.getA (1009) rfl) ((a2).toNatClampNeg))
            rw [z22]
            refine lv_isub hx hb dX10_turns_114 ?_
            refine lv_topi (fun v23 ev23 => ?_)
            have tv23 := a_sub ev23 (by omega) (by omega)
            refine lv_bipush (v := (8)) hx hb dX10_turns_115 (by decide) ?_
            refine lv_iadd hx hb dX10_turns_117 ?_
            refine lv_topi (fun v24 ev24 => ?_)
            have tv24 := a_add ev24 (by omega) (by omega)
            refine lv_bipush (v := (8)) hx hb dX10_turns_118 (by decide) ?_
            refine lv_irem hx hb dX10_turns_120 (by decide) ?_
            refine lv_topi (fun v25 ev25 => ?_)
            have tv25 := a_rem (c := 8) ev25 (by decide) (by decide) (by omega)
            refine lv_istore (lv' := [(6, .int (v25)), (5, .int (v21)), (4, .int (x4_6)), (0, .ref (ad (1000))), (1, .int (a0)), (2, .int (a1)), (3, .int (a2))]) hx hb dX10_turns_121 hl (by decide) rfl (fun ls hl => ?_)
            refine lv_aload_n hx hb dX10_turns_123 rfl (lv_at hl 3 rfl) ?_
            refine m_getr (1000) 12 (1012) hx hb hts hown hE oc10 hM hJ.1 rfl (by decide) rfl (hJ.2 12 (by decide)).2 (by decide) tb_1189 dX10_turns_124 ?_
            refine lv_iload_n hx hb dX10_turns_127 rfl (lv_at hl 6 rfl) ?_
            refine m_iald (1012) hx hb hE hM (hJ.2 12 (by decide)).1 rfl (vp_in_iff.mpr (by omega)) dX10_turns_128 ?_
            have z26 : I18 (1012) (a2).toNatClampNeg = Ia6 (1012) ((a2).toNatClampNeg) := ((congrFun (hkI18.getA (1012) rfl) ((a2).toNatClampNeg))).trans (congrFun (hkI7.getA (1012) rfl) ((a2).toNatClampNeg))
            rw [z26]
            refine lv_istore (lv' := [(7, .int (Ia6 (1012) ((a2).toNatClampNeg))), (6, .int (v25)), (5, .int (v21)), (4, .int (x4_6)), (0, .ref (ad (1000))), (1, .int (a0)), (2, .int (a1)), (3, .int (a2))]) hx hb dX10_turns_129 hl (by decide) rfl (fun ls hl => ?_)
            refine lv_iload hx hb dX10_turns_131 (lv_at hl 1 rfl) ?_
            refine lv_iconst (v := (4)) hx hb dX10_turns_133 (by decide) ?_
            refine lv_icmp_gt (tgt := 154) hx hb dX10_turns_134 (by decide) (fun c27 => ?_) (fun c27 => ?_)
            · have hc27 := c27
              have q27 := q_lt hc27
              refine lv_bipush (v := (8)) hx hb dX10_turns_154 (by decide) ?_
              refine lv_iload hx hb dX10_turns_156 (lv_at hl 1 rfl) ?_
              refine lv_isub hx hb dX10_turns_158 ?_
              refine lv_topi (fun v28 ev28 => ?_)
              have tv28 := a_sub ev28 (by omega) (by omega)
              refine lv_iload hx hb dX10_turns_159 (lv_at hl 0 rfl) ?_
              refine lv_icmp_ge (tgt := 172) hx hb dX10_turns_161 (by decide) (fun c29 => ?_) (fun c29 => ?_)
              · have hc29 := c29
                have q29 := q_le hc29
                refine lv_iload hx hb dX10_turns_172 (lv_at hl 0 rfl) ?_
                refine lv_ineg hx hb dX10_turns_174 ?_
                refine lv_topi (fun v30 ev30 => ?_)
                have tv30 := a_neg ev30 (by omega)
                refine lv_istore (lv' := [(8, .int (v30)), (7, .int (Ia6 (1012) ((a2).toNatClampNeg))), (6, .int (v25)), (5, .int (v21)), (4, .int (x4_6)), (0, .ref (ad (1000))), (1, .int (a0)), (2, .int (a1)), (3, .int (a2))]) hx hb dX10_turns_175 hl (by decide) rfl (fun ls hl => ?_)
                refine lv_aload_n hx hb dX10_turns_177 rfl (lv_at hl 5 rfl) ?_
                refine m_getr (1000) 9 (1009) hx hb hts hown hE oc10 hM hJ.1 rfl (by decide) rfl (hJ.2 9 (by decide)).2 (by decide) tb_1186 dX10_turns_178 ?_
                refine lv_iload_n hx hb dX10_turns_181 rfl (lv_at hl 8 rfl) ?_
                refine lv_aload_n hx hb dX10_turns_182 rfl (lv_at hl 5 rfl) ?_
                refine m_getr (1000) 9 (1009) hx hb hts hown hE oc10 hM hJ.1 rfl (by decide) rfl (hJ.2 9 (by decide)).2 (by decide) tb_1186 dX10_turns_183 ?_
                refine lv_iload_n hx hb dX10_turns_186 rfl (lv_at hl 8 rfl) ?_
                refine m_iald (1009) hx hb hE hM (hJ.2 9 (by decide)).1 rfl (vp_in_iff.mpr (by omega)) dX10_turns_187 ?_
                have z31 : I18 (1009) (a2).toNatClampNeg = Ia6 (1009) ((a2).toNatClampNeg) := ((congrFun (hkI18.getA (1009) rfl) ((a2).toNatClampNeg))).trans (congrFun (hkI7.getA (1009) rfl) ((a2).toNatClampNeg))
                rw [z31]
                refine lv_iload hx hb dX10_turns_188 (lv_at hl 0 rfl) ?_
                refine lv_iadd hx hb dX10_turns_190 ?_
                refine lv_topi (fun v32 ev32 => ?_)
                have tv32 := a_add ev32 (by omega) (by omega)
                refine lv_bipush (v := (8)) hx hb dX10_turns_191 (by decide) ?_
                refine lv_iadd hx hb dX10_turns_193 ?_
                refine lv_topi (fun v33 ev33 => ?_)
                have tv33 := a_add ev33 (by omega) (by omega)
                refine lv_bipush (v := (8)) hx hb dX10_turns_194 (by decide) ?_
                refine lv_irem hx hb dX10_turns_196 (by decide) ?_
                refine lv_topi (fun v34 ev34 => ?_)
                have tv34 := a_rem (c := 8) ev34 (by decide) (by decide) (by omega)
                refine m_iast (1009) hx hb hE hM hS (hJ.2 9 (by decide)).1 rfl (vp_in_iff.mpr (by omega)) dX10_turns_197 (fun H locs I35 eI35 hM hS => ?_)
                subst eI35
                have hI := hI.putF (n := 1009) (k := ((a2).toNatClampNeg)) (v := v34) rfl
                have hK := hK.put (n := 1009) (k := ((a2).toNatClampNeg)) (v := v34) (by first | rfl | simp [inR])
                have hfr : (firV (live I) a1 (I 1064) lw (a2).toNatClampNeg) i6 := ⟨by have z2 := tn (i := lw 2 i6) (by omega); have z3 := tn (i := a2) (by omega); omega, Or.inl (Int32.toInt_inj.mp (by omega))⟩
                have hfs : fsf (firV (live I) a1 (I 1064) lw (a2).toNatClampNeg) (lw 0 5).toNatClampNeg = some i6 := by have h1 := fsf_ge (fsf_y hn0 hfr) ((lw 0 5).toNatClampNeg - (i6 + 1)); rw [show i6 + 1 + ((lw 0 5).toNatClampNeg - (i6 + 1)) = (lw 0 5).toNatClampNeg from by omega] at h1; exact h1
                have hvv : v34 = Int32.ofInt (trn (I 1009 (a2).toNatClampNeg).toInt (I 1012 (a2).toNatClampNeg).toInt (v21).toInt) := Int32.toInt_inj.mp (by have q0 := trn_r (I 1009 (a2).toNatClampNeg).toInt (I 1012 (a2).toNatClampNeg).toInt (v21).toInt; rw [i32 (c := Int32.ofInt (trn (I 1009 (a2).toNatClampNeg).toInt (I 1012 (a2).toNatClampNeg).toInt (v21).toInt)) (by omega) rfl]; unfold trn; (repeat' split) <;> omega)
                exact m_vret hx hb hr hlocks hM hS (Nat.le_of_ble_eq_true rfl) (Nat.le_of_ble_eq_true rfl) ⟨_, _, rfl, hI, hK, (by rw [slA_s hfs, ← hto, show Int32.ofInt (trn (live I 9 (a2).toNatClampNeg).toInt (live I 12 (a2).toNatClampNeg).toInt (v21).toInt) = v34 from hvv.symm]; exact live_st (n := 9) (by rw [show I18 = I from ((funext fun n => funext fun k => hkI18 n k rfl rfl : I18 = _).trans ((funext fun n => funext fun k => hkI7 n k rfl rfl : I7 = _).trans hI6))]; exact EqV.rf))⟩ dX10_turns_198
              · have hc29 := c29
                have q29 := q_nle hc29
                refine lv_iload hx hb dX10_turns_164 (lv_at hl 1 rfl) ?_
                refine lv_bipush (v := (8)) hx hb dX10_turns_166 (by decide) ?_
                refine lv_isub hx hb dX10_turns_168 ?_
                refine lv_topi (fun v36 ev36 => ?_)
                have tv36 := a_sub ev36 (by omega) (by omega)
                refine lv_goto (tgt := 175) hx hb dX10_turns_169 (by decide) ?_
                refine lv_istore (lv' := [(8, .int (v36)), (7, .int (Ia6 (1012) ((a2).toNatClampNeg))), (6, .int (v25)), (5, .int (v21)), (4, .int (x4_6)), (0, .ref (ad (1000))), (1, .int (a0)), (2, .int (a1)), (3, .int (a2))]) hx hb dX10_turns_175 hl (by decide) rfl (fun ls hl => ?_)
                refine lv_aload_n hx hb dX10_turns_177 rfl (lv_at hl 5 rfl) ?_
                refine m_getr (1000) 9 (1009) hx hb hts hown hE oc10 hM hJ.1 rfl (by decide) rfl (hJ.2 9 (by decide)).2 (by decide) tb_1186 dX10_turns_178 ?_
                refine lv_iload_n hx hb dX10_turns_181 rfl (lv_at hl 8 rfl) ?_
                refine lv_aload_n hx hb dX10_turns_182 rfl (lv_at hl 5 rfl) ?_
                refine m_getr (1000) 9 (1009) hx hb hts hown hE oc10 hM hJ.1 rfl (by decide) rfl (hJ.2 9 (by decide)).2 (by decide) tb_1186 dX10_turns_183 ?_
                refine lv_iload_n hx hb dX10_turns_186 rfl (lv_at hl 8 rfl) ?_
                refine m_iald (1009) hx hb hE hM (hJ.2 9 (by decide)).1 rfl (vp_in_iff.mpr (by omega)) dX10_turns_187 ?_
                have z37 : I18 (1009) (a2).toNatClampNeg = Ia6 (1009) ((a2).toNatClampNeg) := ((congrFun (hkI18.getA (1009) rfl) ((a2).toNatClampNeg))).trans (congrFun (hkI7.getA (1009) rfl) ((a2).toNatClampNeg))
                rw [z37]
                refine lv_iload hx hb dX10_turns_188 (lv_at hl 0 rfl) ?_
                refine lv_iadd hx hb dX10_turns_190 ?_
                refine lv_topi (fun v38 ev38 => ?_)
                have tv38 := a_add ev38 (by omega) (by omega)
                refine lv_bipush (v := (8)) hx hb dX10_turns_191 (by decide) ?_
                refine lv_iadd hx hb dX10_turns_193 ?_
                refine lv_topi (fun v39 ev39 => ?_)
                have tv39 := a_add ev39 (by omega) (by omega)
                refine lv_bipush (v := (8)) hx hb dX10_turns_194 (by decide) ?_
                refine lv_irem hx hb dX10_turns_196 (by decide) ?_
                refine lv_topi (fun v40 ev40 => ?_)
                have tv40 := a_rem (c := 8) ev40 (by decide) (by decide) (by omega)
                refine m_iast (1009) hx hb hE hM hS (hJ.2 9 (by decide)).1 rfl (vp_in_iff.mpr (by omega)) dX10_turns_197 (fun H locs I41 eI41 hM hS => ?_)
                subst eI41
                have hI := hI.putF (n := 1009) (k := ((a2).toNatClampNeg)) (v := v40) rfl
                have hK := hK.put (n := 1009) (k := ((a2).toNatClampNeg)) (v := v40) (by first | rfl | simp [inR])
                have hfr : (firV (live I) a1 (I 1064) lw (a2).toNatClampNeg) i6 := ⟨by have z2 := tn (i := lw 2 i6) (by omega); have z3 := tn (i := a2) (by omega); omega, Or.inl (Int32.toInt_inj.mp (by omega))⟩
                have hfs : fsf (firV (live I) a1 (I 1064) lw (a2).toNatClampNeg) (lw 0 5).toNatClampNeg = some i6 := by have h1 := fsf_ge (fsf_y hn0 hfr) ((lw 0 5).toNatClampNeg - (i6 + 1)); rw [show i6 + 1 + ((lw 0 5).toNatClampNeg - (i6 + 1)) = (lw 0 5).toNatClampNeg from by omega] at h1; exact h1
                have hvv : v40 = Int32.ofInt (trn (I 1009 (a2).toNatClampNeg).toInt (I 1012 (a2).toNatClampNeg).toInt (v21).toInt) := Int32.toInt_inj.mp (by have q0 := trn_r (I 1009 (a2).toNatClampNeg).toInt (I 1012 (a2).toNatClampNeg).toInt (v21).toInt; rw [i32 (c := Int32.ofInt (trn (I 1009 (a2).toNatClampNeg).toInt (I 1012 (a2).toNatClampNeg).toInt (v21).toInt)) (by omega) rfl]; unfold trn; (repeat' split) <;> omega)
                exact m_vret hx hb hr hlocks hM hS (Nat.le_of_ble_eq_true rfl) (Nat.le_of_ble_eq_true rfl) ⟨_, _, rfl, hI, hK, (by rw [slA_s hfs, ← hto, show Int32.ofInt (trn (live I 9 (a2).toNatClampNeg).toInt (live I 12 (a2).toNatClampNeg).toInt (v21).toInt) = v40 from hvv.symm]; exact live_st (n := 9) (by rw [show I18 = I from ((funext fun n => funext fun k => hkI18 n k rfl rfl : I18 = _).trans ((funext fun n => funext fun k => hkI7 n k rfl rfl : I7 = _).trans hI6))]; exact EqV.rf))⟩ dX10_turns_198
            · have hc27 := c27
              have q27 := q_nlt hc27
              refine lv_iload hx hb dX10_turns_137 (lv_at hl 1 rfl) ?_
              refine lv_iload hx hb dX10_turns_139 (lv_at hl 0 rfl) ?_
              refine lv_icmp_ge (tgt := 149) hx hb dX10_turns_141 (by decide) (fun c42 => ?_) (fun c42 => ?_)
              · have hc42 := c42
                have q42 := q_le hc42
                refine lv_iload hx hb dX10_turns_149 (lv_at hl 0 rfl) ?_
                refine lv_goto (tgt := 175) hx hb dX10_turns_151 (by decide) ?_
                refine lv_istore (lv' := [(8, .int (Ia6 (1012) ((a2).toNatClampNeg))), (7, .int (Ia6 (1012) ((a2).toNatClampNeg))), (6, .int (v25)), (5, .int (v21)), (4, .int (x4_6)), (0, .ref (ad (1000))), (1, .int (a0)), (2, .int (a1)), (3, .int (a2))]) hx hb dX10_turns_175 hl (by decide) rfl (fun ls hl => ?_)
                refine lv_aload_n hx hb dX10_turns_177 rfl (lv_at hl 5 rfl) ?_
                refine m_getr (1000) 9 (1009) hx hb hts hown hE oc10 hM hJ.1 rfl (by decide) rfl (hJ.2 9 (by decide)).2 (by decide) tb_1186 dX10_turns_178 ?_
                refine lv_iload_n hx hb dX10_turns_181 rfl (lv_at hl 8 rfl) ?_
                refine lv_aload_n hx hb dX10_turns_182 rfl (lv_at hl 5 rfl) ?_
                refine m_getr (1000) 9 (1009) hx hb hts hown hE oc10 hM hJ.1 rfl (by decide) rfl (hJ.2 9 (by decide)).2 (by decide) tb_1186 dX10_turns_183 ?_
                refine lv_iload_n hx hb dX10_turns_186 rfl (lv_at hl 8 rfl) ?_
                refine m_iald (1009) hx hb hE hM (hJ.2 9 (by decide)).1 rfl (vp_in_iff.mpr (by omega)) dX10_turns_187 ?_
                have z43 : I18 (1009) (a2).toNatClampNeg = Ia6 (1009) ((a2).toNatClampNeg) := ((congrFun (hkI18.getA (1009) rfl) ((a2).toNatClampNeg))).trans (congrFun (hkI7.getA (1009) rfl) ((a2).toNatClampNeg))
                rw [z43]
                refine lv_iload hx hb dX10_turns_188 (lv_at hl 0 rfl) ?_
                refine lv_iadd hx hb dX10_turns_190 ?_
                refine lv_topi (fun v44 ev44 => ?_)
                have tv44 := a_add ev44 (by omega) (by omega)
                refine lv_bipush (v := (8)) hx hb dX10_turns_191 (by decide) ?_
                refine lv_iadd hx hb dX10_turns_193 ?_
                refine lv_topi (fun v45 ev45 => ?_)
                have tv45 := a_add ev45 (by omega) (by omega)
                refine lv_bipush (v := (8)) hx hb dX10_turns_194 (by decide) ?_
                refine lv_irem hx hb dX10_turns_196 (by decide) ?_
                refine lv_topi (fun v46 ev46 => ?_)
                have tv46 := a_rem (c := 8) ev46 (by decide) (by decide) (by omega)
                refine m_iast (1009) hx hb hE hM hS (hJ.2 9 (by decide)).1 rfl (vp_in_iff.mpr (by omega)) dX10_turns_197 (fun H locs I47 eI47 hM hS => ?_)
                subst eI47
                have hI := hI.putF (n := 1009) (k := ((a2).toNatClampNeg)) (v := v46) rfl
                have hK := hK.put (n := 1009) (k := ((a2).toNatClampNeg)) (v := v46) (by first | rfl | simp [inR])
                have hfr : (firV (live I) a1 (I 1064) lw (a2).toNatClampNeg) i6 := ⟨by have z2 := tn (i := lw 2 i6) (by omega); have z3 := tn (i := a2) (by omega); omega, Or.inl (Int32.toInt_inj.mp (by omega))⟩
                have hfs : fsf (firV (live I) a1 (I 1064) lw (a2).toNatClampNeg) (lw 0 5).toNatClampNeg = some i6 := by have h1 := fsf_ge (fsf_y hn0 hfr) ((lw 0 5).toNatClampNeg - (i6 + 1)); rw [show i6 + 1 + ((lw 0 5).toNatClampNeg - (i6 + 1)) = (lw 0 5).toNatClampNeg from by omega] at h1; exact h1
                have hvv : v46 = Int32.ofInt (trn (I 1009 (a2).toNatClampNeg).toInt (I 1012 (a2).toNatClampNeg).toInt (v21).toInt) := Int32.toInt_inj.mp (by have q0 := trn_r (I 1009 (a2).toNatClampNeg).toInt (I 1012 (a2).toNatClampNeg).toInt (v21).toInt; rw [i32 (c := Int32.ofInt (trn (I 1009 (a2).toNatClampNeg).toInt (I 1012 (a2).toNatClampNeg).toInt (v21).toInt)) (by omega) rfl]; unfold trn; (repeat' split) <;> omega)
                exact m_vret hx hb hr hlocks hM hS (Nat.le_of_ble_eq_true rfl) (Nat.le_of_ble_eq_true rfl) ⟨_, _, rfl, hI, hK, (by rw [slA_s hfs, ← hto, show Int32.ofInt (trn (live I 9 (a2).toNatClampNeg).toInt (live I 12 (a2).toNatClampNeg).toInt (v21).toInt) = v46 from hvv.symm]; exact live_st (n := 9) (by rw [show I18 = I from ((funext fun n => funext fun k => hkI18 n k rfl rfl : I18 = _).trans ((funext fun n => funext fun k => hkI7 n k rfl rfl : I7 = _).trans hI6))]; exact EqV.rf))⟩ dX10_turns_198
              · have hc42 := c42
                have q42 := q_nle hc42
                refine lv_iload hx hb dX10_turns_144 (lv_at hl 1 rfl) ?_
                refine lv_goto (tgt := 175) hx hb dX10_turns_146 (by decide) ?_
                refine lv_istore (lv' := [(8, .int (v25)), (7, .int (Ia6 (1012) ((a2).toNatClampNeg))), (6, .int (v25)), (5, .int (v21)), (4, .int (x4_6)), (0, .ref (ad (1000))), (1, .int (a0)), (2, .int (a1)), (3, .int (a2))]) hx hb dX10_turns_175 hl (by decide) rfl (fun ls hl => ?_)
                refine lv_aload_n hx hb dX10_turns_177 rfl (lv_at hl 5 rfl) ?_
                refine m_getr (1000) 9 (1009) hx hb hts hown hE oc10 hM hJ.1 rfl (by decide) rfl (hJ.2 9 (by decide)).2 (by decide) tb_1186 dX10_turns_178 ?_
                refine lv_iload_n hx hb dX10_turns_181 rfl (lv_at hl 8 rfl) ?_
                refine lv_aload_n hx hb dX10_turns_182 rfl (lv_at hl 5 rfl) ?_
                refine m_getr (1000) 9 (1009) hx hb hts hown hE oc10 hM hJ.1 rfl (by decide) rfl (hJ.2 9 (by decide)).2 (by decide) tb_1186 dX10_turns_183 ?_
                refine lv_iload_n hx hb dX10_turns_186 rfl (lv_at hl 8 rfl) ?_
                refine m_iald (1009) hx hb hE hM (hJ.2 9 (by decide)).1 rfl (vp_in_iff.mpr (by omega)) dX10_turns_187 ?_
                have z48 : I18 (1009) (a2).toNatClampNeg = Ia6 (1009) ((a2).toNatClampNeg) := ((congrFun (hkI18.getA (1009) rfl) ((a2).toNatClampNeg))).trans (congrFun (hkI7.getA (1009) rfl) ((a2).toNatClampNeg))
                rw [z48]
                refine lv_iload hx hb dX10_turns_188 (lv_at hl 0 rfl) ?_
                refine lv_iadd hx hb dX10_turns_190 ?_
                refine lv_topi (fun v49 ev49 => ?_)
                have tv49 := a_add ev49 (by omega) (by omega)
                refine lv_bipush (v := (8)) hx hb dX10_turns_191 (by decide) ?_
                refine lv_iadd hx hb dX10_turns_193 ?_
                refine lv_topi (fun v50 ev50 => ?_)
                have tv50 := a_add ev50 (by omega) (by omega)
                refine lv_bipush (v := (8)) hx hb dX10_turns_194 (by decide) ?_
                refine lv_irem hx hb dX10_turns_196 (by decide) ?_
                refine lv_topi (fun v51 ev51 => ?_)
                have tv51 := a_rem (c := 8) ev51 (by decide) (by decide) (by omega)
                refine m_iast (1009) hx hb hE hM hS (hJ.2 9 (by decide)).1 rfl (vp_in_iff.mpr (by omega)) dX10_turns_197 (fun H locs I52 eI52 hM hS => ?_)
                subst eI52
                have hI := hI.putF (n := 1009) (k := ((a2).toNatClampNeg)) (v := v51) rfl
                have hK := hK.put (n := 1009) (k := ((a2).toNatClampNeg)) (v := v51) (by first | rfl | simp [inR])
                have hfr : (firV (live I) a1 (I 1064) lw (a2).toNatClampNeg) i6 := ⟨by have z2 := tn (i := lw 2 i6) (by omega); have z3 := tn (i := a2) (by omega); omega, Or.inl (Int32.toInt_inj.mp (by omega))⟩
                have hfs : fsf (firV (live I) a1 (I 1064) lw (a2).toNatClampNeg) (lw 0 5).toNatClampNeg = some i6 := by have h1 := fsf_ge (fsf_y hn0 hfr) ((lw 0 5).toNatClampNeg - (i6 + 1)); rw [show i6 + 1 + ((lw 0 5).toNatClampNeg - (i6 + 1)) = (lw 0 5).toNatClampNeg from by omega] at h1; exact h1
                have hvv : v51 = Int32.ofInt (trn (I 1009 (a2).toNatClampNeg).toInt (I 1012 (a2).toNatClampNeg).toInt (v21).toInt) := Int32.toInt_inj.mp (by have q0 := trn_r (I 1009 (a2).toNatClampNeg).toInt (I 1012 (a2).toNatClampNeg).toInt (v21).toInt; rw [i32 (c := Int32.ofInt (trn (I 1009 (a2).toNatClampNeg).toInt (I 1012 (a2).toNatClampNeg).toInt (v21).toInt)) (by omega) rfl]; unfold trn; (repeat' split) <;> omega)
                exact m_vret hx hb hr hlocks hM hS (Nat.le_of_ble_eq_true rfl) (Nat.le_of_ble_eq_true rfl) ⟨_, _, rfl, hI, hK, (by rw [slA_s hfs, ← hto, show Int32.ofInt (trn (live I 9 (a2).toNatClampNeg).toInt (live I 12 (a2).toNatClampNeg).toInt (v21).toInt) = v51 from hvv.symm]; exact live_st (n := 9) (by rw [show I18 = I from ((funext fun n => funext fun k => hkI18 n k rfl rfl : I18 = _).trans ((funext fun n => funext fun k => hkI7 n k rfl rfl : I7 = _).trans hI6))]; exact EqV.rf))⟩ dX10_turns_198
          · have hc13 := c13
            have q13 := q_ne hc13
            have hne : lw 4 i6 ≠ lw 5 i6 := fun z => by have z2 := congrArg Int32.toInt z; omega
            refine lv_aload_n hx hb dX10_turns_56 rfl (lv_at hl 1 rfl) ?_
            refine lv_iload_n hx hb dX10_turns_57 rfl (lv_at hl 2 rfl) ?_
            refine lv_aload_n hx hb dX10_turns_58 rfl (lv_at hl 1 rfl) ?_
            refine m_getr (1000) 40 (1040) hx hb hts hown hE oc10 hM hJ.1 rfl (by decide) rfl (hJ.2 40 (by decide)).2 (by decide) tb_1217 dX10_turns_59 ?_
            refine lv_iload hx hb dX10_turns_62 (lv_at hl 0 rfl) ?_
            refine m_iald (1040) hx hb hE hM (hJ.2 40 (by decide)).1 rfl (vp_in_iff.mpr (by omega)) dX10_turns_64 ?_
            have z53 : I7 (1040) (x4_6).toNatClampNeg = Ia6 (1040) ((x4_6).toNatClampNeg) := (congrFun (hkI7.getA (1040) rfl) ((x4_6).toNatClampNeg))
            rw [z53]
            refine lv_aload_n hx hb dX10_turns_65 rfl (lv_at hl 1 rfl) ?_
            refine m_getr (1000) 41 (1041) hx hb hts hown hE oc10 hM hJ.1 rfl (by decide) rfl (hJ.2 41 (by decide)).2 (by decide) tb_1218 dX10_turns_66 ?_
            refine lv_iload hx hb dX10_turns_69 (lv_at hl 0 rfl) ?_
            refine m_iald (1041) hx hb hE hM (hJ.2 41 (by decide)).1 rfl (vp_in_iff.mpr (by omega)) dX10_turns_71 ?_
            have z54 : I7 (1041) (x4_6).toNatClampNeg = Ia6 (1041) ((x4_6).toNatClampNeg) := (congrFun (hkI7.getA (1041) rfl) ((x4_6).toNatClampNeg))
            rw [z54]
            refine m_calll (m_runV (1000) (As := [.int (a0), .int (Ia6 (1040) ((x4_6).toNatClampNeg)), .int (Ia6 (1041) ((x4_6).toNatClampNeg))]) (rest := []) hx hb hml hown hts hE hM hS hA ce_X10_answer tb_1630 (V_X10_answer_y l D A ad ns I7 L8 G (lw 1) true (a0) (Ia6 (1040) ((x4_6).toNatClampNeg)) (Ia6 (1041) ((x4_6).toNatClampNeg)) hJ hI (by rw [u40, u41]; omega) (by rw [((funext fun n => funext fun k => hkI7 n k rfl rfl : I7 = _).trans hI6), u40, u41]; exact fun i h1 h2 => hLR.2.2.2 i (by have z1 := tn (i := lw 5 i6) (by omega); have z2 := tn (i := lw 0 6) (by omega); omega)) (by rw [u40, u41]; exact (hx6.2.2.2 hne).1) (by rw [u40, u41]; exact (hx6.2.2.2 hne).2) (by first | omega | decide) (by first | omega | decide) (by first | omega | decide)) rfl rfl ⟨Nat.le_of_ble_eq_true rfl, Nat.le_of_ble_eq_true rfl⟩ hJ.1 rfl rfl (by decide) rfl hl.1 rfl (Nat.le_of_ble_eq_true rfl) dX10_turns_72 ⟨Nat.le_of_ble_eq_true rfl, Nat.le_of_ble_eq_true rfl⟩) hS (fun r55 u H locs hw hM hS => ?_)
            obtain ⟨I56, L57, rfl, hI, hkI56, xr55⟩ := hw
            have hM : Mem D A ad ns I56 L57 G H := hM
            have hK := hK.trans hkI56 rfl
            have xat := xr55.1
            rw [u40, u41] at xat
            have hvt : r55 = vtV (live I) a1 (I 1064) lw (a2).toNatClampNeg i6 := by have h1 := evl_congr (e := envV (live I) a1 (I 1064) (a2).toNatClampNeg) (e2 := L8 1043) hask (segL lw (lw 4 i6) (lw 5 i6)) []; unfold vtV; rw [← h1, show evl (L8 1043) (segL lw (lw 4 i6) (lw 5 i6)) [] = [r55] from xat]; rfl
            have hask2 : ∀ j : Nat, j < 13 → L57 1043 j = envV (live I) a1 (I 1064) (a2).toNatClampNeg j := fun j hj => by rw [xr55.2]; exact hask j hj
            have hv01 := (ev_one (e := envV (live I) a1 (I 1064) (a2).toNatClampNeg) (hx6.2.2.2 hne).1).2 rfl
            refine lv_lconst (v := 1) hx hb dX10_turns_75 (by decide) ?_
            refine W.lcmp hx hb dX10_turns_76 ?_
            refine lv_if_ne (tgt := 199) hx hb dX10_turns_77 (by decide) (fun c58 => ?_) (fun c58 => ?_)
            · have hc58 := c58
              have q58 := l_ne hc58
              obtain ⟨v59, ev59⟩ : ∃ z : Int32, z = x4_6 + Int32.ofInt (1) := ⟨_, rfl⟩
              have tv59 := a_inc ev59 (by decide) (by omega) (by omega)
              refine lv_iinc (v := v59) (lv' := [(4, .int (v59)), (0, .ref (ad (1000))), (1, .int (a0)), (2, .int (a1)), (3, .int (a2))]) hx hb dX10_turns_199 hl (k := 0) rfl ev59.symm (by decide) rfl (fun ls hl => ?_)
              refine lv_goto (tgt := 6) hx hb dX10_turns_202 (by decide) ?_
              exact ih6 (v59) I56 L57 _ _ ls hI hK (by first | omega | decide) (by omega) (by omega) ((funext fun n => funext fun k => hkI56 n k rfl rfl : I56 = _).trans ((funext fun n => funext fun k => hkI7 n k rfl rfl : I7 = _).trans hI6)) (by have z9 := tn (i := v59) (by omega); rw [show ((v59).toInt - 12 * a0.toInt).toNat = i6 + 1 from (by omega)]; exact fsf_n hn0 (fun z => by rcases z.2 with z1 | z1; exact hne z1; rcases hv01 with z2 | z2; exact z1 z2; have z4 := congrArg Int64.toInt (hvt.trans z2); omega)) (by omega) hM hS (lv_sub hl [0, 1, 2, 3, 4] rfl)
            · have hc58 := c58
              have q58 := l_eq hc58
              refine lv_aload_n hx hb dX10_turns_80 rfl (lv_at hl 1 rfl) ?_
              refine lv_iload_n hx hb dX10_turns_81 rfl (lv_at hl 2 rfl) ?_
              refine lv_aload_n hx hb dX10_turns_82 rfl (lv_at hl 1 rfl) ?_
              refine m_getr (1000) 39 (1039) hx hb hts hown hE oc10 hM hJ.1 rfl (by decide) rfl (hJ.2 39 (by decide)).2 (by decide) tb_1216 dX10_turns_83 ?_
              refine lv_iload hx hb dX10_turns_86 (lv_at hl 0 rfl) ?_
              refine m_iald (1039) hx hb hE hM (hJ.2 39 (by decide)).1 rfl (vp_in_iff.mpr (by omega)) dX10_turns_88 ?_
              have g60 := hI.get (1039) ((x4_6).toNatClampNeg) (lo := 0) (hi := 300) rfl
              have z61 : I56 (1039) (x4_6).toNatClampNeg = Ia6 (1039) ((x4_6).toNatClampNeg) := ((congrFun (hkI56.getA (1039) rfl) ((x4_6).toNatClampNeg))).trans (congrFun (hkI7.getA (1039) rfl) ((x4_6).toNatClampNeg))
              rw [z61] at g60 ⊢
              refine lv_aload_n hx hb dX10_turns_89 rfl (lv_at hl 1 rfl) ?_
              refine m_getr (1000) 40 (1040) hx hb hts hown hE oc10 hM hJ.1 rfl (by decide) rfl (hJ.2 40 (by decide)).2 (by decide) tb_1217 dX10_turns_90 ?_
              refine lv_iload hx hb dX10_turns_93 (lv_at hl 0 rfl) ?_
              refine m_iald (1040) hx hb hE hM (hJ.2 40 (by decide)).1 rfl (vp_in_iff.mpr (by omega)) dX10_turns_95 ?_
              have g62 := hI.get (1040) ((x4_6).toNatClampNeg) (lo := 0) (hi := 300) rfl
              have z63 : I56 (1040) (x4_6).toNatClampNeg = Ia6 (1040) ((x4_6).toNatClampNeg) := ((congrFun (hkI56.getA (1040) rfl) ((x4_6).toNatClampNeg))).trans (congrFun (hkI7.getA (1040) rfl) ((x4_6).toNatClampNeg))
              rw [z63] at g62 ⊢
              refine m_calll (m_runV (1000) (As := [.int (a0), .int (Ia6 (1039) ((x4_6).toNatClampNeg)), .int (Ia6 (1040) ((x4_6).toNatClampNeg))]) (rest := []) hx hb hml hown hts hE hM hS hA ce_X10_answer tb_1630 (V_X10_answer_y l D A ad ns I56 L57 G (lw 1) false (a0) (Ia6 (1039) ((x4_6).toNatClampNeg)) (Ia6 (1040) ((x4_6).toNatClampNeg)) hJ hI (by rw [u39, u40]; omega) (by rw [((funext fun n => funext fun k => hkI56 n k rfl rfl : I56 = _).trans ((funext fun n => funext fun k => hkI7 n k rfl rfl : I7 = _).trans hI6)), u39, u40]; exact fun i h1 h2 => hLR.2.2.2 i (by have z1 := tn (i := lw 4 i6) (by omega); have z2 := tn (i := lw 0 6) (by omega); omega)) (by rw [u39, u40]; exact hx6.2.2.1.1) (by rw [u39, u40]; exact hx6.2.2.1.2) (by first | omega | decide) (by first | omega | decide) (by first | omega | decide)) rfl rfl ⟨Nat.le_of_ble_eq_true rfl, Nat.le_of_ble_eq_true rfl⟩ hJ.1 rfl rfl (by decide) rfl hl.1 rfl (Nat.le_of_ble_eq_true rfl) dX10_turns_96 ⟨Nat.le_of_ble_eq_true rfl, Nat.le_of_ble_eq_true rfl⟩) hS (fun r64 u H locs hw hM hS => ?_)
              obtain ⟨I65, L66, rfl, hI, hkI65, xr64⟩ := hw
              have hM : Mem D A ad ns I65 L66 G H := hM
              have hK := hK.trans hkI65 rfl
              have xas := xr64.1
              rw [u39, u40] at xas
              have hvs : r64 = vsV (live I) a1 (I 1064) lw (a2).toNatClampNeg i6 := by have h1 := evl_congr (e := envV (live I) a1 (I 1064) (a2).toNatClampNeg) (e2 := L57 1043) hask2 (segL lw (lw 3 i6) (lw 4 i6)) []; unfold vsV; rw [← h1, show evl (L57 1043) (segL lw (lw 3 i6) (lw 4 i6)) [] = [r64] from xas]; rfl
              refine lv_ldc2 (v := (7)) hx hb hown (hts _ tb_1451) dX10_turns_99 ?_
              refine lv_land hx hb dX10_turns_102 ?_
              refine lv_topl (fun v67 ev67 => ?_)
              refine lv_l2i hx hb dX10_turns_103 rfl ?_
              refine lv_topi (fun v68 ev68 => ?_)
              have h7 := i7 r64
              have hto : (v68).toInt = (vsV (live I) a1 (I 1064) lw (a2).toNatClampNeg i6 &&& 7).toInt := by rw [ev68, ev67, ← h7.1, hvs]
              have hto7 : 0 ≤ (v68).toInt ∧ (v68).toInt ≤ 7 := by rw [ev68, ev67]; exact h7.2
              refine lv_istore (lv' := [(5, .int (v68)), (4, .int (x4_6)), (0, .ref (ad (1000))), (1, .int (a0)), (2, .int (a1)), (3, .int (a2))]) hx hb dX10_turns_104 hl (by decide) rfl (fun ls hl => ?_)
              refine lv_iload hx hb dX10_turns_106 (lv_at hl 0 rfl) ?_
              refine lv_aload_n hx hb dX10_turns_108 rfl (lv_at hl 2 rfl) ?_
              refine m_getr (1000) 9 (1009) hx hb hts hown hE oc10 hM hJ.1 rfl (by decide) rfl (hJ.2 9 (by decide)).2 (by decide) tb_1186 dX10_turns_109 ?_
              refine lv_iload_n hx hb dX10_turns_112 rfl (lv_at hl 5 rfl) ?_
              refine m_iald (1009) hx hb hE hM (hJ.2 9 (by decide)).1 rfl (vp_in_iff.mpr (by omega)) dX10_turns_113 ?_
              have z69 : I65 (1009) (a2).toNatClampNeg = Ia6 (1009) ((a2).toNatClampNeg) := (((congrFun (hkI65.getA (1009) rfl) ((a2).toNatClampNeg))).trans (congrFun (hkI56.getA (1009) rfl) ((a2).toNatClampNeg))).trans (congrFun (hkI7.getA (1009) rfl) ((a2).toNatClampNeg))
              rw [z69]
              refine lv_isub hx hb dX10_turns_114 ?_
              refine lv_topi (fun v70 ev70 => ?_)
              have tv70 := a_sub ev70 (by omega) (by omega)
              refine lv_bipush (v := (8)) hx hb dX10_turns_115 (by decide) ?_
              refine lv_iadd hx hb dX10_turns_117 ?_
              refine lv_topi (fun v71 ev71 => ?_)
              have tv71 := a_add ev71 (by omega) (by omega)
              refine lv_bipush (v := (8)) hx hb dX10_turns_118 (by decide) ?_
              refine lv_irem hx hb dX10_turns_120 (by decide) ?_
              refine lv_topi (fun v72 ev72 => ?_)
              have tv72 := a_rem (c := 8) ev72 (by decide) (by decide) (by omega)
              refine lv_istore (lv' := [(6, .int (v72)), (5, .int (v68)), (4, .int (x4_6)), (0, .ref (ad (1000))), (1, .int (a0)), (2, .int (a1)), (3, .int (a2))]) hx hb dX10_turns_121 hl (by decide) rfl (fun ls hl => ?_)
              refine lv_aload_n hx hb dX10_turns_123 rfl (lv_at hl 3 rfl) ?_
              refine m_getr (1000) 12 (1012) hx hb hts hown hE oc10 hM hJ.1 rfl (by decide) rfl (hJ.2 12 (by decide)).2 (by decide) tb_1189 dX10_turns_124 ?_
              refine lv_iload_n hx hb dX10_turns_127 rfl (lv_at hl 6 rfl) ?_
              refine m_iald (1012) hx hb hE hM (hJ.2 12 (by decide)).1 rfl (vp_in_iff.mpr (by omega)) dX10_turns_128 ?_
              have z73 : I65 (1012) (a2).toNatClampNeg = Ia6 (1012) ((a2).toNatClampNeg) := (((congrFun (hkI65.getA (1012) rfl) ((a2).toNatClampNeg))).trans (congrFun (hkI56.getA (1012) rfl) ((a2).toNatClampNeg))).trans (congrFun (hkI7.getA (1012) rfl) ((a2).toNatClampNeg))
              rw [z73]
              refine lv_istore (lv' := [(7, .int (Ia6 (1012) ((a2).toNatClampNeg))), (6, .int (v72)), (5, .int (v68)), (4, .int (x4_6)), (0, .ref (ad (1000))), (1, .int (a0)), (2, .int (a1)), (3, .int (a2))]) hx hb dX10_turns_129 hl (by decide) rfl (fun ls hl => ?_)
              refine lv_iload hx hb dX10_turns_131 (lv_at hl 1 rfl) ?_
              refine lv_iconst (v := (4)) hx hb dX10_turns_133 (by decide) ?_
              refine lv_icmp_gt (tgt := 154) hx hb dX10_turns_134 (by decide) (fun c74 => ?_) (fun c74 => ?_)
              · have hc74 := c74
                have q74 := q_lt hc74
                refine lv_bipush (v := (8)) hx hb dX10_turns_154 (by decide) ?_
                refine lv_iload hx hb dX10_turns_156 (lv_at hl 1 rfl) ?_
                refine lv_isub hx hb dX10_turns_158 ?_
                refine lv_topi (fun v75 ev75 => ?_)
                have tv75 := a_sub ev75 (by omega) (by omega)
                refine lv_iload hx hb dX10_turns_159 (lv_at hl 0 rfl) ?_
                refine lv_icmp_ge (tgt := 172) hx hb dX10_turns_161 (by decide) (fun c76 => ?_) (fun c76 => ?_)
                · have hc76 := c76
                  have q76 := q_le hc76
                  refine lv_iload hx hb dX10_turns_172 (lv_at hl 0 rfl) ?_
                  refine lv_ineg hx hb dX10_turns_174 ?_
                  refine lv_topi (fun v77 ev77 => ?_)
                  have tv77 := a_neg ev77 (by omega)
                  refine lv_istore (lv' := [(8, .int (v77)), (7, .int (Ia6 (1012) ((a2).toNatClampNeg))), (6, .int (v72)), (5, .int (v68)), (4, .int (x4_6)), (0, .ref (ad (1000))), (1, .int (a0)), (2, .int (a1)), (3, .int (a2))]) hx hb dX10_turns_175 hl (by decide) rfl (fun ls hl => ?_)
                  refine lv_aload_n hx hb dX10_turns_177 rfl (lv_at hl 5 rfl) ?_
                  refine m_getr (1000) 9 (1009) hx hb hts hown hE oc10 hM hJ.1 rfl (by decide) rfl (hJ.2 9 (by decide)).2 (by decide) tb_1186 dX10_turns_178 ?_
                  refine lv_iload_n hx hb dX10_turns_181 rfl (lv_at hl 8 rfl) ?_
                  refine lv_aload_n hx hb dX10_turns_182 rfl (lv_at hl 5 rfl) ?_
                  refine m_getr (1000) 9 (1009) hx hb hts hown hE oc10 hM hJ.1 rfl (by decide) rfl (hJ.2 9 (by decide)).2 (by decide) tb_1186 dX10_turns_183 ?_
                  refine lv_iload_n hx hb dX10_turns_186 rfl (lv_at hl 8 rfl) ?_
                  refine m_iald (1009) hx hb hE hM (hJ.2 9 (by decide)).1 rfl (vp_in_iff.mpr (by omega)) dX10_turns_187 ?_
                  have z78 : I65 (1009) (a2).toNatClampNeg = Ia6 (1009) ((a2).toNatClampNeg) := (((congrFun (hkI65.getA (1009) rfl) ((a2).toNatClampNeg))).trans (congrFun (hkI56.getA (1009) rfl) ((a2).toNatClampNeg))).trans (congrFun (hkI7.getA (1009) rfl) ((a2).toNatClampNeg))
                  rw [z78]
                  refine lv_iload hx hb dX10_turns_188 (lv_at hl 0 rfl) ?_
                  refine lv_iadd hx hb dX10_turns_190 ?_
                  refine lv_topi (fun v79 ev79 => ?_)
                  have tv79 := a_add ev79 (by omega) (by omega)
                  refine lv_bipush (v := (8)) hx hb dX10_turns_191 (by decide) ?_
                  refine lv_iadd hx hb dX10_turns_193 ?_
                  refine lv_topi (fun v80 ev80 => ?_)
                  have tv80 := a_add ev80 (by omega) (by omega)
                  refine lv_bipush (v := (8)) hx hb dX10_turns_194 (by decide) ?_
                  refine lv_irem hx hb dX10_turns_196 (by decide) ?_
                  refine lv_topi (fun v81 ev81 => ?_)
                  have tv81 := a_rem (c := 8) ev81 (by decide) (by decide) (by omega)
                  refine m_iast (1009) hx hb hE hM hS (hJ.2 9 (by decide)).1 rfl (vp_in_iff.mpr (by omega)) dX10_turns_197 (fun H locs I82 eI82 hM hS => ?_)
                  subst eI82
                  have hI := hI.putF (n := 1009) (k := ((a2).toNatClampNeg)) (v := v81) rfl
                  have hK := hK.put (n := 1009) (k := ((a2).toNatClampNeg)) (v := v81) (by first | rfl | simp [inR])
                  have hfr : (firV (live I) a1 (I 1064) lw (a2).toNatClampNeg) i6 := ⟨by have z2 := tn (i := lw 2 i6) (by omega); have z3 := tn (i := a2) (by omega); omega, Or.inr (fun z => by have z4 := congrArg Int64.toInt (hvt.trans z); omega)⟩
                  have hfs : fsf (firV (live I) a1 (I 1064) lw (a2).toNatClampNeg) (lw 0 5).toNatClampNeg = some i6 := by have h1 := fsf_ge (fsf_y hn0 hfr) ((lw 0 5).toNatClampNeg - (i6 + 1)); rw [show i6 + 1 + ((lw 0 5).toNatClampNeg - (i6 + 1)) = (lw 0 5).toNatClampNeg from by omega] at h1; exact h1
                  have hvv : v81 = Int32.ofInt (trn (I 1009 (a2).toNatClampNeg).toInt (I 1012 (a2).toNatClampNeg).toInt (v68).toInt) := Int32.toInt_inj.mp (by have q0 := trn_r (I 1009 (a2).toNatClampNeg).toInt (I 1012 (a2).toNatClampNeg).toInt (v68).toInt; rw [i32 (c := Int32.ofInt (trn (I 1009 (a2).toNatClampNeg).toInt (I 1012 (a2).toNatClampNeg).toInt (v68).toInt)) (by omega) rfl]; unfold trn; (repeat' split) <;> omega)
                  exact m_vret hx hb hr hlocks hM hS (Nat.le_of_ble_eq_true rfl) (Nat.le_of_ble_eq_true rfl) ⟨_, _, rfl, hI, hK, (by rw [slA_s hfs, ← hto, show Int32.ofInt (trn (live I 9 (a2).toNatClampNeg).toInt (live I 12 (a2).toNatClampNeg).toInt (v68).toInt) = v81 from hvv.symm]; exact live_st (n := 9) (by rw [show I65 = I from ((funext fun n => funext fun k => hkI65 n k rfl rfl : I65 = _).trans ((funext fun n => funext fun k => hkI56 n k rfl rfl : I56 = _).trans ((funext fun n => funext fun k => hkI7 n k rfl rfl : I7 = _).trans hI6)))]; exact EqV.rf))⟩ dX10_turns_198
                · have hc76 := c76
                  have q76 := q_nle hc76
                  refine lv_iload hx hb dX10_turns_164 (lv_at hl 1 rfl) ?_
                  refine lv_bipush (v := (8)) hx hb dX10_turns_166 (by decide) ?_
                  refine lv_isub hx hb dX10_turns_168 ?_
                  refine lv_topi (fun v83 ev83 => ?_)
                  have tv83 := a_sub ev83 (by omega) (by omega)
                  refine lv_goto (tgt := 175) hx hb dX10_turns_169 (by decide) ?_
                  refine lv_istore (lv' := [(8, .int (v83)), (7, .int (Ia6 (1012) ((a2).toNatClampNeg))), (6, .int (v72)), (5, .int (v68)), (4, .int (x4_6)), (0, .ref (ad (1000))), (1, .int (a0)), (2, .int (a1)), (3, .int (a2))]) hx hb dX10_turns_175 hl (by decide) rfl (fun ls hl => ?_)
                  refine lv_aload_n hx hb dX10_turns_177 rfl (lv_at hl 5 rfl) ?_
                  refine m_getr (1000) 9 (1009) hx hb hts hown hE oc10 hM hJ.1 rfl (by decide) rfl (hJ.2 9 (by decide)).2 (by decide) tb_1186 dX10_turns_178 ?_
                  refine lv_iload_n hx hb dX10_turns_181 rfl (lv_at hl 8 rfl) ?_
                  refine lv_aload_n hx hb dX10_turns_182 rfl (lv_at hl 5 rfl) ?_
                  refine m_getr (1000) 9 (1009) hx hb hts hown hE oc10 hM hJ.1 rfl (by decide) rfl (hJ.2 9 (by decide)).2 (by decide) tb_1186 dX10_turns_183 ?_
                  refine lv_iload_n hx hb dX10_turns_186 rfl (lv_at hl 8 rfl) ?_
                  refine m_iald (1009) hx hb hE hM (hJ.2 9 (by decide)).1 rfl (vp_in_iff.mpr (by omega)) dX10_turns_187 ?_
                  have z84 : I65 (1009) (a2).toNatClampNeg = Ia6 (1009) ((a2).toNatClampNeg) := (((congrFun (hkI65.getA (1009) rfl) ((a2).toNatClampNeg))).trans (congrFun (hkI56.getA (1009) rfl) ((a2).toNatClampNeg))).trans (congrFun (hkI7.getA (1009) rfl) ((a2).toNatClampNeg))
                  rw [z84]
                  refine lv_iload hx hb dX10_turns_188 (lv_at hl 0 rfl) ?_
                  refine lv_iadd hx hb dX10_turns_190 ?_
                  refine lv_topi (fun v85 ev85 => ?_)
                  have tv85 := a_add ev85 (by omega) (by omega)
                  refine lv_bipush (v := (8)) hx hb dX10_turns_191 (by decide) ?_
                  refine lv_iadd hx hb dX10_turns_193 ?_
                  refine lv_topi (fun v86 ev86 => ?_)
                  have tv86 := a_add ev86 (by omega) (by omega)
                  refine lv_bipush (v := (8)) hx hb dX10_turns_194 (by decide) ?_
                  refine lv_irem hx hb dX10_turns_196 (by decide) ?_
                  refine lv_topi (fun v87 ev87 => ?_)
                  have tv87 := a_rem (c := 8) ev87 (by decide) (by decide) (by omega)
                  refine m_iast (1009) hx hb hE hM hS (hJ.2 9 (by decide)).1 rfl (vp_in_iff.mpr (by omega)) dX10_turns_197 (fun H locs I88 eI88 hM hS => ?_)
                  subst eI88
                  have hI := hI.putF (n := 1009) (k := ((a2).toNatClampNeg)) (v := v87) rfl
                  have hK := hK.put (n := 1009) (k := ((a2).toNatClampNeg)) (v := v87) (by first | rfl | simp [inR])
                  have hfr : (firV (live I) a1 (I 1064) lw (a2).toNatClampNeg) i6 := ⟨by have z2 := tn (i := lw 2 i6) (by omega); have z3 := tn (i := a2) (by omega); omega, Or.inr (fun z => by have z4 := congrArg Int64.toInt (hvt.trans z); omega)⟩
                  have hfs : fsf (firV (live I) a1 (I 1064) lw (a2).toNatClampNeg) (lw 0 5).toNatClampNeg = some i6 := by have h1 := fsf_ge (fsf_y hn0 hfr) ((lw 0 5).toNatClampNeg - (i6 + 1)); rw [show i6 + 1 + ((lw 0 5).toNatClampNeg - (i6 + 1)) = (lw 0 5).toNatClampNeg from by omega] at h1; exact h1
                  have hvv : v87 = Int32.ofInt (trn (I 1009 (a2).toNatClampNeg).toInt (I 1012 (a2).toNatClampNeg).toInt (v68).toInt) := Int32.toInt_inj.mp (by have q0 := trn_r (I 1009 (a2).toNatClampNeg).toInt (I 1012 (a2).toNatClampNeg).toInt (v68).toInt; rw [i32 (c := Int32.ofInt (trn (I 1009 (a2).toNatClampNeg).toInt (I 1012 (a2).toNatClampNeg).toInt (v68).toInt)) (by omega) rfl]; unfold trn; (repeat' split) <;> omega)
                  exact m_vret hx hb hr hlocks hM hS (Nat.le_of_ble_eq_true rfl) (Nat.le_of_ble_eq_true rfl) ⟨_, _, rfl, hI, hK, (by rw [slA_s hfs, ← hto, show Int32.ofInt (trn (live I 9 (a2).toNatClampNeg).toInt (live I 12 (a2).toNatClampNeg).toInt (v68).toInt) = v87 from hvv.symm]; exact live_st (n := 9) (by rw [show I65 = I from ((funext fun n => funext fun k => hkI65 n k rfl rfl : I65 = _).trans ((funext fun n => funext fun k => hkI56 n k rfl rfl : I56 = _).trans ((funext fun n => funext fun k => hkI7 n k rfl rfl : I7 = _).trans hI6)))]; exact EqV.rf))⟩ dX10_turns_198
              · have hc74 := c74
                have q74 := q_nlt hc74
                refine lv_iload hx hb dX10_turns_137 (lv_at hl 1 rfl) ?_
                refine lv_iload hx hb dX10_turns_139 (lv_at hl 0 rfl) ?_
                refine lv_icmp_ge (tgt := 149) hx hb dX10_turns_141 (by decide) (fun c89 => ?_) (fun c89 => ?_)
                · have hc89 := c89
                  have q89 := q_le hc89
                  refine lv_iload hx hb dX10_turns_149 (lv_at hl 0 rfl) ?_
                  refine lv_goto (tgt := 175) hx hb dX10_turns_151 (by decide) ?_
                  refine lv_istore (lv' := [(8, .int (Ia6 (1012) ((a2).toNatClampNeg))), (7, .int (Ia6 (1012) ((a2).toNatClampNeg))), (6, .int (v72)), (5, .int (v68)), (4, .int (x4_6)), (0, .ref (ad (1000))), (1, .int (a0)), (2, .int (a1)), (3, .int (a2))]) hx hb dX10_turns_175 hl (by decide) rfl (fun ls hl => ?_)
                  refine lv_aload_n hx hb dX10_turns_177 rfl (lv_at hl 5 rfl) ?_
                  refine m_getr (1000) 9 (1009) hx hb hts hown hE oc10 hM hJ.1 rfl (by decide) rfl (hJ.2 9 (by decide)).2 (by decide) tb_1186 dX10_turns_178 ?_
                  refine lv_iload_n hx hb dX10_turns_181 rfl (lv_at hl 8 rfl) ?_
                  refine lv_aload_n hx hb dX10_turns_182 rfl (lv_at hl 5 rfl) ?_
                  refine m_getr (1000) 9 (1009) hx hb hts hown hE oc10 hM hJ.1 rfl (by decide) rfl (hJ.2 9 (by decide)).2 (by decide) tb_1186 dX10_turns_183 ?_
                  refine lv_iload_n hx hb dX10_turns_186 rfl (lv_at hl 8 rfl) ?_
                  refine m_iald (1009) hx hb hE hM (hJ.2 9 (by decide)).1 rfl (vp_in_iff.mpr (by omega)) dX10_turns_187 ?_
                  have z90 : I65 (1009) (a2).toNatClampNeg = Ia6 (1009) ((a2).toNatClampNeg) := (((congrFun (hkI65.getA (1009) rfl) ((a2).toNatClampNeg))).trans (congrFun (hkI56.getA (1009) rfl) ((a2).toNatClampNeg))).trans (congrFun (hkI7.getA (1009) rfl) ((a2).toNatClampNeg))
                  rw [z90]
                  refine lv_iload hx hb dX10_turns_188 (lv_at hl 0 rfl) ?_
                  refine lv_iadd hx hb dX10_turns_190 ?_
                  refine lv_topi (fun v91 ev91 => ?_)
                  have tv91 := a_add ev91 (by omega) (by omega)
                  refine lv_bipush (v := (8)) hx hb dX10_turns_191 (by decide) ?_
                  refine lv_iadd hx hb dX10_turns_193 ?_
                  refine lv_topi (fun v92 ev92 => ?_)
                  have tv92 := a_add ev92 (by omega) (by omega)
                  refine lv_bipush (v := (8)) hx hb dX10_turns_194 (by decide) ?_
                  refine lv_irem hx hb dX10_turns_196 (by decide) ?_
                  refine lv_topi (fun v93 ev93 => ?_)
                  have tv93 := a_rem (c := 8) ev93 (by decide) (by decide) (by omega)
                  refine m_iast (1009) hx hb hE hM hS (hJ.2 9 (by decide)).1 rfl (vp_in_iff.mpr (by omega)) dX10_turns_197 (fun H locs I94 eI94 hM hS => ?_)
                  subst eI94
                  have hI := hI.putF (n := 1009) (k := ((a2).toNatClampNeg)) (v := v93) rfl
                  have hK := hK.put (n := 1009) (k := ((a2).toNatClampNeg)) (v := v93) (by first | rfl | simp [inR])
                  have hfr : (firV (live I) a1 (I 1064) lw (a2).toNatClampNeg) i6 := ⟨by have z2 := tn (i := lw 2 i6) (by omega); have z3 := tn (i := a2) (by omega); omega, Or.inr (fun z => by have z4 := congrArg Int64.toInt (hvt.trans z); omega)⟩
                  have hfs : fsf (firV (live I) a1 (I 1064) lw (a2).toNatClampNeg) (lw 0 5).toNatClampNeg = some i6 := by have h1 := fsf_ge (fsf_y hn0 hfr) ((lw 0 5).toNatClampNeg - (i6 + 1)); rw [show i6 + 1 + ((lw 0 5).toNatClampNeg - (i6 + 1)) = (lw 0 5).toNatClampNeg from by omega] at h1; exact h1
                  have hvv : v93 = Int32.ofInt (trn (I 1009 (a2).toNatClampNeg).toInt (I 1012 (a2).toNatClampNeg).toInt (v68).toInt) := Int32.toInt_inj.mp (by have q0 := trn_r (I 1009 (a2).toNatClampNeg).toInt (I 1012 (a2).toNatClampNeg).toInt (v68).toInt; rw [i32 (c := Int32.ofInt (trn (I 1009 (a2).toNatClampNeg).toInt (I 1012 (a2).toNatClampNeg).toInt (v68).toInt)) (by omega) rfl]; unfold trn; (repeat' split) <;> omega)
                  exact m_vret hx hb hr hlocks hM hS (Nat.le_of_ble_eq_true rfl) (Nat.le_of_ble_eq_true rfl) ⟨_, _, rfl, hI, hK, (by rw [slA_s hfs, ← hto, show Int32.ofInt (trn (live I 9 (a2).toNatClampNeg).toInt (live I 12 (a2).toNatClampNeg).toInt (v68).toInt) = v93 from hvv.symm]; exact live_st (n := 9) (by rw [show I65 = I from ((funext fun n => funext fun k => hkI65 n k rfl rfl : I65 = _).trans ((funext fun n => funext fun k => hkI56 n k rfl rfl : I56 = _).trans ((funext fun n => funext fun k => hkI7 n k rfl rfl : I7 = _).trans hI6)))]; exact EqV.rf))⟩ dX10_turns_198
                · have hc89 := c89
                  have q89 := q_nle hc89
                  refine lv_iload hx hb dX10_turns_144 (lv_at hl 1 rfl) ?_
                  refine lv_goto (tgt := 175) hx hb dX10_turns_146 (by decide) ?_
                  refine lv_istore (lv' := [(8, .int (v72)), (7, .int (Ia6 (1012) ((a2).toNatClampNeg))), (6, .int (v72)), (5, .int (v68)), (4, .int (x4_6)), (0, .ref (ad (1000))), (1, .int (a0)), (2, .int (a1)), (3, .int (a2))]) hx hb dX10_turns_175 hl (by decide) rfl (fun ls hl => ?_)
                  refine lv_aload_n hx hb dX10_turns_177 rfl (lv_at hl 5 rfl) ?_
                  refine m_getr (1000) 9 (1009) hx hb hts hown hE oc10 hM hJ.1 rfl (by decide) rfl (hJ.2 9 (by decide)).2 (by decide) tb_1186 dX10_turns_178 ?_
                  refine lv_iload_n hx hb dX10_turns_181 rfl (lv_at hl 8 rfl) ?_
                  refine lv_aload_n hx hb dX10_turns_182 rfl (lv_at hl 5 rfl) ?_
                  refine m_getr (1000) 9 (1009) hx hb hts hown hE oc10 hM hJ.1 rfl (by decide) rfl (hJ.2 9 (by decide)).2 (by decide) tb_1186 dX10_turns_183 ?_
                  refine lv_iload_n hx hb dX10_turns_186 rfl (lv_at hl 8 rfl) ?_
                  refine m_iald (1009) hx hb hE hM (hJ.2 9 (by decide)).1 rfl (vp_in_iff.mpr (by omega)) dX10_turns_187 ?_
                  have z95 : I65 (1009) (a2).toNatClampNeg = Ia6 (1009) ((a2).toNatClampNeg) := (((congrFun (hkI65.getA (1009) rfl) ((a2).toNatClampNeg))).trans (congrFun (hkI56.getA (1009) rfl) ((a2).toNatClampNeg))).trans (congrFun (hkI7.getA (1009) rfl) ((a2).toNatClampNeg))
                  rw [z95]
                  refine lv_iload hx hb dX10_turns_188 (lv_at hl 0 rfl) ?_
                  refine lv_iadd hx hb dX10_turns_190 ?_
                  refine lv_topi (fun v96 ev96 => ?_)
                  have tv96 := a_add ev96 (by omega) (by omega)
                  refine lv_bipush (v := (8)) hx hb dX10_turns_191 (by decide) ?_
                  refine lv_iadd hx hb dX10_turns_193 ?_
                  refine lv_topi (fun v97 ev97 => ?_)
                  have tv97 := a_add ev97 (by omega) (by omega)
                  refine lv_bipush (v := (8)) hx hb dX10_turns_194 (by decide) ?_
                  refine lv_irem hx hb dX10_turns_196 (by decide) ?_
                  refine lv_topi (fun v98 ev98 => ?_)
                  have tv98 := a_rem (c := 8) ev98 (by decide) (by decide) (by omega)
                  refine m_iast (1009) hx hb hE hM hS (hJ.2 9 (by decide)).1 rfl (vp_in_iff.mpr (by omega)) dX10_turns_197 (fun H locs I99 eI99 hM hS => ?_)
                  subst eI99
                  have hI := hI.putF (n := 1009) (k := ((a2).toNatClampNeg)) (v := v98) rfl
                  have hK := hK.put (n := 1009) (k := ((a2).toNatClampNeg)) (v := v98) (by first | rfl | simp [inR])
                  have hfr : (firV (live I) a1 (I 1064) lw (a2).toNatClampNeg) i6 := ⟨by have z2 := tn (i := lw 2 i6) (by omega); have z3 := tn (i := a2) (by omega); omega, Or.inr (fun z => by have z4 := congrArg Int64.toInt (hvt.trans z); omega)⟩
                  have hfs : fsf (firV (live I) a1 (I 1064) lw (a2).toNatClampNeg) (lw 0 5).toNatClampNeg = some i6 := by have h1 := fsf_ge (fsf_y hn0 hfr) ((lw 0 5).toNatClampNeg - (i6 + 1)); rw [show i6 + 1 + ((lw 0 5).toNatClampNeg - (i6 + 1)) = (lw 0 5).toNatClampNeg from by omega] at h1; exact h1
                  have hvv : v98 = Int32.ofInt (trn (I 1009 (a2).toNatClampNeg).toInt (I 1012 (a2).toNatClampNeg).toInt (v68).toInt) := Int32.toInt_inj.mp (by have q0 := trn_r (I 1009 (a2).toNatClampNeg).toInt (I 1012 (a2).toNatClampNeg).toInt (v68).toInt; rw [i32 (c := Int32.ofInt (trn (I 1009 (a2).toNatClampNeg).toInt (I 1012 (a2).toNatClampNeg).toInt (v68).toInt)) (by omega) rfl]; unfold trn; (repeat' split) <;> omega)
                  exact m_vret hx hb hr hlocks hM hS (Nat.le_of_ble_eq_true rfl) (Nat.le_of_ble_eq_true rfl) ⟨_, _, rfl, hI, hK, (by rw [slA_s hfs, ← hto, show Int32.ofInt (trn (live I 9 (a2).toNatClampNeg).toInt (live I 12 (a2).toNatClampNeg).toInt (v68).toInt) = v98 from hvv.symm]; exact live_st (n := 9) (by rw [show I65 = I from ((funext fun n => funext fun k => hkI65 n k rfl rfl : I65 = _).trans ((funext fun n => funext fun k => hkI56 n k rfl rfl : I56 = _).trans ((funext fun n => funext fun k => hkI7 n k rfl rfl : I7 = _).trans hI6)))]; exact EqV.rf))⟩ dX10_turns_198
  exact loop6 (_ + 1) (v1) I L _ _ ls hI hK (by first | omega | decide) (by omega) (by have hl5 := hLF.1; omega) rfl (by rw [show ((v1).toInt - 12 * a0.toInt).toNat = 0 from by omega]; rfl) (Nat.lt_succ_self _) hM hS (lv_sub hl [0, 1, 2, 3, 4] rfl)
