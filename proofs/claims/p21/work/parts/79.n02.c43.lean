set_option maxHeartbeats 4000000 in
set_option maxRecDepth 20000 in
theorem V_X10_sees_a (l : Launch) (D : va_G) (A : Nat → Prop) (ad : Nat → Nat) (ns : List Nat) (I : MI) (L : ML) (G : MG) (a0 : Int32) (a1 : Int32) (hJ : SGM ns G) (hI : INV I) (hRK : RKw (live I)) (hOK : OKW (live I)) (hsk : (I 1000 59).toInt = 0) : Met l yX10_sees (wd yX10_sees cX10_sees 6 (some .int)) ({ frames := 5, cells := 0, slots := 0, locals := 128 }) (va_Pc [.ref (ad (1000)), .int a0, .int a1] (PM D A ad ns I L G)) (va_Qi (fun r u => ∃ I2 L2, u = (ad, ns, I2, L2, G) ∧ INV I2 ∧ Kp [(1009, 1010), (1045, 1051), (1066, 1067)] [(1000, 51), (1000, 52), (1000, 53), (1000, 54), (1000, 55), (1000, 56), (1000, 59)] I I2 ∧ (ANW (okL (live I) a0 ∧ 0 ≤ a1.toInt ∧ a1.toInt < ((live I) 1 8).toInt) r (seV (live I) a0 (a1).toNatClampNeg) (-1) ∧ (I2 1000 59).toInt = 0 ∧ EqV (live I) (live I2))) (BM D A) A) 0 0 A := by
  refine m_ofW (by decide) (Nat.le_of_ble_eq_true rfl) ?_
  intro p e s m below meth c ls args hC hE hM hA hS hl
  obtain ⟨hx, hb, hml, hown, hts, hr, hlocks, hin⟩ := hC
  have km1 : (-1 : Int32).toInt = -1 := by decide
  have k0 : (0 : Int32).toInt = 0 := by decide
  have k1 : (1 : Int32).toInt = 1 := by decide
  have k8 : (8 : Int32).toInt = 8 := by decide
  have k9 : (9 : Int32).toInt = 9 := by decide
  have hK : Kp [(1009, 1010), (1045, 1051), (1066, 1067)] [(1000, 51), (1000, 52), (1000, 53), (1000, 54), (1000, 55), (1000, 56), (1000, 59)] I I := Kp.rf
  have hl : lv_has ls 6 [(0, .ref (ad (1000))), (1, .int (a0)), (2, .int (a1))] := hl
  refine lv_aload_n hx hb dX10_sees_0 rfl (lv_at hl 0 rfl) ?_
  refine lv_iload_n hx hb dX10_sees_1 rfl (lv_at hl 1 rfl) ?_
  refine m_calli (m_runV (1000) (As := [.int (a0)]) (rest := []) hx hb hml hown hts hE hM hS hA ce_X10_isBright tb_1698 (V_X10_isBright_y l D A ad ns I L G (a0) hJ hI) rfl rfl ⟨Nat.le_of_ble_eq_true rfl, Nat.le_of_ble_eq_true rfl⟩ hJ.1 rfl rfl (by decide) rfl hl.1 rfl (Nat.le_of_ble_eq_true rfl) dX10_sees_2 ⟨Nat.le_of_ble_eq_true rfl, Nat.le_of_ble_eq_true rfl⟩) hS (fun r1 u H locs hw hM hS => ?_)
  obtain ⟨rfl, xr1⟩ := hw
  have hM : Mem D A ad ns I L G H := hM
  have yr1 := bo01 xr1
  refine lv_if_eq (tgt := 16) hx hb dX10_sees_5 (by decide) (fun c2 => ?_) (fun c2 => ?_)
  · have hc2 := c2
    have q2 := xr1.f hc2
    have hnoL : ¬ okL (live I) a0 := q2
    refine lv_iconst (v := (-1)) hx hb dX10_sees_16 (by decide) ?_
    exact m_iret hx hb hr hlocks hM hS (Nat.le_of_ble_eq_true rfl) (Nat.le_of_ble_eq_true rfl) ⟨_, _, rfl, hI, hK, ⟨Or.inr ⟨fun zz => hnoL zz.1, rfl⟩, hsk, EqV.rf⟩⟩ dX10_sees_17
  · have hc2 := c2
    have q2 := xr1.t hc2
    have hokL : okL (live I) a0 := q2
    have hh24 := hokL.2.1
    refine lv_aload_n hx hb dX10_sees_8 rfl (lv_at hl 0 rfl) ?_
    refine lv_iload_n hx hb dX10_sees_9 rfl (lv_at hl 2 rfl) ?_
    refine m_calli (m_runV (1000) (As := [.int (a1)]) (rest := []) hx hb hml hown hts hE hM hS hA ce_X10_isMirror tb_1462 (V_X10_isMirror l D A ad ns I L G (a1) hJ hI) rfl rfl ⟨Nat.le_of_ble_eq_true rfl, Nat.le_of_ble_eq_true rfl⟩ hJ.1 rfl rfl (by decide) rfl hl.1 rfl (Nat.le_of_ble_eq_true rfl) dX10_sees_10 ⟨Nat.le_of_ble_eq_true rfl, Nat.le_of_ble_eq_true rfl⟩) hS (fun r3 u H locs hw hM hS => ?_)
    obtain ⟨rfl, xr3⟩ := hw
    have hM : Mem D A ad ns I L G H := hM
    have yr3 := bo01 xr3
    have g4 := hI.get 1001 8 (lo := 0) (hi := 24) rfl
    refine lv_if_ne (tgt := 18) hx hb dX10_sees_13 (by decide) (fun c5 => ?_) (fun c5 => ?_)
    · have hc5 := c5
      have q5 := xr3.t hc5
      refine lv_aload_n hx hb dX10_sees_18 rfl (lv_at hl 0 rfl) ?_
      refine lv_iload_n hx hb dX10_sees_19 rfl (lv_at hl 1 rfl) ?_
      have hvA : EqV (live I) (live I) := EqV.rf
      have hVA : OKW (live I) := hOK
      have hokA : okL (live I) a0 := (okL_eq hvA hVA.1).mp hokL
      have hRKA : RKw (live I) := RKw.eq (V := (live I)) hRK hvA
      have h59A : (I 1000 59).toInt = 0 := hsk
      refine m_callv (m_runV (1000) (As := [.int (a0)]) (rest := []) hx hb hml hown hts hE hM hS hA ce_X10_shines tb_1640 (V_X10_shines_l l D A ad ns I L G (a0) hJ hI (RKw.mok hRKA EqV.rf hokA.1 h59A) (by rw [← wy_M (I := I) (h := a0)]; exact hokA.2.2) (by first | omega | decide)) rfl rfl ⟨Nat.le_of_ble_eq_true rfl, Nat.le_of_ble_eq_true rfl⟩ hJ.1 rfl rfl (by decide) rfl hl.1 rfl (Nat.le_of_ble_eq_true rfl) dX10_sees_20 ⟨Nat.le_of_ble_eq_true rfl, Nat.le_of_ble_eq_true rfl⟩) hS (fun u H locs hw hM hS => ?_)
      obtain ⟨I6, L7, rfl, hI, hkI6, xI6⟩ := hw
      have hM : Mem D A ad ns I6 L7 G H := hM
      have hK := hK.trans hkI6 rfl
      have h59xA := xI6.2
      obtain ⟨SA, hSA, hTA⟩ := SHH.sh xI6.1
      have hUA := (shV_eq hVA hvA hokL.2.1).symm.trans hTA
      refine lv_aload_n hx hb dX10_sees_23 rfl (lv_at hl 0 rfl) ?_
      refine m_getr (1000) 50 (1050) hx hb hts hown hE oc10 hM hJ.1 rfl (by decide) rfl (hJ.2 50 (by decide)).2 (by decide) tb_1227 dX10_sees_24 ?_
      refine lv_aload_n hx hb dX10_sees_27 rfl (lv_at hl 0 rfl) ?_
      refine m_getr (1000) 66 (1066) hx hb hts hown hE oc10 hM hJ.1 rfl (by decide) rfl (hJ.2 66 (by decide)).2 (by decide) tb_1243 dX10_sees_28 ?_
      refine m_callv (m_runS (As := [.ref (ad (1050)), .ref (ad (1066))]) (rest := []) hx hb hml hown hts hE hM hS hA ce_X10_copy tb_1723 (V_X10_copy_1050_1066_t l D A ad ns I6 L7 G hJ hI) rfl rfl ⟨Nat.le_of_ble_eq_true rfl, Nat.le_of_ble_eq_true rfl⟩  rfl hl.1 rfl (Nat.le_of_ble_eq_true rfl) dX10_sees_31 ⟨Nat.le_of_ble_eq_true rfl, Nat.le_of_ble_eq_true rfl⟩) hS (fun u H locs hw hM hS => ?_)
      obtain ⟨I8, L9, rfl, hI, hkI8, xI8⟩ := hw
      have hM : Mem D A ad ns I8 L9 G H := hM
      have hK := hK.trans hkI8 rfl
      refine lv_aload_n hx hb dX10_sees_34 rfl (lv_at hl 0 rfl) ?_
      refine m_getr (1000) 9 (1009) hx hb hts hown hE oc10 hM hJ.1 rfl (by decide) rfl (hJ.2 9 (by decide)).2 (by decide) tb_1186 dX10_sees_35 ?_
      refine lv_iload_n hx hb dX10_sees_38 rfl (lv_at hl 2 rfl) ?_
      refine m_iald (1009) hx hb hE hM (hJ.2 9 (by decide)).1 rfl (vp_in_iff.mpr (by omega)) dX10_sees_39 ?_
      have z10 : I8 (1009) (a1).toNatClampNeg = I (1009) ((a1).toNatClampNeg) := ((congrFun (hkI8.getA (1009) rfl) ((a1).toNatClampNeg))).trans (congrFun (hkI6.getA (1009) rfl) ((a1).toNatClampNeg))
      rw [z10]
      have hwas : I (1009) ((a1).toNatClampNeg) = live I 9 (a1).toNatClampNeg := rfl
      have hwr : 0 ≤ (I (1009) ((a1).toNatClampNeg)).toInt ∧ (I (1009) ((a1).toNatClampNeg)).toInt ≤ 7 := by rw [hwas]; exact (hRK.2.2.2.1 (a1).toNatClampNeg (by have z := tn (i := a1) (by omega); omega)).1
      refine lv_istore_n (lv' := [(3, .int (I (1009) ((a1).toNatClampNeg))), (0, .ref (ad (1000))), (1, .int (a0)), (2, .int (a1))]) hx hb dX10_sees_40 rfl hl (by decide) rfl (fun ls hl => ?_)
      refine lv_aload_n hx hb dX10_sees_41 rfl (lv_at hl 1 rfl) ?_
      refine m_getr (1000) 9 (1009) hx hb hts hown hE oc10 hM hJ.1 rfl (by decide) rfl (hJ.2 9 (by decide)).2 (by decide) tb_1186 dX10_sees_42 ?_
      refine lv_iload_n hx hb dX10_sees_45 rfl (lv_at hl 3 rfl) ?_
      refine lv_iload_n hx hb dX10_sees_46 rfl (lv_at hl 0 rfl) ?_
      refine lv_iconst (v := (1)) hx hb dX10_sees_47 (by decide) ?_
      refine lv_iadd hx hb dX10_sees_48 ?_
      refine lv_topi (fun v11 ev11 => ?_)
      have tv11 := a_add ev11 (by omega) (by omega)
      refine lv_bipush (v := (8)) hx hb dX10_sees_49 (by decide) ?_
      refine lv_irem hx hb dX10_sees_51 (by decide) ?_
      refine lv_topi (fun v12 ev12 => ?_)
      have tv12 := a_rem (c := 8) ev12 (by decide) (by decide) (by omega)
      have hw1 : v12 = w1 (live I 9 (a1).toNatClampNeg) := by rw [ev12, ev11, hwas]; rfl
      refine m_iast (1009) hx hb hE hM hS (hJ.2 9 (by decide)).1 rfl (vp_in_iff.mpr (by omega)) dX10_sees_52 (fun H locs I13 eI13 hM hS => ?_)
      subst eI13
      have hI := hI.putF (n := 1009) (k := ((a1).toNatClampNeg)) (v := v12) rfl
      have hK := hK.put (n := 1009) (k := ((a1).toNatClampNeg)) (v := v12) (by first | rfl | simp [inR])
      refine lv_aload_n hx hb dX10_sees_53 rfl (lv_at hl 1 rfl) ?_
      refine lv_iload_n hx hb dX10_sees_54 rfl (lv_at hl 2 rfl) ?_
      have hvB : EqV (stV (live I) 9 ((a1).toNatClampNeg) (v12)) (live (u2 I8 (1009) ((a1).toNatClampNeg) (v12))) := (live_st (n := 9) (EqV.tr (EqV.tr EqV.rf (live_fr hkI6 rfl)) (live_fr hkI8 rfl)))
      have hVB : OKW (stV (live I) 9 ((a1).toNatClampNeg) (v12)) := (OKW.m9 hOK)
      have hokB : okL (live (u2 I8 (1009) ((a1).toNatClampNeg) (v12))) a0 := (okL_eq hvB hVB.1).mp (show okL (stV (live I) 9 ((a1).toNatClampNeg) (v12)) a0 from hokL)
      have hRKB : RKw (live (u2 I8 (1009) ((a1).toNatClampNeg) (v12))) := RKw.eq (V := (stV (live I) 9 ((a1).toNatClampNeg) (v12))) (RKw.m9 hRK (by rw [hw1]; exact w1_r (by rw [← hwas]; exact hwr))) hvB
      have h59B : ((u2 I8 (1009) ((a1).toNatClampNeg) (v12)) 1000 59).toInt = 0 := (by rw [((show (u2 I8 (1009) ((a1).toNatClampNeg) (v12)) (1000) 59 = I8 (1000) 59 from by simp [u2_v])).trans (hkI8.get (1000) 59 rfl)]; exact h59xA)
      refine m_callv (m_runV (1000) (As := [.int (a0)]) (rest := []) hx hb hml hown hts hE hM hS hA ce_X10_shines tb_1640 (V_X10_shines_l l D A ad ns (u2 I8 (1009) ((a1).toNatClampNeg) (v12)) L9 G (a0) hJ hI (RKw.mok hRKB EqV.rf hokB.1 h59B) (by rw [← wy_M (I := (u2 I8 (1009) ((a1).toNatClampNeg) (v12))) (h := a0)]; exact hokB.2.2) (by first | omega | decide)) rfl rfl ⟨Nat.le_of_ble_eq_true rfl, Nat.le_of_ble_eq_true rfl⟩ hJ.1 rfl rfl (by decide) rfl hl.1 rfl (Nat.le_of_ble_eq_true rfl) dX10_sees_55 ⟨Nat.le_of_ble_eq_true rfl, Nat.le_of_ble_eq_true rfl⟩) hS (fun u H locs hw hM hS => ?_)
      obtain ⟨I14, L15, rfl, hI, hkI14, xI14⟩ := hw
      have hM : Mem D A ad ns I14 L15 G H := hM
      have hK := hK.trans hkI14 rfl
      have h59xB := xI14.2
      obtain ⟨SB, hSB, hTB⟩ := SHH.sh xI14.1
      have hUB := (shV_eq hVB hvB hokL.2.1).symm.trans hTB
      refine lv_aload_n hx hb dX10_sees_58 rfl (lv_at hl 1 rfl) ?_
      refine m_getr (1000) 9 (1009) hx hb hts hown hE oc10 hM hJ.1 rfl (by decide) rfl (hJ.2 9 (by decide)).2 (by decide) tb_1186 dX10_sees_59 ?_
      refine lv_iload_n hx hb dX10_sees_62 rfl (lv_at hl 3 rfl) ?_
      refine lv_iload_n hx hb dX10_sees_63 rfl (lv_at hl 0 rfl) ?_
      refine m_iast (1009) hx hb hE hM hS (hJ.2 9 (by decide)).1 rfl (vp_in_iff.mpr (by omega)) dX10_sees_64 (fun H locs I16 eI16 hM hS => ?_)
      subst eI16
      have hI := hI.putF (n := 1009) (k := ((a1).toNatClampNeg)) (v := I (1009) ((a1).toNatClampNeg)) rfl
      have hK := hK.put (n := 1009) (k := ((a1).toNatClampNeg)) (v := I (1009) ((a1).toNatClampNeg)) (by first | rfl | simp [inR])
      refine lv_iconst (v := (0)) hx hb dX10_sees_65 (by decide) ?_
      refine lv_istore (lv' := [(4, .int (0)), (3, .int (I (1009) ((a1).toNatClampNeg))), (0, .ref (ad (1000))), (1, .int (a0)), (2, .int (a1))]) hx hb dX10_sees_66 hl (by decide) rfl (fun ls hl => ?_)
      refine lv_iconst (v := (0)) hx hb dX10_sees_68 (by decide) ?_
      refine lv_istore (lv' := [(5, .int (0)), (4, .int (0)), (3, .int (I (1009) ((a1).toNatClampNeg))), (0, .ref (ad (1000))), (1, .int (a0)), (2, .int (a1))]) hx hb dX10_sees_69 hl (by decide) rfl (fun ls hl => ?_)
      have loop71 : ∀ (n : Nat) (x5_71 : Int32) (x4_71 : Int32) (Ia71 : MI) (La71 : ML) (H : Heap) (locs : List Loc) (ls : Array Slot), INV Ia71 → Kp [(1009, 1010), (1045, 1051), (1066, 1067)] [(1000, 51), (1000, 52), (1000, 53), (1000, 54), (1000, 55), (1000, 56), (1000, 59)] I Ia71 → (0 ≤ x5_71.toInt ∧ x5_71.toInt ≤ 8) → ((x5_71).toInt ≤ (I 1001 9).toInt) → ((Ia71 1000 59).toInt = 0) → (∀ k : Nat, k < 8 → Ia71 1050 k = SB.got k) → (∀ k : Nat, k < 8 → Ia71 1066 k = SA.got k) → (x4_71 = seS SB.got SA.got (x5_71).toNatClampNeg) → (EqV (live I) (live Ia71)) → (8 - x5_71.toInt).toNat < n → Mem D A ad ns Ia71 La71 G H → va_S A s.heap H locs → lv_has ls 6 [(5, .int (x5_71)), (4, .int (x4_71)), (3, .int (I (1009) ((a1).toNatClampNeg))), (0, .ref (ad (1000))), (1, .int (a0)), (2, .int (a1))] → W p l e ({ frames := 5, cells := 0, slots := 0, locals := 128 } : Room) s m args below meth c H locs 0 0 (MQ below (va_Qi (fun r u => ∃ I2 L2, u = (ad, ns, I2, L2, G) ∧ INV I2 ∧ Kp [(1009, 1010), (1045, 1051), (1066, 1067)] [(1000, 51), (1000, 52), (1000, 53), (1000, 54), (1000, 55), (1000, 56), (1000, 59)] I I2 ∧ (ANW (okL (live I) a0 ∧ 0 ≤ a1.toInt ∧ a1.toInt < ((live I) 1 8).toInt) r (seV (live I) a0 (a1).toNatClampNeg) (-1) ∧ (I2 1000 59).toInt = 0 ∧ EqV (live I) (live I2))) (BM D A) A) args s 0 0 A) (F0 m 71 ls []) := by
        intro n
        induction n with
        | zero =>
          intro x5_71 x4_71 Ia71 La71 H locs ls hI hK hr5_71 hle71 h5971 hg71 hb71 hs71 hv71 hmu
          exact absurd hmu (Nat.not_lt_zero _)
        | succ n ih71 =>
          intro x5_71 x4_71 Ia71 La71 H locs ls hI hK hr5_71 hle71 h5971 hg71 hb71 hs71 hv71 hmu71 hM hS hl
          have h9q := congrArg Int32.toInt (show Ia71 1001 9 = I 1001 9 from hK.get 1001 9 rfl)
          refine lv_iload hx hb dX10_sees_71 (lv_at hl 0 rfl) ?_
          refine lv_aload_n hx hb dX10_sees_73 rfl (lv_at hl 3 rfl) ?_
          refine m_getr (1000) 1 (1001) hx hb hts hown hE oc10 hM hJ.1 rfl (by decide) rfl (hJ.2 1 (by decide)).2 (by decide) tb_1178 dX10_sees_74 ?_
          refine lv_bipush (v := (9)) hx hb dX10_sees_77 (by decide) ?_
          refine m_iald (1001) hx hb hE hM (hJ.2 1 (by decide)).1 rfl (vp_in_iff.mpr (by decide)) dX10_sees_79 ?_
          rw [show (9 : Int32).toNatClampNeg = 9 from rfl]
          have g17 := hI.get (1001) 9 (lo := 0) (hi := 8) rfl
          refine lv_icmp_ge (tgt := 119) hx hb dX10_sees_80 (by decide) (fun c18 => ?_) (fun c18 => ?_)
          · have hc18 := c18
            have q18 := q_le hc18
            refine lv_iload hx hb dX10_sees_119 (lv_at hl 1 rfl) ?_
            exact m_iret hx hb hr hlocks hM hS (Nat.le_of_ble_eq_true rfl) (Nat.le_of_ble_eq_true rfl) ⟨_, _, rfl, hI, hK, ⟨Or.inl ⟨⟨hokL, by show 0 ≤ _ ∧ _ < (I 1001 8).toInt; omega⟩, by rw [hs71, show (x5_71).toNatClampNeg = (live I 1 9).toNatClampNeg from congrArg Int32.toNatClampNeg (Int32.toInt_inj.mp (show (x5_71).toInt = (I 1001 9).toInt by omega))]; exact (seeM hOK hUA hUB hw1)⟩, h5971, hv71⟩⟩ dX10_sees_121
          · have hc18 := c18
            have q18 := q_nle hc18
            refine lv_iload hx hb dX10_sees_83 (lv_at hl 1 rfl) ?_
            refine lv_aload_n hx hb dX10_sees_85 rfl (lv_at hl 3 rfl) ?_
            refine m_getr (1000) 50 (1050) hx hb hts hown hE oc10 hM hJ.1 rfl (by decide) rfl (hJ.2 50 (by decide)).2 (by decide) tb_1227 dX10_sees_86 ?_
            refine lv_iload hx hb dX10_sees_89 (lv_at hl 0 rfl) ?_
            refine m_iald (1050) hx hb hE hM (hJ.2 50 (by decide)).1 rfl (vp_in_iff.mpr (by omega)) dX10_sees_91 ?_
            refine lv_aload_n hx hb dX10_sees_92 rfl (lv_at hl 3 rfl) ?_
            refine m_getr (1000) 66 (1066) hx hb hts hown hE oc10 hM hJ.1 rfl (by decide) rfl (hJ.2 66 (by decide)).2 (by decide) tb_1243 dX10_sees_93 ?_
            refine lv_iload hx hb dX10_sees_96 (lv_at hl 0 rfl) ?_
            refine m_iald (1066) hx hb hE hM (hJ.2 66 (by decide)).1 rfl (vp_in_iff.mpr (by omega)) dX10_sees_98 ?_
            refine lv_icmp_eq (tgt := 109) hx hb dX10_sees_99 (by decide) (fun c19 => ?_) (fun c19 => ?_)
            · have hc19 := c19
              have q19 := q_eq hc19
              refine lv_iconst (v := (0)) hx hb dX10_sees_109 (by decide) ?_
              refine lv_ior hx hb dX10_sees_110 ?_
              refine lv_topi (fun v20 ev20 => ?_)
              refine lv_istore (lv' := [(4, .int (v20)), (5, .int (x5_71)), (3, .int (I (1009) ((a1).toNatClampNeg))), (0, .ref (ad (1000))), (1, .int (a0)), (2, .int (a1))]) hx hb dX10_sees_111 hl (by decide) rfl (fun ls hl => ?_)
              obtain ⟨v21, ev21⟩ : ∃ z : Int32, z = x5_71 + Int32.ofInt (1) := ⟨_, rfl⟩
              have tv21 := a_inc ev21 (by decide) (by omega) (by omega)
              refine lv_iinc (v := v21) (lv' := [(5, .int (v21)), (4, .int (v20)), (3, .int (I (1009) ((a1).toNatClampNeg))), (0, .ref (ad (1000))), (1, .int (a0)), (2, .int (a1))]) hx hb dX10_sees_113 hl (k := 1) rfl ev21.symm (by decide) rfl (fun ls hl => ?_)
              refine lv_goto (tgt := 71) hx hb dX10_sees_116 (by decide) ?_
              exact ih71 (v21) (v20) Ia71 La71 _ _ ls hI hK (by first | omega | decide) (by omega) h5971 hg71 hb71 (by rw [show (v21).toNatClampNeg = (x5_71).toNatClampNeg + 1 from (by have z1 := tn (i := x5_71) (by omega); have z2 := tn (i := v21) (by omega); omega)]; rw [ev20]; exact (or_z0 _).trans (hs71.trans (seS_n (Int32.toInt_inj.mp (q_eq c19)) (hg71 _ (by have z1 := tn (i := x5_71) (by omega); omega)) (hb71 _ (by have z1 := tn (i := x5_71) (by omega); omega))).symm)) hv71 (by omega) hM hS (lv_sub hl [0, 1, 2, 3, 4, 5] rfl)
            · have hc19 := c19
              have q19 := q_ne hc19
              refine lv_iconst (v := (1)) hx hb dX10_sees_102 (by decide) ?_
              refine lv_iload hx hb dX10_sees_103 (lv_at hl 0 rfl) ?_
              refine lv_ishl hx hb dX10_sees_105 ?_
              refine lv_topi (fun v22 ev22 => ?_)
              refine lv_goto (tgt := 110) hx hb dX10_sees_106 (by decide) ?_
              refine lv_ior hx hb dX10_sees_110 ?_
              refine lv_topi (fun v23 ev23 => ?_)
              refine lv_istore (lv' := [(4, .int (v23)), (5, .int (x5_71)), (3, .int (I (1009) ((a1).toNatClampNeg))), (0, .ref (ad (1000))), (1, .int (a0)), (2, .int (a1))]) hx hb dX10_sees_111 hl (by decide) rfl (fun ls hl => ?_)
              obtain ⟨v24, ev24⟩ : ∃ z : Int32, z = x5_71 + Int32.ofInt (1) := ⟨_, rfl⟩
              have tv24 := a_inc ev24 (by decide) (by omega) (by omega)
              refine lv_iinc (v := v24) (lv' := [(5, .int (v24)), (4, .int (v23)), (3, .int (I (1009) ((a1).toNatClampNeg))), (0, .ref (ad (1000))), (1, .int (a0)), (2, .int (a1))]) hx hb dX10_sees_113 hl (k := 1) rfl ev24.symm (by decide) rfl (fun ls hl => ?_)
              refine lv_goto (tgt := 71) hx hb dX10_sees_116 (by decide) ?_
              exact ih71 (v24) (v23) Ia71 La71 _ _ ls hI hK (by first | omega | decide) (by omega) h5971 hg71 hb71 (by rw [show (v24).toNatClampNeg = (x5_71).toNatClampNeg + 1 from (by have z1 := tn (i := x5_71) (by omega); have z2 := tn (i := v24) (by omega); omega)]; rw [seS_y (fun zz => q_ne c19 (congrArg Int32.toInt zz)) (hg71 _ (by have z1 := tn (i := x5_71) (by omega); omega)) (hb71 _ (by have z1 := tn (i := x5_71) (by omega); omega)) rfl (by omega), ← hs71, ev23, ev22]) hv71 (by omega) hM hS (lv_sub hl [0, 1, 2, 3, 4, 5] rfl)
      exact loop71 (_ + 1) (0) (0) (u2 I14 (1009) ((a1).toNatClampNeg) (I (1009) ((a1).toNatClampNeg))) L15 _ _ ls hI hK (by first | omega | decide) (by have g9 := hI.get 1001 9 (lo := 0) (hi := 8) rfl; have z : ((u2 I14 (1009) ((a1).toNatClampNeg) (I (1009) ((a1).toNatClampNeg))) 1001 9).toInt = (I 1001 9).toInt := congrArg Int32.toInt ((((((show (u2 I14 (1009) ((a1).toNatClampNeg) (I (1009) ((a1).toNatClampNeg))) (1001) 9 = I14 (1001) 9 from by simp [u2_v])).trans (hkI14.get (1001) 9 rfl)).trans (show (u2 I8 (1009) ((a1).toNatClampNeg) (v12)) (1001) 9 = I8 (1001) 9 from by simp [u2_v])).trans (hkI8.get (1001) 9 rfl)).trans (hkI6.get (1001) 9 rfl)); omega) (by rw [(show (u2 I14 (1009) ((a1).toNatClampNeg) (I (1009) ((a1).toNatClampNeg))) (1000) 59 = I14 (1000) 59 from by simp [u2_v])]; exact h59xB) (fun k hk => (congrFun ((show (u2 I14 (1009) ((a1).toNatClampNeg) (I (1009) ((a1).toNatClampNeg))) 1050 = I14 1050 from by funext zz; simp [u2_v])) k).trans (hSB.1 k hk)) (fun k hk => (congrFun ((((show (u2 I14 (1009) ((a1).toNatClampNeg) (I (1009) ((a1).toNatClampNeg))) 1066 = I14 1066 from by funext zz; simp [u2_v])).trans (hkI14.getA 1066 rfl)).trans (show (u2 I8 (1009) ((a1).toNatClampNeg) (v12)) 1066 = I8 1066 from by funext zz; simp [u2_v])) k).trans ((xI8 k hk).trans ((congrFun (rfl) k).trans (hSA.1 k hk)))) rfl (EqV.bk (live_st (n := 9) (EqV.tr (live_st (n := 9) (EqV.tr (EqV.tr EqV.rf (live_fr hkI6 rfl)) (live_fr hkI8 rfl))) (live_fr hkI14 rfl))) hwas) (Nat.lt_succ_self _) hM hS (lv_sub hl [0, 1, 2, 3, 4, 5] rfl)
    · have hc5 := c5
      have q5 := xr3.f hc5
      refine lv_iconst (v := (-1)) hx hb dX10_sees_16 (by decide) ?_
      exact m_iret hx hb hr hlocks hM hS (Nat.le_of_ble_eq_true rfl) (Nat.le_of_ble_eq_true rfl) ⟨_, _, rfl, hI, hK, ⟨Or.inr ⟨fun zz => (by have z2 := zz.2; have z3 : (I 1001 8).toInt = ((live I) 1 8).toInt := rfl; have z4 : (I 1001 0).toInt = 1 := hokL.1; omega), rfl⟩, hsk, EqV.rf⟩⟩ dX10_sees_17
