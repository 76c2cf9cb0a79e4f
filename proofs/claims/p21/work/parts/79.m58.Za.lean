set_option maxHeartbeats 4000000 in
set_option maxRecDepth 20000 in
theorem V_X10_traces_z (l : Launch) (D : va_G) (A : Nat → Prop) (ad : Nat → Nat) (ns : List Nat) (I : MI) (L : ML) (G : MG) (a0 : Int32) (a1 : Int32) (a2 : Int32) (hJ : SGM ns G) (hI : INV I) : Met l yX10_traces (wd yX10_traces cX10_traces 5 none) ({ frames := 3, cells := 0, slots := 0, locals := 82 }) (va_Pc [.ref (ad (1000)), .int a0, .int a1, .int a2] (PM D A ad ns I L G)) (va_Qv (fun u => ∃ I2 L2, u = (ad, ns, I2, L2, G) ∧ INV I2 ∧ Kp [(1045, 1051), (1058, 1059), (1061, 1063)] [(1000, 51), (1000, 52), (1000, 53), (1000, 54), (1000, 55), (1000, 56), (1000, 59), (1000, 63)] I I2 ∧ (ZA I2)) (BM D A) A) 0 0 A := by
  refine m_ofW (by decide) (Nat.le_of_ble_eq_true rfl) ?_
  intro p e s m below meth c ls args hC hE hM hA hS hl
  obtain ⟨hx, hb, hml, hown, hts, hr, hlocks, hin⟩ := hC
  have k0 : (0 : Int32).toInt = 0 := by decide
  have k1 : (1 : Int32).toInt = 1 := by decide
  have k24 : (24 : Int32).toInt = 24 := by decide
  have k60 : (60 : Int32).toInt = 60 := by decide
  have k576 : (576 : Int32).toInt = 576 := by decide
  have hK : Kp [(1045, 1051), (1058, 1059), (1061, 1063)] [(1000, 51), (1000, 52), (1000, 53), (1000, 54), (1000, 55), (1000, 56), (1000, 59), (1000, 63)] I I := Kp.rf
  have hl : lv_has ls 5 [(0, .ref (ad (1000))), (1, .int (a0)), (2, .int (a1)), (3, .int (a2))] := hl
  refine lv_iconst (v := (0)) hx hb dX10_traces_0 (by decide) ?_
  refine lv_istore (lv' := [(4, .int (0)), (0, .ref (ad (1000))), (1, .int (a0)), (2, .int (a1)), (3, .int (a2))]) hx hb dX10_traces_1 hl (by decide) rfl (fun ls hl => ?_)
  have loop3 : ∀ (n : Nat) (x4_3 : Int32) (Ia3 : MI) (La3 : ML) (H : Heap) (locs : List Loc) (ls : Array Slot), INV Ia3 → Kp [(1045, 1051), (1058, 1059), (1061, 1063)] [(1000, 51), (1000, 52), (1000, 53), (1000, 54), (1000, 55), (1000, 56), (1000, 59), (1000, 63)] I Ia3 → (0 ≤ x4_3.toInt ∧ x4_3.toInt ≤ 576) → (Z59 I Ia3) → (576 - x4_3.toInt).toNat < n → Mem D A ad ns Ia3 La3 G H → va_S A s.heap H locs → lv_has ls 5 [(4, .int (x4_3)), (0, .ref (ad (1000))), (1, .int (a0)), (2, .int (a1)), (3, .int (a2))] → W p l e ({ frames := 3, cells := 0, slots := 0, locals := 82 } : Room) s m args below meth c H locs 0 0 (MQ below (va_Qv (fun u => ∃ I2 L2, u = (ad, ns, I2, L2, G) ∧ INV I2 ∧ Kp [(1045, 1051), (1058, 1059), (1061, 1063)] [(1000, 51), (1000, 52), (1000, 53), (1000, 54), (1000, 55), (1000, 56), (1000, 59), (1000, 63)] I I2 ∧ (ZA I2)) (BM D A) A) args s 0 0 A) (F0 m 3 ls []) := by
    intro n
    induction n with
    | zero =>
      intro x4_3 Ia3 La3 H locs ls hI hK hr4_3 zz3 hmu
      exact absurd hmu (Nat.not_lt_zero _)
    | succ n ih3 =>
      intro x4_3 Ia3 La3 H locs ls hI hK hr4_3 zz3 hmu3 hM hS hl
      refine lv_iload hx hb dX10_traces_3 (lv_at hl 0 rfl) ?_
      refine lv_sipush (v := (576)) hx hb dX10_traces_5 (by decide) ?_
      refine lv_icmp_ge (tgt := 25) hx hb dX10_traces_8 (by decide) (fun c1 => ?_) (fun c1 => ?_)
      · have hc1 := c1
        have q1 := q_le hc1
        refine lv_aload_n hx hb dX10_traces_25 rfl (lv_at hl 1 rfl) ?_
        refine lv_iconst (v := (0)) hx hb dX10_traces_26 (by decide) ?_
        refine m_puti (1000) 51 hx hb hts hown hE oc10 hM hS hJ.1 rfl (by decide) rfl rfl rfl rfl tb_1228 dX10_traces_27 (fun H locs I2 eI2 hM hS => ?_)
        subst eI2
        have hI := hI.put (n := 1000) (k := 51) (v := 0) (lo := 0) (hi := 59) rfl (by first | omega | decide)
        have hK := hK.put (n := 1000) (k := 51) (v := 0) (by first | rfl | simp [inR])
        have zt3 : Z59 I (u2 Ia3 (1000) 51 (0)) := zz3.pt (by decide)
        refine lv_aload_n hx hb dX10_traces_30 rfl (lv_at hl 1 rfl) ?_
        refine lv_iconst (v := (0)) hx hb dX10_traces_31 (by decide) ?_
        refine m_puti (1000) 52 hx hb hts hown hE oc10 hM hS hJ.1 rfl (by decide) rfl rfl rfl rfl tb_1229 dX10_traces_32 (fun H locs I4 eI4 hM hS => ?_)
        subst eI4
        have hI := hI.put (n := 1000) (k := 52) (v := 0) (lo := 0) (hi := 60) rfl (by first | omega | decide)
        have hK := hK.put (n := 1000) (k := 52) (v := 0) (by first | rfl | simp [inR])
        have zt5 : Z59 I (u2 (u2 Ia3 (1000) 51 (0)) (1000) 52 (0)) := zt3.pt (by decide)
        refine lv_aload_n hx hb dX10_traces_35 rfl (lv_at hl 1 rfl) ?_
        refine lv_iconst (v := (0)) hx hb dX10_traces_36 (by decide) ?_
        refine m_puti (1000) 53 hx hb hts hown hE oc10 hM hS hJ.1 rfl (by decide) rfl rfl rfl rfl tb_1230 dX10_traces_37 (fun H locs I6 eI6 hM hS => ?_)
        subst eI6
        have hI := hI.putF (n := 1000) (k := 53) (v := 0) rfl
        have hK := hK.put (n := 1000) (k := 53) (v := 0) (by first | rfl | simp [inR])
        have zt7 : Z59 I (u2 (u2 (u2 Ia3 (1000) 51 (0)) (1000) 52 (0)) (1000) 53 (0)) := zt5.pt (by decide)
        refine lv_aload_n hx hb dX10_traces_40 rfl (lv_at hl 1 rfl) ?_
        refine lv_iconst (v := (0)) hx hb dX10_traces_41 (by decide) ?_
        refine m_puti (1000) 54 hx hb hts hown hE oc10 hM hS hJ.1 rfl (by decide) rfl rfl rfl rfl tb_1231 dX10_traces_42 (fun H locs I8 eI8 hM hS => ?_)
        subst eI8
        have hI := hI.putF (n := 1000) (k := 54) (v := 0) rfl
        have hK := hK.put (n := 1000) (k := 54) (v := 0) (by first | rfl | simp [inR])
        have zt9 : Z59 I (u2 (u2 (u2 (u2 Ia3 (1000) 51 (0)) (1000) 52 (0)) (1000) 53 (0)) (1000) 54 (0)) := zt7.pt (by decide)
        refine lv_aload_n hx hb dX10_traces_45 rfl (lv_at hl 1 rfl) ?_
        refine lv_iconst (v := (0)) hx hb dX10_traces_46 (by decide) ?_
        refine m_puti (1000) 55 hx hb hts hown hE oc10 hM hS hJ.1 rfl (by decide) rfl rfl rfl rfl tb_1232 dX10_traces_47 (fun H locs I10 eI10 hM hS => ?_)
        subst eI10
        have hI := hI.put (n := 1000) (k := 55) (v := 0) (lo := 0) (hi := 2000) rfl (by first | omega | decide)
        have hK := hK.put (n := 1000) (k := 55) (v := 0) (by first | rfl | simp [inR])
        have zt11 : Z59 I (u2 (u2 (u2 (u2 (u2 Ia3 (1000) 51 (0)) (1000) 52 (0)) (1000) 53 (0)) (1000) 54 (0)) (1000) 55 (0)) := zt9.pt (by decide)
        refine lv_aload_n hx hb dX10_traces_50 rfl (lv_at hl 1 rfl) ?_
        refine lv_iconst (v := (1)) hx hb dX10_traces_51 (by decide) ?_
        refine m_puti (1000) 56 hx hb hts hown hE oc10 hM hS hJ.1 rfl (by decide) rfl rfl rfl rfl tb_1233 dX10_traces_52 (fun H locs I12 eI12 hM hS => ?_)
        subst eI12
        have hI := hI.putF (n := 1000) (k := 56) (v := 1) rfl
        have hK := hK.put (n := 1000) (k := 56) (v := 1) (by first | rfl | simp [inR])
        have zt13 : Z59 I (u2 (u2 (u2 (u2 (u2 (u2 Ia3 (1000) 51 (0)) (1000) 52 (0)) (1000) 53 (0)) (1000) 54 (0)) (1000) 55 (0)) (1000) 56 (1)) := zt11.pt (by decide)
        refine lv_aload_n hx hb dX10_traces_55 rfl (lv_at hl 1 rfl) ?_
        refine lv_iload_n hx hb dX10_traces_56 rfl (lv_at hl 2 rfl) ?_
        refine lv_bipush (v := (24)) hx hb dX10_traces_57 (by decide) ?_
        refine lv_irem hx hb dX10_traces_59 (by decide) ?_
        refine lv_topi (fun v14 ev14 => ?_)
        refine lv_iload_n hx hb dX10_traces_60 rfl (lv_at hl 2 rfl) ?_
        refine lv_bipush (v := (24)) hx hb dX10_traces_61 (by decide) ?_
        refine lv_idiv hx hb dX10_traces_63 (by decide) ?_
        refine lv_topi (fun v15 ev15 => ?_)
        refine lv_iload_n hx hb dX10_traces_64 rfl (lv_at hl 3 rfl) ?_
        refine lv_iload_n hx hb dX10_traces_65 rfl (lv_at hl 4 rfl) ?_
        refine m_callv (m_runV (1000) (As := [.int (v14), .int (v15), .int (a1), .int (a2)]) (rest := []) hx hb hml hown hts hE hM hS hA ce_X10_goes tb_1648 (V_X10_goes l D A ad ns (u2 (u2 (u2 (u2 (u2 (u2 Ia3 (1000) 51 (0)) (1000) 52 (0)) (1000) 53 (0)) (1000) 54 (0)) (1000) 55 (0)) (1000) 56 (1)) La3 G (v14) (v15) (a1) (a2) hJ hI) rfl rfl ⟨Nat.le_of_ble_eq_true rfl, Nat.le_of_ble_eq_true rfl⟩ hJ.1 rfl rfl (by decide) rfl hl.1 rfl (Nat.le_of_ble_eq_true rfl) dX10_traces_66 ⟨Nat.le_of_ble_eq_true rfl, Nat.le_of_ble_eq_true rfl⟩) hS (fun u H locs hw hM hS => ?_)
        obtain ⟨I16, L17, rfl, hI, hkI16, xI16⟩ := hw
        have hM : Mem D A ad ns I16 L17 G H := hM
        have hK := hK.trans hkI16 rfl
        have pw18 : ((u2 (u2 (u2 (u2 (u2 (u2 Ia3 (1000) 51 (0)) (1000) 52 (0)) (1000) 53 (0)) (1000) 54 (0)) (1000) 55 (0)) (1000) 56 (1)) (1000) 55).toInt = (0 : Int32).toInt := congrArg Int32.toInt ((show (u2 (u2 (u2 (u2 (u2 (u2 Ia3 (1000) 51 (0)) (1000) 52 (0)) (1000) 53 (0)) (1000) 54 (0)) (1000) 55 (0)) (1000) 56 (1)) (1000) 55 = 0 from by simp [u2_v]))
        have pw19 : ((u2 (u2 (u2 (u2 (u2 (u2 Ia3 (1000) 51 (0)) (1000) 52 (0)) (1000) 53 (0)) (1000) 54 (0)) (1000) 55 (0)) (1000) 56 (1)) (1000) 52).toInt = (0 : Int32).toInt := congrArg Int32.toInt ((show (u2 (u2 (u2 (u2 (u2 (u2 Ia3 (1000) 51 (0)) (1000) 52 (0)) (1000) 53 (0)) (1000) 54 (0)) (1000) 55 (0)) (1000) 56 (1)) (1000) 52 = 0 from by simp [u2_v]))
        have zt20 : Z59 I I16 := zt13.eq (hkI16.get 1000 59 rfl)
        refine lv_aload_n hx hb dX10_traces_69 rfl (lv_at hl 1 rfl) ?_
        refine lv_iconst (v := (0)) hx hb dX10_traces_70 (by decide) ?_
        refine m_puti (1000) 59 hx hb hts hown hE oc10 hM hS hJ.1 rfl (by decide) rfl rfl rfl rfl tb_1236 dX10_traces_71 (fun H locs I21 eI21 hM hS => ?_)
        subst eI21
        have hI := hI.put (n := 1000) (k := 59) (v := 0) (lo := 0) (hi := 1) rfl (by first | omega | decide)
        have hK := hK.put (n := 1000) (k := 59) (v := 0) (by first | rfl | simp [inR])
        have zt22a : ZA (u2 I16 (1000) 59 (0)) := ZA.put rfl
        have loop74 : ∀ (n : Nat) (x4_74 : Int32) (Ia74 : MI) (La74 : ML) (H : Heap) (locs : List Loc) (ls : Array Slot), INV Ia74 → Kp [(1045, 1051), (1058, 1059), (1061, 1063)] [(1000, 51), (1000, 52), (1000, 53), (1000, 54), (1000, 55), (1000, 56), (1000, 59), (1000, 63)] I Ia74 → (ZA Ia74) → (2 * (2000 - (Ia74 1000 55).toInt) + (Ia74 1000 52).toInt).toNat < n → Mem D A ad ns Ia74 La74 G H → va_S A s.heap H locs → lv_has ls 5 [(4, .int (x4_74)), (0, .ref (ad (1000))), (1, .int (a0)), (2, .int (a1)), (3, .int (a2))] → W p l e ({ frames := 3, cells := 0, slots := 0, locals := 82 } : Room) s m args below meth c H locs 0 0 (MQ below (va_Qv (fun u => ∃ I2 L2, u = (ad, ns, I2, L2, G) ∧ INV I2 ∧ Kp [(1045, 1051), (1058, 1059), (1061, 1063)] [(1000, 51), (1000, 52), (1000, 53), (1000, 54), (1000, 55), (1000, 56), (1000, 59), (1000, 63)] I I2 ∧ (ZA I2)) (BM D A) A) args s 0 0 A) (F0 m 74 ls []) := by
          intro n
          induction n with
          | zero =>
            intro x4_74 Ia74 La74 H locs ls hI hK zz74 hmu
            exact absurd hmu (Nat.not_lt_zero _)
          | succ n ih74 =>
            intro x4_74 Ia74 La74 H locs ls hI hK zz74 hmu74 hM hS hl
            have gA74 := hI.get 1000 55 (lo := 0) (hi := 2000) rfl
            have gB74 := hI.get 1000 52 (lo := 0) (hi := 60) rfl
            refine lv_aload_n hx hb dX10_traces_74 rfl (lv_at hl 1 rfl) ?_
            refine m_geti (1000) 52 hx hb hts hown hE oc10 hM hJ.1 rfl (by decide) rfl tb_1229 dX10_traces_75 ?_
            have g23 := hI.get (1000) 52 (lo := 0) (hi := 60) rfl
            refine lv_if_le (tgt := 145) hx hb dX10_traces_78 (by decide) (fun c24 => ?_) (fun c24 => ?_)
            · have hc24 := c24
              have q24 := q_le hc24
              exact m_vret hx hb hr hlocks hM hS (Nat.le_of_ble_eq_true rfl) (Nat.le_of_ble_eq_true rfl) ⟨_, _, rfl, hI, hK, zz74⟩ dX10_traces_145
            · have hc24 := c24
              have q24 := q_nle hc24
              refine lv_aload_n hx hb dX10_traces_81 rfl (lv_at hl 1 rfl) ?_
              refine m_geti (1000) 51 hx hb hts hown hE oc10 hM hJ.1 rfl (by decide) rfl tb_1228 dX10_traces_82 ?_
              have g25 := hI.get (1000) 51 (lo := 0) (hi := 59) rfl
              refine lv_istore (lv' := [(4, .int (Ia74 (1000) 51)), (0, .ref (ad (1000))), (1, .int (a0)), (2, .int (a1)), (3, .int (a2))]) hx hb dX10_traces_85 hl (by decide) rfl (fun ls hl => ?_)
              refine lv_aload_n hx hb dX10_traces_87 rfl (lv_at hl 1 rfl) ?_
              refine lv_aload_n hx hb dX10_traces_88 rfl (lv_at hl 1 rfl) ?_
              refine m_geti (1000) 51 hx hb hts hown hE oc10 hM hJ.1 rfl (by decide) rfl tb_1228 dX10_traces_89 ?_
              refine lv_iconst (v := (1)) hx hb dX10_traces_92 (by decide) ?_
              refine lv_iadd hx hb dX10_traces_93 ?_
              refine lv_topi (fun v26 ev26 => ?_)
              have tv26 := a_add ev26 (by omega) (by omega)
              refine lv_bipush (v := (60)) hx hb dX10_traces_94 (by decide) ?_
              refine lv_irem hx hb dX10_traces_96 (by decide) ?_
              refine lv_topi (fun v27 ev27 => ?_)
              have tv27 := a_rem (c := 60) ev27 (by decide) (by decide) (by omega)
              refine m_puti (1000) 51 hx hb hts hown hE oc10 hM hS hJ.1 rfl (by decide) rfl rfl rfl rfl tb_1228 dX10_traces_97 (fun H locs I28 eI28 hM hS => ?_)
              subst eI28
              have hI := hI.put (n := 1000) (k := 51) (v := v27) (lo := 0) (hi := 59) rfl (by first | omega | decide)
              have hK := hK.put (n := 1000) (k := 51) (v := v27) (by first | rfl | simp [inR])
              have zt29a : ZA (u2 Ia74 (1000) 51 (v27)) := zz74.pt (by decide)
              refine lv_aload_n hx hb dX10_traces_100 rfl (lv_at hl 1 rfl) ?_
              refine lv_dup hx hb dX10_traces_101 rfl ?_
              refine m_geti (1000) 52 hx hb hts hown hE oc10 hM hJ.1 rfl (by decide) rfl tb_1229 dX10_traces_102 ?_
              have z30 : (u2 Ia74 (1000) 51 (v27)) (1000) 52 = Ia74 (1000) 52 := (show (u2 Ia74 (1000) 51 (v27)) (1000) 52 = Ia74 (1000) 52 from by simp [u2_v])
              rw [z30]
              refine lv_iconst (v := (1)) hx hb dX10_traces_105 (by decide) ?_
              refine lv_isub hx hb dX10_traces_106 ?_
              refine lv_topi (fun v31 ev31 => ?_)
              have tv31 := a_sub ev31 (by omega) (by omega)
              refine m_puti (1000) 52 hx hb hts hown hE oc10 hM hS hJ.1 rfl (by decide) rfl rfl rfl rfl tb_1229 dX10_traces_107 (fun H locs I32 eI32 hM hS => ?_)
              subst eI32
              have hI := hI.put (n := 1000) (k := 52) (v := v31) (lo := 0) (hi := 60) rfl (by first | omega | decide)
              have hK := hK.put (n := 1000) (k := 52) (v := v31) (by first | rfl | simp [inR])
              have zt33a : ZA (u2 (u2 Ia74 (1000) 51 (v27)) (1000) 52 (v31)) := zt29a.pt (by decide)
              refine lv_aload_n hx hb dX10_traces_110 rfl (lv_at hl 1 rfl) ?_
              refine lv_aload_n hx hb dX10_traces_111 rfl (lv_at hl 1 rfl) ?_
              refine m_getr (1000) 45 (1045) hx hb hts hown hE oc10 hM hJ.1 rfl (by decide) rfl (hJ.2 45 (by decide)).2 (by decide) tb_1222 dX10_traces_112 ?_
              refine lv_iload hx hb dX10_traces_115 (lv_at hl 0 rfl) ?_
              refine m_iald (1045) hx hb hE hM (hJ.2 45 (by decide)).1 rfl (vp_in_iff.mpr (by omega)) dX10_traces_117 ?_
              have z34 : (u2 (u2 Ia74 (1000) 51 (v27)) (1000) 52 (v31)) (1045) (Ia74 (1000) 51).toNatClampNeg = Ia74 (1045) ((Ia74 (1000) 51).toNatClampNeg) := (show (u2 (u2 Ia74 (1000) 51 (v27)) (1000) 52 (v31)) (1045) ((Ia74 (1000) 51).toNatClampNeg) = Ia74 (1045) ((Ia74 (1000) 51).toNatClampNeg) from by simp [u2_v])
              rw [z34]
              refine lv_aload_n hx hb dX10_traces_118 rfl (lv_at hl 1 rfl) ?_
              refine m_getr (1000) 46 (1046) hx hb hts hown hE oc10 hM hJ.1 rfl (by decide) rfl (hJ.2 46 (by decide)).2 (by decide) tb_1223 dX10_traces_119 ?_
              refine lv_iload hx hb dX10_traces_122 (lv_at hl 0 rfl) ?_
              refine m_iald (1046) hx hb hE hM (hJ.2 46 (by decide)).1 rfl (vp_in_iff.mpr (by omega)) dX10_traces_124 ?_
              have z35 : (u2 (u2 Ia74 (1000) 51 (v27)) (1000) 52 (v31)) (1046) (Ia74 (1000) 51).toNatClampNeg = Ia74 (1046) ((Ia74 (1000) 51).toNatClampNeg) := (show (u2 (u2 Ia74 (1000) 51 (v27)) (1000) 52 (v31)) (1046) ((Ia74 (1000) 51).toNatClampNeg) = Ia74 (1046) ((Ia74 (1000) 51).toNatClampNeg) from by simp [u2_v])
              rw [z35]
              refine lv_aload_n hx hb dX10_traces_125 rfl (lv_at hl 1 rfl) ?_
              refine m_getr (1000) 47 (1047) hx hb hts hown hE oc10 hM hJ.1 rfl (by decide) rfl (hJ.2 47 (by decide)).2 (by decide) tb_1224 dX10_traces_126 ?_
              refine lv_iload hx hb dX10_traces_129 (lv_at hl 0 rfl) ?_
              refine m_iald (1047) hx hb hE hM (hJ.2 47 (by decide)).1 rfl (vp_in_iff.mpr (by omega)) dX10_traces_131 ?_
              have z36 : (u2 (u2 Ia74 (1000) 51 (v27)) (1000) 52 (v31)) (1047) (Ia74 (1000) 51).toNatClampNeg = Ia74 (1047) ((Ia74 (1000) 51).toNatClampNeg) := (show (u2 (u2 Ia74 (1000) 51 (v27)) (1000) 52 (v31)) (1047) ((Ia74 (1000) 51).toNatClampNeg) = Ia74 (1047) ((Ia74 (1000) 51).toNatClampNeg) from by simp [u2_v])
              rw [z36]
              refine lv_aload_n hx hb dX10_traces_132 rfl (lv_at hl 1 rfl) ?_
              refine m_getr (1000) 48 (1048) hx hb hts hown hE oc10 hM hJ.1 rfl (by decide) rfl (hJ.2 48 (by decide)).2 (by decide) tb_1225 dX10_traces_133 ?_
              refine lv_iload hx hb dX10_traces_136 (lv_at hl 0 rfl) ?_
              refine m_iald (1048) hx hb hE hM (hJ.2 48 (by decide)).1 rfl (vp_in_iff.mpr (by omega)) dX10_traces_138 ?_
              have z37 : (u2 (u2 Ia74 (1000) 51 (v27)) (1000) 52 (v31)) (1048) (Ia74 (1000) 51).toNatClampNeg = Ia74 (1048) ((Ia74 (1000) 51).toNatClampNeg) := (show (u2 (u2 Ia74 (1000) 51 (v27)) (1000) 52 (v31)) (1048) ((Ia74 (1000) 51).toNatClampNeg) = Ia74 (1048) ((Ia74 (1000) 51).toNatClampNeg) from by simp [u2_v])
              rw [z37]
              refine m_callv (m_runV (1000) (As := [.int (Ia74 (1045) ((Ia74 (1000) 51).toNatClampNeg)), .int (Ia74 (1046) ((Ia74 (1000) 51).toNatClampNeg)), .int (Ia74 (1047) ((Ia74 (1000) 51).toNatClampNeg)), .int (Ia74 (1048) ((Ia74 (1000) 51).toNatClampNeg))]) (rest := []) hx hb hml hown hts hE hM hS hA ce_X10_goes tb_1648 (V_X10_goes l D A ad ns (u2 (u2 Ia74 (1000) 51 (v27)) (1000) 52 (v31)) La74 G (Ia74 (1045) ((Ia74 (1000) 51).toNatClampNeg)) (Ia74 (1046) ((Ia74 (1000) 51).toNatClampNeg)) (Ia74 (1047) ((Ia74 (1000) 51).toNatClampNeg)) (Ia74 (1048) ((Ia74 (1000) 51).toNatClampNeg)) hJ hI) rfl rfl ⟨Nat.le_of_ble_eq_true rfl, Nat.le_of_ble_eq_true rfl⟩ hJ.1 rfl rfl (by decide) rfl hl.1 rfl (Nat.le_of_ble_eq_true rfl) dX10_traces_139 ⟨Nat.le_of_ble_eq_true rfl, Nat.le_of_ble_eq_true rfl⟩) hS (fun u H locs hw hM hS => ?_)
              obtain ⟨I38, L39, rfl, hI, hkI38, xI38⟩ := hw
              have hM : Mem D A ad ns I38 L39 G H := hM
              have hK := hK.trans hkI38 rfl
              have pw40 : ((u2 (u2 Ia74 (1000) 51 (v27)) (1000) 52 (v31)) (1000) 55).toInt = (Ia74 (1000) 55 : Int32).toInt := congrArg Int32.toInt ((show (u2 (u2 Ia74 (1000) 51 (v27)) (1000) 52 (v31)) (1000) 55 = Ia74 (1000) 55 from by simp [u2_v]))
              have pw41 : ((u2 (u2 Ia74 (1000) 51 (v27)) (1000) 52 (v31)) (1000) 52).toInt = (v31 : Int32).toInt := congrArg Int32.toInt ((show (u2 (u2 Ia74 (1000) 51 (v27)) (1000) 52 (v31)) (1000) 52 = v31 from by simp [u2_v]))
              have zt42a : ZA I38 := zt33a.eq (hkI38.get 1000 59 rfl)
              refine lv_goto (tgt := 74) hx hb dX10_traces_142 (by decide) ?_
              exact ih74 (Ia74 (1000) 51) I38 L39 _ _ ls hI hK zt42a (by omega) hM hS (lv_sub hl [0, 1, 2, 3, 4] rfl)
        exact loop74 (_ + 1) (x4_3) (u2 I16 (1000) 59 (0)) L17 _ _ ls hI hK zt22a (Nat.lt_succ_self _) hM hS (lv_sub hl [0, 1, 2, 3, 4] rfl)
      · have hc1 := c1
        have q1 := q_nle hc1
        refine lv_aload_n hx hb dX10_traces_11 rfl (lv_at hl 1 rfl) ?_
        refine m_getr (1000) 49 (1049) hx hb hts hown hE oc10 hM hJ.1 rfl (by decide) rfl (hJ.2 49 (by decide)).2 (by decide) tb_1226 dX10_traces_12 ?_
        refine lv_iload hx hb dX10_traces_15 (lv_at hl 0 rfl) ?_
        refine lv_iconst (v := (0)) hx hb dX10_traces_17 (by decide) ?_
        refine m_iast (1049) hx hb hE hM hS (hJ.2 49 (by decide)).1 rfl (vp_in_iff.mpr (by omega)) dX10_traces_18 (fun H locs I43 eI43 hM hS => ?_)
        subst eI43
        have hI := hI.putF (n := 1049) (k := ((x4_3).toNatClampNeg)) (v := 0) rfl
        have hK := hK.put (n := 1049) (k := ((x4_3).toNatClampNeg)) (v := 0) (by first | rfl | simp [inR])
        have zt44 : Z59 I (u2 Ia3 (1049) ((x4_3).toNatClampNeg) (0)) := zz3.pt (fun z => absurd z.1 (by decide))
        obtain ⟨v45, ev45⟩ : ∃ z : Int32, z = x4_3 + Int32.ofInt (1) := ⟨_, rfl⟩
        have tv45 := a_inc ev45 (by decide) (by omega) (by omega)
        refine lv_iinc (v := v45) (lv' := [(4, .int (v45)), (0, .ref (ad (1000))), (1, .int (a0)), (2, .int (a1)), (3, .int (a2))]) hx hb dX10_traces_19 hl (k := 0) rfl ev45.symm (by decide) rfl (fun ls hl => ?_)
        refine lv_goto (tgt := 3) hx hb dX10_traces_22 (by decide) ?_
        exact ih3 (v45) (u2 Ia3 (1049) ((x4_3).toNatClampNeg) (0)) La3 _ _ ls hI hK (by first | omega | decide) zt44 (by omega) hM hS (lv_sub hl [0, 1, 2, 3, 4] rfl)
  exact loop3 (_ + 1) (0) I L _ _ ls hI hK (by first | omega | decide) Z59.rf (Nat.lt_succ_self _) hM hS (lv_sub hl [0, 1, 2, 3, 4] rfl)
set_option maxHeartbeats 4000000 in
set_option maxRecDepth 20000 in
theorem V_X10_shines_z (l : Launch) (D : va_G) (A : Nat → Prop) (ad : Nat → Nat) (ns : List Nat) (I : MI) (L : ML) (G : MG) (a0 : Int32) (hJ : SGM ns G) (hI : INV I) (ha0 : 0 ≤ a0.toInt ∧ a0.toInt ≤ 23) : Met l yX10_shines (wd yX10_shines cX10_shines 3 none) ({ frames := 4, cells := 0, slots := 0, locals := 106 }) (va_Pc [.ref (ad (1000)), .int a0] (PM D A ad ns I L G)) (va_Qv (fun u => ∃ I2 L2, u = (ad, ns, I2, L2, G) ∧ INV I2 ∧ Kp [(1045, 1051), (1058, 1059), (1061, 1063)] [(1000, 51), (1000, 52), (1000, 53), (1000, 54), (1000, 55), (1000, 56), (1000, 59), (1000, 63)] I I2 ∧ (ZA I2)) (BM D A) A) 0 0 A := by
  refine m_ofW (by decide) (Nat.le_of_ble_eq_true rfl) ?_
  intro p e s m below meth c ls args hC hE hM hA hS hl
  obtain ⟨hx, hb, hml, hown, hts, hr, hlocks, hin⟩ := hC
  have k0 : (0 : Int32).toInt = 0 := by decide
  have k3 : (3 : Int32).toInt = 3 := by decide
  have k5 : (5 : Int32).toInt = 5 := by decide
  have k8 : (8 : Int32).toInt = 8 := by decide
  have k24 : (24 : Int32).toInt = 24 := by decide
  have hK : Kp [(1045, 1051), (1058, 1059), (1061, 1063)] [(1000, 51), (1000, 52), (1000, 53), (1000, 54), (1000, 55), (1000, 56), (1000, 59), (1000, 63)] I I := Kp.rf
  have hl : lv_has ls 3 [(0, .ref (ad (1000))), (1, .int (a0))] := hl
  refine lv_iconst (v := (0)) hx hb dX10_shines_0 (by decide) ?_
  refine lv_istore_n (lv' := [(2, .int (0)), (0, .ref (ad (1000))), (1, .int (a0))]) hx hb dX10_shines_1 rfl hl (by decide) rfl (fun ls hl => ?_)
  have loop2 : ∀ (n : Nat) (x2_2 : Int32) (Ia2 : MI) (La2 : ML) (H : Heap) (locs : List Loc) (ls : Array Slot), INV Ia2 → Kp [(1045, 1051), (1058, 1059), (1061, 1063)] [(1000, 51), (1000, 52), (1000, 53), (1000, 54), (1000, 55), (1000, 56), (1000, 59), (1000, 63)] I Ia2 → (0 ≤ x2_2.toInt ∧ x2_2.toInt ≤ 8) → (Z59 I Ia2) → (8 - x2_2.toInt).toNat < n → Mem D A ad ns Ia2 La2 G H → va_S A s.heap H locs → lv_has ls 3 [(2, .int (x2_2)), (0, .ref (ad (1000))), (1, .int (a0))] → W p l e ({ frames := 4, cells := 0, slots := 0, locals := 106 } : Room) s m args below meth c H locs 0 0 (MQ below (va_Qv (fun u => ∃ I2 L2, u = (ad, ns, I2, L2, G) ∧ INV I2 ∧ Kp [(1045, 1051), (1058, 1059), (1061, 1063)] [(1000, 51), (1000, 52), (1000, 53), (1000, 54), (1000, 55), (1000, 56), (1000, 59), (1000, 63)] I I2 ∧ (ZA I2)) (BM D A) A) args s 0 0 A) (F0 m 2 ls []) := by
    intro n
    induction n with
    | zero =>
      intro x2_2 Ia2 La2 H locs ls hI hK hr2_2 zz2 hmu
      exact absurd hmu (Nat.not_lt_zero _)
    | succ n ih2 =>
      intro x2_2 Ia2 La2 H locs ls hI hK hr2_2 zz2 hmu2 hM hS hl
      refine lv_iload_n hx hb dX10_shines_2 rfl (lv_at hl 0 rfl) ?_
      refine lv_bipush (v := (8)) hx hb dX10_shines_3 (by decide) ?_
      refine lv_icmp_ge (tgt := 21) hx hb dX10_shines_5 (by decide) (fun c1 => ?_) (fun c1 => ?_)
      · have hc1 := c1
        have q1 := q_le hc1
        refine lv_aload_n hx hb dX10_shines_21 rfl (lv_at hl 1 rfl) ?_
        refine lv_aload_n hx hb dX10_shines_22 rfl (lv_at hl 1 rfl) ?_
        refine m_getr (1000) 1 (1001) hx hb hts hown hE oc10 hM hJ.1 rfl (by decide) rfl (hJ.2 1 (by decide)).2 (by decide) tb_1178 dX10_shines_23 ?_
        refine lv_iconst (v := (3)) hx hb dX10_shines_26 (by decide) ?_
        refine m_iald (1001) hx hb hE hM (hJ.2 1 (by decide)).1 rfl (vp_in_iff.mpr (by decide)) dX10_shines_27 ?_
        rw [show (3 : Int32).toNatClampNeg = 3 from rfl]
        refine lv_aload_n hx hb dX10_shines_28 rfl (lv_at hl 1 rfl) ?_
        refine lv_iload_n hx hb dX10_shines_29 rfl (lv_at hl 2 rfl) ?_
        refine m_calli (m_runV (1000) (As := [.int (a0)]) (rest := [.int (Ia2 (1001) 3), .ref (ad (1000))]) hx hb hml hown hts hE hM hS hA ce_X10_sunOf tb_1625 (V_X10_sunOf l D A ad ns Ia2 La2 G (a0) hJ hI (by first | omega | decide)) rfl rfl ⟨Nat.le_of_ble_eq_true rfl, Nat.le_of_ble_eq_true rfl⟩ hJ.1 rfl rfl (by decide) rfl hl.1 rfl (Nat.le_of_ble_eq_true rfl) dX10_shines_30 ⟨Nat.le_of_ble_eq_true rfl, Nat.le_of_ble_eq_true rfl⟩) hS (fun r2 u H locs hw hM hS => ?_)
        obtain ⟨rfl, xr2⟩ := hw
        have hM : Mem D A ad ns Ia2 La2 G H := hM
        refine lv_aload_n hx hb dX10_shines_33 rfl (lv_at hl 1 rfl) ?_
        refine m_getr (1000) 5 (1005) hx hb hts hown hE oc10 hM hJ.1 rfl (by decide) rfl (hJ.2 5 (by decide)).2 (by decide) tb_1182 dX10_shines_34 ?_
        refine lv_bipush (v := (24)) hx hb dX10_shines_37 (by decide) ?_
        refine lv_aload_n hx hb dX10_shines_39 rfl (lv_at hl 1 rfl) ?_
        refine m_getr (1000) 1 (1001) hx hb hts hown hE oc10 hM hJ.1 rfl (by decide) rfl (hJ.2 1 (by decide)).2 (by decide) tb_1178 dX10_shines_40 ?_
        refine lv_iconst (v := (5)) hx hb dX10_shines_43 (by decide) ?_
        refine m_iald (1001) hx hb hE hM (hJ.2 1 (by decide)).1 rfl (vp_in_iff.mpr (by decide)) dX10_shines_44 ?_
        rw [show (5 : Int32).toNatClampNeg = 5 from rfl]
        have g3 := hI.get (1001) 5 (lo := 0) (hi := 11) rfl
        refine lv_imul hx hb dX10_shines_45 ?_
        refine lv_topi (fun v4 ev4 => ?_)
        have tv4 := a_mulL (c := 24) ev4 (by decide) (by omega) (by omega)
        refine lv_iload_n hx hb dX10_shines_46 rfl (lv_at hl 2 rfl) ?_
        refine lv_iadd hx hb dX10_shines_47 ?_
        refine lv_topi (fun v5 ev5 => ?_)
        have tv5 := a_add ev5 (by omega) (by omega)
        refine m_iald (1005) hx hb hE hM (hJ.2 5 (by decide)).1 rfl (vp_in_iff.mpr (by omega)) dX10_shines_48 ?_
        refine m_callv (m_runV (1000) (As := [.int (Ia2 (1001) 3), .int (r2), .int (Ia2 (1005) (v5).toNatClampNeg)]) (rest := []) hx hb hml hown hts hE hM hS hA ce_X10_traces tb_1644 (V_X10_traces_z l D A ad ns Ia2 La2 G (Ia2 (1001) 3) (r2) (Ia2 (1005) (v5).toNatClampNeg) hJ hI) rfl rfl ⟨Nat.le_of_ble_eq_true rfl, Nat.le_of_ble_eq_true rfl⟩ hJ.1 rfl rfl (by decide) rfl hl.1 rfl (Nat.le_of_ble_eq_true rfl) dX10_shines_49 ⟨Nat.le_of_ble_eq_true rfl, Nat.le_of_ble_eq_true rfl⟩) hS (fun u H locs hw hM hS => ?_)
        obtain ⟨I6, L7, rfl, hI, hkI6, xI6⟩ := hw
        have hM : Mem D A ad ns I6 L7 G H := hM
        have hK := hK.trans hkI6 rfl
        have zI6 := xI6
        have zt8a : ZA I6 := zI6
        exact m_vret hx hb hr hlocks hM hS (Nat.le_of_ble_eq_true rfl) (Nat.le_of_ble_eq_true rfl) ⟨_, _, rfl, hI, hK, zt8a⟩ dX10_shines_52
      · have hc1 := c1
        have q1 := q_nle hc1
        refine lv_aload_n hx hb dX10_shines_8 rfl (lv_at hl 1 rfl) ?_
        refine m_getr (1000) 50 (1050) hx hb hts hown hE oc10 hM hJ.1 rfl (by decide) rfl (hJ.2 50 (by decide)).2 (by decide) tb_1227 dX10_shines_9 ?_
        refine lv_iload_n hx hb dX10_shines_12 rfl (lv_at hl 0 rfl) ?_
        refine lv_iconst (v := (0)) hx hb dX10_shines_13 (by decide) ?_
        refine m_iast (1050) hx hb hE hM hS (hJ.2 50 (by decide)).1 rfl (vp_in_iff.mpr (by omega)) dX10_shines_14 (fun H locs I9 eI9 hM hS => ?_)
        subst eI9
        have hI := hI.putF (n := 1050) (k := ((x2_2).toNatClampNeg)) (v := 0) rfl
        have hK := hK.put (n := 1050) (k := ((x2_2).toNatClampNeg)) (v := 0) (by first | rfl | simp [inR])
        have zt10 : Z59 I (u2 Ia2 (1050) ((x2_2).toNatClampNeg) (0)) := zz2.pt (fun z => absurd z.1 (by decide))
        obtain ⟨v11, ev11⟩ : ∃ z : Int32, z = x2_2 + Int32.ofInt (1) := ⟨_, rfl⟩
        have tv11 := a_inc ev11 (by decide) (by omega) (by omega)
        refine lv_iinc (v := v11) (lv' := [(2, .int (v11)), (0, .ref (ad (1000))), (1, .int (a0))]) hx hb dX10_shines_15 hl (k := 0) rfl ev11.symm (by decide) rfl (fun ls hl => ?_)
        refine lv_goto (tgt := 2) hx hb dX10_shines_18 (by decide) ?_
        exact ih2 (v11) (u2 Ia2 (1050) ((x2_2).toNatClampNeg) (0)) La2 _ _ ls hI hK (by first | omega | decide) zt10 (by omega) hM hS (lv_sub hl [0, 1, 2] rfl)
  exact loop2 (_ + 1) (0) I L _ _ ls hI hK (by first | omega | decide) Z59.rf (Nat.lt_succ_self _) hM hS (lv_sub hl [0, 1, 2] rfl)
set_option maxHeartbeats 4000000 in
set_option maxRecDepth 20000 in
theorem V_X10_follows_z (l : Launch) (D : va_G) (A : Nat → Prop) (ad : Nat → Nat) (ns : List Nat) (I : MI) (L : ML) (G : MG) (a0 : Int32) (hJ : SGM ns G) (hI : INV I) (ha0 : 0 ≤ a0.toInt ∧ a0.toInt ≤ 23) : Met l yX10_follows (wd yX10_follows cX10_follows 3 none) ({ frames := 5, cells := 0, slots := 0, locals := 128 }) (va_Pc [.ref (ad (1000)), .int a0] (PM D A ad ns I L G)) (va_Qv (fun u => ∃ I2 L2, u = (ad, ns, I2, L2, G) ∧ INV I2 ∧ Kp [(1045, 1051), (1058, 1059), (1061, 1063)] [(1000, 51), (1000, 52), (1000, 53), (1000, 54), (1000, 55), (1000, 56), (1000, 59), (1000, 63)] I I2 ∧ (Z59 I I2)) (BM D A) A) 0 0 A := by
  refine m_ofW (by decide) (Nat.le_of_ble_eq_true rfl) ?_
  intro p e s m below meth c ls args hC hE hM hA hS hl
  obtain ⟨hx, hb, hml, hown, hts, hr, hlocks, hin⟩ := hC
  have k0 : (0 : Int32).toInt = 0 := by decide
  have k1 : (1 : Int32).toInt = 1 := by decide
  have k24 : (24 : Int32).toInt = 24 := by decide
  have hK : Kp [(1045, 1051), (1058, 1059), (1061, 1063)] [(1000, 51), (1000, 52), (1000, 53), (1000, 54), (1000, 55), (1000, 56), (1000, 59), (1000, 63)] I I := Kp.rf
  have hl : lv_has ls 3 [(0, .ref (ad (1000))), (1, .int (a0))] := hl
  refine lv_iconst (v := (0)) hx hb dX10_follows_0 (by decide) ?_
  refine lv_istore_n (lv' := [(2, .int (0)), (0, .ref (ad (1000))), (1, .int (a0))]) hx hb dX10_follows_1 rfl hl (by decide) rfl (fun ls hl => ?_)
  have loop2 : ∀ (n : Nat) (x2_2 : Int32) (Ia2 : MI) (La2 : ML) (H : Heap) (locs : List Loc) (ls : Array Slot), INV Ia2 → Kp [(1045, 1051), (1058, 1059), (1061, 1063)] [(1000, 51), (1000, 52), (1000, 53), (1000, 54), (1000, 55), (1000, 56), (1000, 59), (1000, 63)] I Ia2 → (0 ≤ x2_2.toInt ∧ x2_2.toInt ≤ 24) → (Z59 I Ia2) → (24 - x2_2.toInt).toNat < n → Mem D A ad ns Ia2 La2 G H → va_S A s.heap H locs → lv_has ls 3 [(2, .int (x2_2)), (0, .ref (ad (1000))), (1, .int (a0))] → W p l e ({ frames := 5, cells := 0, slots := 0, locals := 128 } : Room) s m args below meth c H locs 0 0 (MQ below (va_Qv (fun u => ∃ I2 L2, u = (ad, ns, I2, L2, G) ∧ INV I2 ∧ Kp [(1045, 1051), (1058, 1059), (1061, 1063)] [(1000, 51), (1000, 52), (1000, 53), (1000, 54), (1000, 55), (1000, 56), (1000, 59), (1000, 63)] I I2 ∧ (Z59 I I2)) (BM D A) A) args s 0 0 A) (F0 m 2 ls []) := by
    intro n
    induction n with
    | zero =>
      intro x2_2 Ia2 La2 H locs ls hI hK hr2_2 zz2 hmu
      exact absurd hmu (Nat.not_lt_zero _)
    | succ n ih2 =>
      intro x2_2 Ia2 La2 H locs ls hI hK hr2_2 zz2 hmu2 hM hS hl
      refine lv_iload_n hx hb dX10_follows_2 rfl (lv_at hl 0 rfl) ?_
      refine lv_bipush (v := (24)) hx hb dX10_follows_3 (by decide) ?_
      refine lv_icmp_ge (tgt := 35) hx hb dX10_follows_5 (by decide) (fun c1 => ?_) (fun c1 => ?_)
      · have hc1 := c1
        have q1 := q_le hc1
        refine lv_aload_n hx hb dX10_follows_35 rfl (lv_at hl 1 rfl) ?_
        refine lv_iconst (v := (0)) hx hb dX10_follows_36 (by decide) ?_
        refine m_puti (1000) 63 hx hb hts hown hE oc10 hM hS hJ.1 rfl (by decide) rfl rfl rfl rfl tb_1240 dX10_follows_37 (fun H locs I2 eI2 hM hS => ?_)
        subst eI2
        have hI := hI.putF (n := 1000) (k := 63) (v := 0) rfl
        have hK := hK.put (n := 1000) (k := 63) (v := 0) (by first | rfl | simp [inR])
        have zt3 : Z59 I (u2 Ia2 (1000) 63 (0)) := zz2.pt (by decide)
        refine lv_aload_n hx hb dX10_follows_40 rfl (lv_at hl 1 rfl) ?_
        refine lv_iconst (v := (1)) hx hb dX10_follows_41 (by decide) ?_
        refine m_puti (1000) 59 hx hb hts hown hE oc10 hM hS hJ.1 rfl (by decide) rfl rfl rfl rfl tb_1236 dX10_follows_42 (fun H locs I4 eI4 hM hS => ?_)
        subst eI4
        have hI := hI.put (n := 1000) (k := 59) (v := 1) (lo := 0) (hi := 1) rfl (by first | omega | decide)
        have hK := hK.put (n := 1000) (k := 59) (v := 1) (by first | rfl | simp [inR])
        refine lv_aload_n hx hb dX10_follows_45 rfl (lv_at hl 1 rfl) ?_
        refine lv_iload_n hx hb dX10_follows_46 rfl (lv_at hl 2 rfl) ?_
        refine m_callv (m_runV (1000) (As := [.int (a0)]) (rest := []) hx hb hml hown hts hE hM hS hA ce_X10_shines tb_1640 (V_X10_shines_z l D A ad ns (u2 (u2 Ia2 (1000) 63 (0)) (1000) 59 (1)) La2 G (a0) hJ hI (by first | omega | decide)) rfl rfl ⟨Nat.le_of_ble_eq_true rfl, Nat.le_of_ble_eq_true rfl⟩ hJ.1 rfl rfl (by decide) rfl hl.1 rfl (Nat.le_of_ble_eq_true rfl) dX10_follows_47 ⟨Nat.le_of_ble_eq_true rfl, Nat.le_of_ble_eq_true rfl⟩) hS (fun u H locs hw hM hS => ?_)
        obtain ⟨I6, L7, rfl, hI, hkI6, xI6⟩ := hw
        have hM : Mem D A ad ns I6 L7 G H := hM
        have hK := hK.trans hkI6 rfl
        have zI6 := xI6
        have zt8a : ZA I6 := zI6
        exact m_vret hx hb hr hlocks hM hS (Nat.le_of_ble_eq_true rfl) (Nat.le_of_ble_eq_true rfl) ⟨_, _, rfl, hI, hK, (ZA.z zt8a)⟩ dX10_follows_50
      · have hc1 := c1
        have q1 := q_nle hc1
        refine lv_aload_n hx hb dX10_follows_8 rfl (lv_at hl 1 rfl) ?_
        refine m_getr (1000) 58 (1058) hx hb hts hown hE oc10 hM hJ.1 rfl (by decide) rfl (hJ.2 58 (by decide)).2 (by decide) tb_1235 dX10_follows_9 ?_
        refine lv_iload_n hx hb dX10_follows_12 rfl (lv_at hl 0 rfl) ?_
        refine lv_iconst (v := (0)) hx hb dX10_follows_13 (by decide) ?_
        refine m_zast (1058) hx hb hE hM hS (hJ.2 58 (by decide)).1 rfl (vp_in_iff.mpr (by omega)) dX10_follows_14 (fun H locs I9 eI9 hM hS => ?_)
        subst eI9
        have hI := hI.put (n := 1058) (k := ((x2_2).toNatClampNeg)) (v := vp_nar .boolean (0)) (lo := 0) (hi := 1) rfl (nar_bool _)
        have hK := hK.put (n := 1058) (k := ((x2_2).toNatClampNeg)) (v := vp_nar .boolean (0)) (by first | rfl | simp [inR])
        have zt10 : Z59 I (u2 Ia2 (1058) ((x2_2).toNatClampNeg) (vp_nar .boolean (0))) := zz2.pt (fun z => absurd z.1 (by decide))
        refine lv_aload_n hx hb dX10_follows_15 rfl (lv_at hl 1 rfl) ?_
        refine m_getr (1000) 61 (1061) hx hb hts hown hE oc10 hM hJ.1 rfl (by decide) rfl (hJ.2 61 (by decide)).2 (by decide) tb_1238 dX10_follows_16 ?_
        refine lv_iload_n hx hb dX10_follows_19 rfl (lv_at hl 0 rfl) ?_
        refine lv_iconst (v := (0)) hx hb dX10_follows_20 (by decide) ?_
        refine m_iast (1061) hx hb hE hM hS (hJ.2 61 (by decide)).1 rfl (vp_in_iff.mpr (by omega)) dX10_follows_21 (fun H locs I11 eI11 hM hS => ?_)
        subst eI11
        have hI := hI.putF (n := 1061) (k := ((x2_2).toNatClampNeg)) (v := 0) rfl
        have hK := hK.put (n := 1061) (k := ((x2_2).toNatClampNeg)) (v := 0) (by first | rfl | simp [inR])
        have zt12 : Z59 I (u2 (u2 Ia2 (1058) ((x2_2).toNatClampNeg) (vp_nar .boolean (0))) (1061) ((x2_2).toNatClampNeg) (0)) := zt10.pt (fun z => absurd z.1 (by decide))
        refine lv_aload_n hx hb dX10_follows_22 rfl (lv_at hl 1 rfl) ?_
        refine m_getr (1000) 62 (1062) hx hb hts hown hE oc10 hM hJ.1 rfl (by decide) rfl (hJ.2 62 (by decide)).2 (by decide) tb_1239 dX10_follows_23 ?_
        refine lv_iload_n hx hb dX10_follows_26 rfl (lv_at hl 0 rfl) ?_
        refine lv_iconst (v := (0)) hx hb dX10_follows_27 (by decide) ?_
        refine m_iast (1062) hx hb hE hM hS (hJ.2 62 (by decide)).1 rfl (vp_in_iff.mpr (by omega)) dX10_follows_28 (fun H locs I13 eI13 hM hS => ?_)
        subst eI13
        have hI := hI.putF (n := 1062) (k := ((x2_2).toNatClampNeg)) (v := 0) rfl
        have hK := hK.put (n := 1062) (k := ((x2_2).toNatClampNeg)) (v := 0) (by first | rfl | simp [inR])
        have zt14 : Z59 I (u2 (u2 (u2 Ia2 (1058) ((x2_2).toNatClampNeg) (vp_nar .boolean (0))) (1061) ((x2_2).toNatClampNeg) (0)) (1062) ((x2_2).toNatClampNeg) (0)) := zt12.pt (fun z => absurd z.1 (by decide))
        obtain ⟨v15, ev15⟩ : ∃ z : Int32, z = x2_2 + Int32.ofInt (1) := ⟨_, rfl⟩
        have tv15 := a_inc ev15 (by decide) (by omega) (by omega)
        refine lv_iinc (v := v15) (lv' := [(2, .int (v15)), (0, .ref (ad (1000))), (1, .int (a0))]) hx hb dX10_follows_29 hl (k := 0) rfl ev15.symm (by decide) rfl (fun ls hl => ?_)
        refine lv_goto (tgt := 2) hx hb dX10_follows_32 (by decide) ?_
        exact ih2 (v15) (u2 (u2 (u2 Ia2 (1058) ((x2_2).toNatClampNeg) (vp_nar .boolean (0))) (1061) ((x2_2).toNatClampNeg) (0)) (1062) ((x2_2).toNatClampNeg) (0)) La2 _ _ ls hI hK (by first | omega | decide) zt14 (by omega) hM hS (lv_sub hl [0, 1, 2] rfl)
  exact loop2 (_ + 1) (0) I L _ _ ls hI hK (by first | omega | decide) Z59.rf (Nat.lt_succ_self _) hM hS (lv_sub hl [0, 1, 2] rfl)
