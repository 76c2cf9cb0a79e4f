theorem LWR.segT {I : MI} {a c : Int32} (h : LWR I (a).toNatClampNeg) (h0 : 0 ≤ a.toInt) (hc : 12 * a.toInt ≤ c.toInt ∧ c.toInt < 12 * a.toInt + (I 1037 (a).toNatClampNeg).toInt) : ∃ d, net (I 1035) (I 1036) ((I 1041 (c).toNatClampNeg).toInt - (I 1040 (c).toNatClampNeg).toInt).toNat (300 * a.toInt + (I 1040 (c).toNatClampNeg).toInt).toNat 0 d := by
  have t1 := tn h0
  have t2 := tn (i := c) (by omega)
  have h1 := h.2.2.2 ((c).toNatClampNeg - 12 * (a).toNatClampNeg) (by omega)
  rw [show 12 * (a).toNatClampNeg + ((c).toNatClampNeg - 12 * (a).toNatClampNeg) = (c).toNatClampNeg from by omega] at h1
  have h2 := h1.2.2.2
  rw [t1] at h2
  exact h2
theorem LWR.segS {I : MI} {a c : Int32} (h : LWR I (a).toNatClampNeg) (h0 : 0 ≤ a.toInt) (hc : 12 * a.toInt ≤ c.toInt ∧ c.toInt < 12 * a.toInt + (I 1037 (a).toNatClampNeg).toInt) : ∃ d, net (I 1035) (I 1036) ((I 1040 (c).toNatClampNeg).toInt - (I 1039 (c).toNatClampNeg).toInt).toNat (300 * a.toInt + (I 1039 (c).toNatClampNeg).toInt).toNat 0 d := by
  have t1 := tn h0
  have t2 := tn (i := c) (by omega)
  have h1 := h.2.2.2 ((c).toNatClampNeg - 12 * (a).toNatClampNeg) (by omega)
  rw [show 12 * (a).toNatClampNeg + ((c).toNatClampNeg - 12 * (a).toNatClampNeg) = (c).toNatClampNeg from by omega] at h1
  have h2 := h1.2.2.1
  rw [t1] at h2
  exact h2
theorem dX10_answer_0 : decode cX10_answer 0 = .ok (.iconst 0, 1) := by decide +kernel
theorem dX10_answer_1 : decode cX10_answer 1 = .ok (.istore 4, 2) := by decide +kernel
theorem dX10_answer_3 : decode cX10_answer 3 = .ok (.iload_n 2, 1) := by decide +kernel
theorem dX10_answer_4 : decode cX10_answer 4 = .ok (.istore 5, 2) := by decide +kernel
theorem dX10_answer_6 : decode cX10_answer 6 = .ok (.iload 5, 2) := by decide +kernel
theorem dX10_answer_8 : decode cX10_answer 8 = .ok (.iload_n 3, 1) := by decide +kernel
theorem dX10_answer_9 : decode cX10_answer 9 = .ok (.if_icmp .ge 144, 3) := by decide +kernel
theorem dX10_answer_12 : decode cX10_answer 12 = .ok (.aload_n 0, 1) := by decide +kernel
theorem dX10_answer_13 : decode cX10_answer 13 = .ok (.getfield 87, 3) := by decide +kernel
theorem dX10_answer_16 : decode cX10_answer 16 = .ok (.sipush 300, 3) := by decide +kernel
theorem dX10_answer_19 : decode cX10_answer 19 = .ok (.iload_n 1, 1) := by decide +kernel
theorem dX10_answer_20 : decode cX10_answer 20 = .ok (.imul, 1) := by decide +kernel
theorem dX10_answer_21 : decode cX10_answer 21 = .ok (.iload 5, 2) := by decide +kernel
theorem dX10_answer_23 : decode cX10_answer 23 = .ok (.iadd, 1) := by decide +kernel
theorem dX10_answer_24 : decode cX10_answer 24 = .ok (.iaload, 1) := by decide +kernel
theorem dX10_answer_25 : decode cX10_answer 25 = .ok (.istore 6, 2) := by decide +kernel
theorem dX10_answer_27 : decode cX10_answer 27 = .ok (.aload_n 0, 1) := by decide +kernel
theorem dX10_answer_28 : decode cX10_answer 28 = .ok (.getfield 90, 3) := by decide +kernel
theorem dX10_answer_31 : decode cX10_answer 31 = .ok (.sipush 300, 3) := by decide +kernel
theorem dX10_answer_34 : decode cX10_answer 34 = .ok (.iload_n 1, 1) := by decide +kernel
theorem dX10_answer_35 : decode cX10_answer 35 = .ok (.imul, 1) := by decide +kernel
theorem dX10_answer_36 : decode cX10_answer 36 = .ok (.iload 5, 2) := by decide +kernel
theorem dX10_answer_38 : decode cX10_answer 38 = .ok (.iadd, 1) := by decide +kernel
theorem dX10_answer_39 : decode cX10_answer 39 = .ok (.iaload, 1) := by decide +kernel
theorem dX10_answer_40 : decode cX10_answer 40 = .ok (.istore 7, 2) := by decide +kernel
theorem dX10_answer_42 : decode cX10_answer 42 = .ok (.iload 6, 2) := by decide +kernel
theorem dX10_answer_44 : decode cX10_answer 44 = .ok (.ifCond .eq 9, 3) := by decide +kernel
theorem dX10_answer_47 : decode cX10_answer 47 = .ok (.iload 6, 2) := by decide +kernel
theorem dX10_answer_49 : decode cX10_answer 49 = .ok (.iconst 1, 1) := by decide +kernel
theorem dX10_answer_50 : decode cX10_answer 50 = .ok (.if_icmp .ne 34, 3) := by decide +kernel
theorem dX10_answer_53 : decode cX10_answer 53 = .ok (.aload_n 0, 1) := by decide +kernel
theorem dX10_answer_54 : decode cX10_answer 54 = .ok (.getfield 115, 3) := by decide +kernel
theorem dX10_answer_57 : decode cX10_answer 57 = .ok (.iload 4, 2) := by decide +kernel
theorem dX10_answer_59 : decode cX10_answer 59 = .ok (.iload 6, 2) := by decide +kernel
theorem dX10_answer_61 : decode cX10_answer 61 = .ok (.ifCond .ne 9, 3) := by decide +kernel
theorem dX10_answer_64 : decode cX10_answer 64 = .ok (.iload 7, 2) := by decide +kernel
theorem dX10_answer_66 : decode cX10_answer 66 = .ok (.i2l, 1) := by decide +kernel
theorem dX10_answer_67 : decode cX10_answer 67 = .ok (.goto 10, 3) := by decide +kernel
theorem dX10_answer_70 : decode cX10_answer 70 = .ok (.aload_n 0, 1) := by decide +kernel
theorem dX10_answer_71 : decode cX10_answer 71 = .ok (.getfield 111, 3) := by decide +kernel
theorem dX10_answer_74 : decode cX10_answer 74 = .ok (.iload 7, 2) := by decide +kernel
theorem dX10_answer_76 : decode cX10_answer 76 = .ok (.laload, 1) := by decide +kernel
theorem dX10_answer_77 : decode cX10_answer 77 = .ok (.lastore, 1) := by decide +kernel
theorem dX10_answer_78 : decode cX10_answer 78 = .ok (.iinc 4 1, 3) := by decide +kernel
theorem dX10_answer_81 : decode cX10_answer 81 = .ok (.goto 66, 3) := by decide +kernel
theorem dX10_answer_84 : decode cX10_answer 84 = .ok (.iload 6, 2) := by decide +kernel
theorem dX10_answer_86 : decode cX10_answer 86 = .ok (.bipush 9, 2) := by decide +kernel
theorem dX10_answer_88 : decode cX10_answer 88 = .ok (.if_icmp .ne 26, 3) := by decide +kernel
theorem dX10_answer_91 : decode cX10_answer 91 = .ok (.aload_n 0, 1) := by decide +kernel
theorem dX10_answer_92 : decode cX10_answer 92 = .ok (.getfield 115, 3) := by decide +kernel
theorem dX10_answer_95 : decode cX10_answer 95 = .ok (.iload 4, 2) := by decide +kernel
theorem dX10_answer_97 : decode cX10_answer 97 = .ok (.iconst 1, 1) := by decide +kernel
theorem dX10_answer_98 : decode cX10_answer 98 = .ok (.isub, 1) := by decide +kernel
theorem dX10_answer_99 : decode cX10_answer 99 = .ok (.lconst 1, 1) := by decide +kernel
theorem dX10_answer_100 : decode cX10_answer 100 = .ok (.aload_n 0, 1) := by decide +kernel
theorem dX10_answer_101 : decode cX10_answer 101 = .ok (.getfield 115, 3) := by decide +kernel
theorem dX10_answer_104 : decode cX10_answer 104 = .ok (.iload 4, 2) := by decide +kernel
theorem dX10_answer_106 : decode cX10_answer 106 = .ok (.iconst 1, 1) := by decide +kernel
theorem dX10_answer_107 : decode cX10_answer 107 = .ok (.isub, 1) := by decide +kernel
theorem dX10_answer_108 : decode cX10_answer 108 = .ok (.laload, 1) := by decide +kernel
theorem dX10_answer_109 : decode cX10_answer 109 = .ok (.lsub, 1) := by decide +kernel
theorem dX10_answer_110 : decode cX10_answer 110 = .ok (.lastore, 1) := by decide +kernel
theorem dX10_answer_111 : decode cX10_answer 111 = .ok (.goto 36, 3) := by decide +kernel
theorem dX10_answer_114 : decode cX10_answer 114 = .ok (.iinc 4 (-1), 3) := by decide +kernel
theorem dX10_answer_117 : decode cX10_answer 117 = .ok (.aload_n 0, 1) := by decide +kernel
theorem dX10_answer_118 : decode cX10_answer 118 = .ok (.getfield 115, 3) := by decide +kernel
theorem dX10_answer_121 : decode cX10_answer 121 = .ok (.iload 4, 2) := by decide +kernel
theorem dX10_answer_123 : decode cX10_answer 123 = .ok (.iconst 1, 1) := by decide +kernel
theorem dX10_answer_124 : decode cX10_answer 124 = .ok (.isub, 1) := by decide +kernel
theorem dX10_answer_125 : decode cX10_answer 125 = .ok (.iload 6, 2) := by decide +kernel
theorem dX10_answer_127 : decode cX10_answer 127 = .ok (.aload_n 0, 1) := by decide +kernel
theorem dX10_answer_128 : decode cX10_answer 128 = .ok (.getfield 115, 3) := by decide +kernel
theorem dX10_answer_131 : decode cX10_answer 131 = .ok (.iload 4, 2) := by decide +kernel
theorem dX10_answer_133 : decode cX10_answer 133 = .ok (.iconst 1, 1) := by decide +kernel
theorem dX10_answer_134 : decode cX10_answer 134 = .ok (.isub, 1) := by decide +kernel
theorem dX10_answer_135 : decode cX10_answer 135 = .ok (.laload, 1) := by decide +kernel
theorem dX10_answer_136 : decode cX10_answer 136 = .ok (.aload_n 0, 1) := by decide +kernel
theorem dX10_answer_137 : decode cX10_answer 137 = .ok (.getfield 115, 3) := by decide +kernel
theorem dX10_answer_140 : decode cX10_answer 140 = .ok (.iload 4, 2) := by decide +kernel
theorem dX10_answer_142 : decode cX10_answer 142 = .ok (.laload, 1) := by decide +kernel
theorem dX10_answer_143 : decode cX10_answer 143 = .ok (.invokestatic 381, 3) := by decide +kernel
theorem dX10_answer_146 : decode cX10_answer 146 = .ok (.lastore, 1) := by decide +kernel
theorem dX10_answer_147 : decode cX10_answer 147 = .ok (.iinc 5 1, 3) := by decide +kernel
theorem dX10_answer_150 : decode cX10_answer 150 = .ok (.goto (-144), 3) := by decide +kernel
theorem dX10_answer_153 : decode cX10_answer 153 = .ok (.aload_n 0, 1) := by decide +kernel
theorem dX10_answer_154 : decode cX10_answer 154 = .ok (.getfield 115, 3) := by decide +kernel
theorem dX10_answer_157 : decode cX10_answer 157 = .ok (.iconst 0, 1) := by decide +kernel
theorem dX10_answer_158 : decode cX10_answer 158 = .ok (.laload, 1) := by decide +kernel
theorem dX10_answer_159 : decode cX10_answer 159 = .ok (.lreturn, 1) := by decide +kernel
theorem ce_X10_answer : CeV RX10 yX10_answer cX10_answer 8 (some .long) 3 := ⟨tb_1632, tp_85, tb_11, tb_1633, rfl, by decide, by decide, by decide +kernel⟩
set_option maxHeartbeats 4000000 in
set_option maxRecDepth 20000 in
theorem V_X10_answer (l : Launch) (D : va_G) (A : Nat → Prop) (ad : Nat → Nat) (ns : List Nat) (I : MI) (L : ML) (G : MG) (a0 : Int32) (a1 : Int32) (a2 : Int32) (hJ : SGM ns G) (hI : INV I) (hseg : ∃ d, net (I 1035) (I 1036) (a2.toInt - a1.toInt).toNat (300 * a0.toInt + a1.toInt).toNat 0 d) (ha0 : 0 ≤ a0.toInt ∧ a0.toInt ≤ 5) (ha1 : 0 ≤ a1.toInt ∧ a1.toInt ≤ 300) (ha2 : 0 ≤ a2.toInt ∧ a2.toInt ≤ 300) : Met l yX10_answer (wd yX10_answer cX10_answer 8 (some .long)) ({ frames := 2, cells := 0, slots := 0, locals := 44 }) (va_Pc [.ref (ad (1000)), .int a0, .int a1, .int a2] (PM D A ad ns I L G)) (va_Ql (fun r u => ∃ I2 L2, u = (ad, ns, I2, L2, G) ∧ INV I2 ∧ Kp [] [] I I2) (BM D A) A) 0 0 A := by
  refine m_ofW (by decide) (Nat.le_of_ble_eq_true rfl) ?_
  intro p e s m below meth c ls args hC hE hM hA hS hl
  obtain ⟨hx, hb, hml, hown, hts, hr, hlocks, hin⟩ := hC
  have k0 : (0 : Int32).toInt = 0 := by decide
  have k1 : (1 : Int32).toInt = 1 := by decide
  have k9 : (9 : Int32).toInt = 9 := by decide
  have k300 : (300 : Int32).toInt = 300 := by decide
  have kl1 : (1 : Int64).toInt = 1 := by decide
  have hK : Kp [] [] I I := Kp.rf
  have hl : lv_has ls 8 [(0, .ref (ad (1000))), (1, .int (a0)), (2, .int (a1)), (3, .int (a2))] := hl
  refine lv_iconst (v := (0)) hx hb dX10_answer_0 (by decide) ?_
  refine lv_istore (lv' := [(4, .int (0)), (0, .ref (ad (1000))), (1, .int (a0)), (2, .int (a1)), (3, .int (a2))]) hx hb dX10_answer_1 hl (by decide) rfl (fun ls hl => ?_)
  refine lv_iload_n hx hb dX10_answer_3 rfl (lv_at hl 3 rfl) ?_
  refine lv_istore (lv' := [(5, .int (a1)), (4, .int (0)), (0, .ref (ad (1000))), (1, .int (a0)), (2, .int (a1)), (3, .int (a2))]) hx hb dX10_answer_4 hl (by decide) rfl (fun ls hl => ?_)
  have loop6 : ∀ (n : Nat) (x5_6 : Int32) (x4_6 : Int32) (Ia6 : MI) (La6 : ML) (H : Heap) (locs : List Loc) (ls : Array Slot), INV Ia6 → Kp [] [] I Ia6 → (0 ≤ x5_6.toInt ∧ x5_6.toInt ≤ 300) → (0 ≤ x4_6.toInt ∧ x4_6.toInt ≤ 300) → ((x4_6).toInt ≤ (x5_6).toInt - a1.toInt) → (∃ d, net (Ia6 1035) (Ia6 1036) (a2.toInt - (x5_6).toInt).toNat (300 * a0.toInt + (x5_6).toInt).toNat (x4_6).toNatClampNeg d) → (a2.toInt - x5_6.toInt).toNat < n → Mem D A ad ns Ia6 La6 G H → va_S A s.heap H locs → lv_has ls 8 [(5, .int (x5_6)), (4, .int (x4_6)), (0, .ref (ad (1000))), (1, .int (a0)), (2, .int (a1)), (3, .int (a2))] → W p l e ({ frames := 2, cells := 0, slots := 0, locals := 44 } : Room) s m args below meth c H locs 0 0 (MQ below (va_Ql (fun r u => ∃ I2 L2, u = (ad, ns, I2, L2, G) ∧ INV I2 ∧ Kp [] [] I I2) (BM D A) A) args s 0 0 A) (F0 m 6 ls []) := by
    intro n
    induction n with
    | zero =>
      intro x5_6 x4_6 Ia6 La6 H locs ls hI hK hr5_6 hr4_6 hn4 hnet hmu
      exact absurd hmu (Nat.not_lt_zero _)
    | succ n ih6 =>
      intro x5_6 x4_6 Ia6 La6 H locs ls hI hK hr5_6 hr4_6 hn4 hnet hmu6 hM hS hl
      refine lv_iload hx hb dX10_answer_6 (lv_at hl 0 rfl) ?_
      refine lv_iload_n hx hb dX10_answer_8 rfl (lv_at hl 5 rfl) ?_
      refine lv_icmp_ge (tgt := 153) hx hb dX10_answer_9 (by decide) (fun c1 => ?_) (fun c1 => ?_)
      · have hc1 := c1
        have q1 := q_le hc1
        refine lv_aload_n hx hb dX10_answer_153 rfl (lv_at hl 2 rfl) ?_
        refine m_getr (1000) 44 (1044) hx hb hts hown hE oc10 hM hJ.1 rfl (by decide) rfl (hJ.2 44 (by decide)).2 (by decide) tb_1221 dX10_answer_154 ?_
        refine lv_iconst (v := (0)) hx hb dX10_answer_157 (by decide) ?_
        refine m_lald (1044) hx hb hE hM (hJ.2 44 (by decide)).1 rfl (vp_in_iff.mpr (by decide)) dX10_answer_158 ?_
        rw [show (0 : Int32).toNatClampNeg = 0 from rfl]
        exact m_lret hx hb hr hlocks hM hS (Nat.le_of_ble_eq_true rfl) (Nat.le_of_ble_eq_true rfl) ⟨_, _, rfl, hI, hK⟩ dX10_answer_159
      · have hc1 := c1
        have q1 := q_nle hc1
        obtain ⟨dn, hd⟩ := hnet
        have hst := net_st hd (by omega)
        have tx4 := tn (i := x4_6) (by omega)
        have hb1 : (Ia6 1035 (300 * a0.toInt + (x5_6).toInt).toNat).toInt = 1 → 0 ≤ (Ia6 1036 (300 * a0.toInt + (x5_6).toInt).toNat).toInt ∧ (Ia6 1036 (300 * a0.toInt + (x5_6).toInt).toNat).toInt ≤ 12 := fun h => (hst.2.1 h).1
        have hb9 : (Ia6 1035 (300 * a0.toInt + (x5_6).toInt).toNat).toInt = 9 → 1 ≤ (x4_6).toNatClampNeg := fun h => (hst.2.2.1 h).1
        have hbb : (Ia6 1035 (300 * a0.toInt + (x5_6).toInt).toNat).toInt ≠ 0 ∧ (Ia6 1035 (300 * a0.toInt + (x5_6).toInt).toNat).toInt ≠ 1 ∧ (Ia6 1035 (300 * a0.toInt + (x5_6).toInt).toNat).toInt ≠ 9 → 2 ≤ (x4_6).toNatClampNeg := fun h => (hst.2.2.2 h).1
        refine lv_aload_n hx hb dX10_answer_12 rfl (lv_at hl 2 rfl) ?_
        refine m_getr (1000) 35 (1035) hx hb hts hown hE oc10 hM hJ.1 rfl (by decide) rfl (hJ.2 35 (by decide)).2 (by decide) tb_1212 dX10_answer_13 ?_
        refine lv_sipush (v := (300)) hx hb dX10_answer_16 (by decide) ?_
        refine lv_iload_n hx hb dX10_answer_19 rfl (lv_at hl 3 rfl) ?_
        refine lv_imul hx hb dX10_answer_20 ?_
        refine lv_topi (fun v2 ev2 => ?_)
        have tv2 := a_mulL (c := 300) ev2 (by decide) (by omega) (by omega)
        refine lv_iload hx hb dX10_answer_21 (lv_at hl 0 rfl) ?_
        refine lv_iadd hx hb dX10_answer_23 ?_
        refine lv_topi (fun v3 ev3 => ?_)
        have tv3 := a_add ev3 (by omega) (by omega)
        refine m_iald (1035) hx hb hE hM (hJ.2 35 (by decide)).1 rfl (vp_in_iff.mpr (by omega)) dX10_answer_24 ?_
        have es4 : (Ia6 1035 (v3).toNatClampNeg).toInt = (Ia6 1035 (300 * a0.toInt + (x5_6).toInt).toNat).toInt := by rw [show (v3).toNatClampNeg = (300 * a0.toInt + (x5_6).toInt).toNat from by have tt := tn (i := v3) (by omega); omega]
        refine lv_istore (lv' := [(6, .int (Ia6 (1035) (v3).toNatClampNeg)), (5, .int (x5_6)), (4, .int (x4_6)), (0, .ref (ad (1000))), (1, .int (a0)), (2, .int (a1)), (3, .int (a2))]) hx hb dX10_answer_25 hl (by decide) rfl (fun ls hl => ?_)
        refine lv_aload_n hx hb dX10_answer_27 rfl (lv_at hl 3 rfl) ?_
        refine m_getr (1000) 36 (1036) hx hb hts hown hE oc10 hM hJ.1 rfl (by decide) rfl (hJ.2 36 (by decide)).2 (by decide) tb_1213 dX10_answer_28 ?_
        refine lv_sipush (v := (300)) hx hb dX10_answer_31 (by decide) ?_
        refine lv_iload_n hx hb dX10_answer_34 rfl (lv_at hl 4 rfl) ?_
        refine lv_imul hx hb dX10_answer_35 ?_
        refine lv_topi (fun v5 ev5 => ?_)
        have tv5 := a_mulL (c := 300) ev5 (by decide) (by omega) (by omega)
        refine lv_iload hx hb dX10_answer_36 (lv_at hl 1 rfl) ?_
        refine lv_iadd hx hb dX10_answer_38 ?_
        refine lv_topi (fun v6 ev6 => ?_)
        have tv6 := a_add ev6 (by omega) (by omega)
        refine m_iald (1036) hx hb hE hM (hJ.2 36 (by decide)).1 rfl (vp_in_iff.mpr (by omega)) dX10_answer_39 ?_
        have es7 : (Ia6 1036 (v6).toNatClampNeg).toInt = (Ia6 1036 (300 * a0.toInt + (x5_6).toInt).toNat).toInt := by rw [show (v6).toNatClampNeg = (300 * a0.toInt + (x5_6).toInt).toNat from by have tt := tn (i := v6) (by omega); omega]
        refine lv_istore (lv' := [(7, .int (Ia6 (1036) (v6).toNatClampNeg)), (6, .int (Ia6 (1035) (v3).toNatClampNeg)), (5, .int (x5_6)), (4, .int (x4_6)), (0, .ref (ad (1000))), (1, .int (a0)), (2, .int (a1)), (3, .int (a2))]) hx hb dX10_answer_40 hl (by decide) rfl (fun ls hl => ?_)
        refine lv_iload hx hb dX10_answer_42 (lv_at hl 1 rfl) ?_
        refine lv_if_eq (tgt := 53) hx hb dX10_answer_44 (by decide) (fun c8 => ?_) (fun c8 => ?_)
        · have hc8 := c8
          have q8 := q_eq hc8
          refine lv_aload_n hx hb dX10_answer_53 rfl (lv_at hl 4 rfl) ?_
          refine m_getr (1000) 44 (1044) hx hb hts hown hE oc10 hM hJ.1 rfl (by decide) rfl (hJ.2 44 (by decide)).2 (by decide) tb_1221 dX10_answer_54 ?_
          refine lv_iload hx hb dX10_answer_57 (lv_at hl 3 rfl) ?_
          refine lv_iload hx hb dX10_answer_59 (lv_at hl 1 rfl) ?_
          refine lv_if_ne (tgt := 70) hx hb dX10_answer_61 (by decide) (fun c9 => ?_) (fun c9 => ?_)
          · have hc9 := c9
            have q9 := q_ne hc9
            refine lv_aload_n hx hb dX10_answer_70 rfl (lv_at hl 4 rfl) ?_
            refine m_getr (1000) 43 (1043) hx hb hts hown hE oc10 hM hJ.1 rfl (by decide) rfl (hJ.2 43 (by decide)).2 (by decide) tb_1220 dX10_answer_71 ?_
            refine lv_iload hx hb dX10_answer_74 (lv_at hl 0 rfl) ?_
            refine m_lald (1043) hx hb hE hM (hJ.2 43 (by decide)).1 rfl (vp_in_iff.mpr (by omega)) dX10_answer_76 ?_
            refine m_last (1044) hx hb hE hM hS (hJ.2 44 (by decide)).1 rfl (vp_in_iff.mpr (by omega)) dX10_answer_77 (fun H locs L10 eL10 hM hS => ?_)
            obtain ⟨v11, ev11⟩ : ∃ z : Int32, z = x4_6 + Int32.ofInt (1) := ⟨_, rfl⟩
            have tv11 := a_inc ev11 (by decide) (by omega) (by omega)
            refine lv_iinc (v := v11) (lv' := [(4, .int (v11)), (7, .int (Ia6 (1036) (v6).toNatClampNeg)), (6, .int (Ia6 (1035) (v3).toNatClampNeg)), (5, .int (x5_6)), (0, .ref (ad (1000))), (1, .int (a0)), (2, .int (a1)), (3, .int (a2))]) hx hb dX10_answer_78 hl (k := 3) rfl ev11.symm (by decide) rfl (fun ls hl => ?_)
            refine lv_goto (tgt := 147) hx hb dX10_answer_81 (by decide) ?_
            obtain ⟨v12, ev12⟩ : ∃ z : Int32, z = x5_6 + Int32.ofInt (1) := ⟨_, rfl⟩
            have tv12 := a_inc ev12 (by decide) (by omega) (by omega)
            refine lv_iinc (v := v12) (lv' := [(5, .int (v12)), (4, .int (v11)), (7, .int (Ia6 (1036) (v6).toNatClampNeg)), (6, .int (Ia6 (1035) (v3).toNatClampNeg)), (0, .ref (ad (1000))), (1, .int (a0)), (2, .int (a1)), (3, .int (a2))]) hx hb dX10_answer_147 hl (k := 3) rfl ev12.symm (by decide) rfl (fun ls hl => ?_)
            refine lv_goto (tgt := 6) hx hb dX10_answer_150 (by decide) ?_
            exact ih6 (v12) (v11) Ia6 L10 _ _ ls hI hK (by first | omega | decide) (by first | omega | decide) (by omega) ⟨dn, by rw [show (a2.toInt - (v12).toInt).toNat = (a2.toInt - (x5_6).toInt).toNat - 1 from by omega, show (300 * a0.toInt + (v12).toInt).toNat = (300 * a0.toInt + (x5_6).toInt).toNat + 1 from by omega, show (v11).toNatClampNeg = (x4_6).toNatClampNeg + 1 from by have ty := tn (i := v11) (by omega); omega]; exact hst.1 (by omega)⟩ (by omega) hM hS (lv_sub hl [0, 1, 4, 5, 6, 7] rfl)
          · have hc9 := c9
            have q9 := q_eq hc9
            refine lv_iload hx hb dX10_answer_64 (lv_at hl 0 rfl) ?_
            refine lv_i2l hx hb dX10_answer_66 rfl ?_
            refine lv_topl (fun v13 ev13 => ?_)
            have tv13 := q_i2l ev13
            refine lv_goto (tgt := 77) hx hb dX10_answer_67 (by decide) ?_
            refine m_last (1044) hx hb hE hM hS (hJ.2 44 (by decide)).1 rfl (vp_in_iff.mpr (by omega)) dX10_answer_77 (fun H locs L14 eL14 hM hS => ?_)
            obtain ⟨v15, ev15⟩ : ∃ z : Int32, z = x4_6 + Int32.ofInt (1) := ⟨_, rfl⟩
            have tv15 := a_inc ev15 (by decide) (by omega) (by omega)
            refine lv_iinc (v := v15) (lv' := [(4, .int (v15)), (7, .int (Ia6 (1036) (v6).toNatClampNeg)), (6, .int (Ia6 (1035) (v3).toNatClampNeg)), (5, .int (x5_6)), (0, .ref (ad (1000))), (1, .int (a0)), (2, .int (a1)), (3, .int (a2))]) hx hb dX10_answer_78 hl (k := 3) rfl ev15.symm (by decide) rfl (fun ls hl => ?_)
            refine lv_goto (tgt := 147) hx hb dX10_answer_81 (by decide) ?_
            obtain ⟨v16, ev16⟩ : ∃ z : Int32, z = x5_6 + Int32.ofInt (1) := ⟨_, rfl⟩
            have tv16 := a_inc ev16 (by decide) (by omega) (by omega)
            refine lv_iinc (v := v16) (lv' := [(5, .int (v16)), (4, .int (v15)), (7, .int (Ia6 (1036) (v6).toNatClampNeg)), (6, .int (Ia6 (1035) (v3).toNatClampNeg)), (0, .ref (ad (1000))), (1, .int (a0)), (2, .int (a1)), (3, .int (a2))]) hx hb dX10_answer_147 hl (k := 3) rfl ev16.symm (by decide) rfl (fun ls hl => ?_)
            refine lv_goto (tgt := 6) hx hb dX10_answer_150 (by decide) ?_
            exact ih6 (v16) (v15) Ia6 L14 _ _ ls hI hK (by first | omega | decide) (by first | omega | decide) (by omega) ⟨dn, by rw [show (a2.toInt - (v16).toInt).toNat = (a2.toInt - (x5_6).toInt).toNat - 1 from by omega, show (300 * a0.toInt + (v16).toInt).toNat = (300 * a0.toInt + (x5_6).toInt).toNat + 1 from by omega, show (v15).toNatClampNeg = (x4_6).toNatClampNeg + 1 from by have ty := tn (i := v15) (by omega); omega]; exact hst.1 (by omega)⟩ (by omega) hM hS (lv_sub hl [0, 1, 4, 5, 6, 7] rfl)
        · have hc8 := c8
          have q8 := q_ne hc8
          refine lv_iload hx hb dX10_answer_47 (lv_at hl 1 rfl) ?_
          refine lv_iconst (v := (1)) hx hb dX10_answer_49 (by decide) ?_
          refine lv_icmp_ne (tgt := 84) hx hb dX10_answer_50 (by decide) (fun c17 => ?_) (fun c17 => ?_)
          · have hc17 := c17
            have q17 := q_ne hc17
            refine lv_iload hx hb dX10_answer_84 (lv_at hl 1 rfl) ?_
            refine lv_bipush (v := (9)) hx hb dX10_answer_86 (by decide) ?_
            refine lv_icmp_ne (tgt := 114) hx hb dX10_answer_88 (by decide) (fun c18 => ?_) (fun c18 => ?_)
            · have hc18 := c18
              have q18 := q_ne hc18
              obtain ⟨v19, ev19⟩ : ∃ z : Int32, z = x4_6 + Int32.ofInt (-1) := ⟨_, rfl⟩
              have tv19 := a_inc ev19 (by decide) (by omega) (by omega)
              refine lv_iinc (v := v19) (lv' := [(4, .int (v19)), (7, .int (Ia6 (1036) (v6).toNatClampNeg)), (6, .int (Ia6 (1035) (v3).toNatClampNeg)), (5, .int (x5_6)), (0, .ref (ad (1000))), (1, .int (a0)), (2, .int (a1)), (3, .int (a2))]) hx hb dX10_answer_114 hl (k := 3) rfl ev19.symm (by decide) rfl (fun ls hl => ?_)
              refine lv_aload_n hx hb dX10_answer_117 rfl (lv_at hl 4 rfl) ?_
              refine m_getr (1000) 44 (1044) hx hb hts hown hE oc10 hM hJ.1 rfl (by decide) rfl (hJ.2 44 (by decide)).2 (by decide) tb_1221 dX10_answer_118 ?_
              refine lv_iload hx hb dX10_answer_121 (lv_at hl 0 rfl) ?_
              refine lv_iconst (v := (1)) hx hb dX10_answer_123 (by decide) ?_
              refine lv_isub hx hb dX10_answer_124 ?_
              refine lv_topi (fun v20 ev20 => ?_)
              have tv20 := a_sub ev20 (by omega) (by omega)
              refine lv_iload hx hb dX10_answer_125 (lv_at hl 2 rfl) ?_
              refine lv_aload_n hx hb dX10_answer_127 rfl (lv_at hl 4 rfl) ?_
              refine m_getr (1000) 44 (1044) hx hb hts hown hE oc10 hM hJ.1 rfl (by decide) rfl (hJ.2 44 (by decide)).2 (by decide) tb_1221 dX10_answer_128 ?_
              refine lv_iload hx hb dX10_answer_131 (lv_at hl 0 rfl) ?_
              refine lv_iconst (v := (1)) hx hb dX10_answer_133 (by decide) ?_
              refine lv_isub hx hb dX10_answer_134 ?_
              refine lv_topi (fun v21 ev21 => ?_)
              have tv21 := a_sub ev21 (by omega) (by omega)
              refine m_lald (1044) hx hb hE hM (hJ.2 44 (by decide)).1 rfl (vp_in_iff.mpr (by omega)) dX10_answer_135 ?_
              refine lv_aload_n hx hb dX10_answer_136 rfl (lv_at hl 4 rfl) ?_
              refine m_getr (1000) 44 (1044) hx hb hts hown hE oc10 hM hJ.1 rfl (by decide) rfl (hJ.2 44 (by decide)).2 (by decide) tb_1221 dX10_answer_137 ?_
              refine lv_iload hx hb dX10_answer_140 (lv_at hl 0 rfl) ?_
              refine m_lald (1044) hx hb hE hM (hJ.2 44 (by decide)).1 rfl (vp_in_iff.mpr (by omega)) dX10_answer_142 ?_
              refine m_calll (m_runS (As := [.int (Ia6 (1035) (v3).toNatClampNeg), .long (La6 (1044) (v21).toNatClampNeg), .long (La6 (1044) (v19).toNatClampNeg)]) (rest := [.int (v20), .ref (ad (1044))]) hx hb hml hown hts hE hM hS hA ce_X10_both tb_1634 (V_X10_both l D A ad ns Ia6 La6 G (Ia6 (1035) (v3).toNatClampNeg) (La6 (1044) (v21).toNatClampNeg) (La6 (1044) (v19).toNatClampNeg) hI) rfl rfl ⟨Nat.le_of_ble_eq_true rfl, Nat.le_of_ble_eq_true rfl⟩  rfl hl.1 rfl (Nat.le_of_ble_eq_true rfl) dX10_answer_143 ⟨Nat.le_of_ble_eq_true rfl, Nat.le_of_ble_eq_true rfl⟩) hS (fun r22 u H locs hw hM hS => ?_)
              obtain ⟨rfl, xr22⟩ := hw
              have hM : Mem D A ad ns Ia6 La6 G H := hM
              refine m_last (1044) hx hb hE hM hS (hJ.2 44 (by decide)).1 rfl (vp_in_iff.mpr (by omega)) dX10_answer_146 (fun H locs L23 eL23 hM hS => ?_)
              obtain ⟨v24, ev24⟩ : ∃ z : Int32, z = x5_6 + Int32.ofInt (1) := ⟨_, rfl⟩
              have tv24 := a_inc ev24 (by decide) (by omega) (by omega)
              refine lv_iinc (v := v24) (lv' := [(5, .int (v24)), (4, .int (v19)), (7, .int (Ia6 (1036) (v6).toNatClampNeg)), (6, .int (Ia6 (1035) (v3).toNatClampNeg)), (0, .ref (ad (1000))), (1, .int (a0)), (2, .int (a1)), (3, .int (a2))]) hx hb dX10_answer_147 hl (k := 3) rfl ev24.symm (by decide) rfl (fun ls hl => ?_)
              refine lv_goto (tgt := 6) hx hb dX10_answer_150 (by decide) ?_
              exact ih6 (v24) (v19) Ia6 L23 _ _ ls hI hK (by first | omega | decide) (by first | omega | decide) (by omega) ⟨dn, by rw [show (a2.toInt - (v24).toInt).toNat = (a2.toInt - (x5_6).toInt).toNat - 1 from by omega, show (300 * a0.toInt + (v24).toInt).toNat = (300 * a0.toInt + (x5_6).toInt).toNat + 1 from by omega, show (v19).toNatClampNeg = (x4_6).toNatClampNeg - 1 from by have ty := tn (i := v19) (by omega); omega]; exact (hst.2.2.2 (by omega)).2⟩ (by omega) hM hS (lv_sub hl [0, 1, 4, 5, 6, 7] rfl)
            · have hc18 := c18
              have q18 := q_eq hc18
              refine lv_aload_n hx hb dX10_answer_91 rfl (lv_at hl 4 rfl) ?_
              refine m_getr (1000) 44 (1044) hx hb hts hown hE oc10 hM hJ.1 rfl (by decide) rfl (hJ.2 44 (by decide)).2 (by decide) tb_1221 dX10_answer_92 ?_
              refine lv_iload hx hb dX10_answer_95 (lv_at hl 3 rfl) ?_
              refine lv_iconst (v := (1)) hx hb dX10_answer_97 (by decide) ?_
              refine lv_isub hx hb dX10_answer_98 ?_
              refine lv_topi (fun v25 ev25 => ?_)
              have tv25 := a_sub ev25 (by omega) (by omega)
              refine lv_lconst (v := 1) hx hb dX10_answer_99 (by decide) ?_
              refine lv_aload_n hx hb dX10_answer_100 rfl (lv_at hl 4 rfl) ?_
              refine m_getr (1000) 44 (1044) hx hb hts hown hE oc10 hM hJ.1 rfl (by decide) rfl (hJ.2 44 (by decide)).2 (by decide) tb_1221 dX10_answer_101 ?_
              refine lv_iload hx hb dX10_answer_104 (lv_at hl 3 rfl) ?_
              refine lv_iconst (v := (1)) hx hb dX10_answer_106 (by decide) ?_
              refine lv_isub hx hb dX10_answer_107 ?_
              refine lv_topi (fun v26 ev26 => ?_)
              have tv26 := a_sub ev26 (by omega) (by omega)
              refine m_lald (1044) hx hb hE hM (hJ.2 44 (by decide)).1 rfl (vp_in_iff.mpr (by omega)) dX10_answer_108 ?_
              refine lv_lsub hx hb dX10_answer_109 ?_
              refine lv_topl (fun v27 ev27 => ?_)
              refine m_last (1044) hx hb hE hM hS (hJ.2 44 (by decide)).1 rfl (vp_in_iff.mpr (by omega)) dX10_answer_110 (fun H locs L28 eL28 hM hS => ?_)
              refine lv_goto (tgt := 147) hx hb dX10_answer_111 (by decide) ?_
              obtain ⟨v29, ev29⟩ : ∃ z : Int32, z = x5_6 + Int32.ofInt (1) := ⟨_, rfl⟩
              have tv29 := a_inc ev29 (by decide) (by omega) (by omega)
              refine lv_iinc (v := v29) (lv' := [(5, .int (v29)), (7, .int (Ia6 (1036) (v6).toNatClampNeg)), (6, .int (Ia6 (1035) (v3).toNatClampNeg)), (4, .int (x4_6)), (0, .ref (ad (1000))), (1, .int (a0)), (2, .int (a1)), (3, .int (a2))]) hx hb dX10_answer_147 hl (k := 2) rfl ev29.symm (by decide) rfl (fun ls hl => ?_)
              refine lv_goto (tgt := 6) hx hb dX10_answer_150 (by decide) ?_
              exact ih6 (v29) (x4_6) Ia6 L28 _ _ ls hI hK (by first | omega | decide) (by first | omega | decide) (by omega) ⟨dn, by rw [show (a2.toInt - (v29).toInt).toNat = (a2.toInt - (x5_6).toInt).toNat - 1 from by omega, show (300 * a0.toInt + (v29).toInt).toNat = (300 * a0.toInt + (x5_6).toInt).toNat + 1 from by omega, show (x4_6).toNatClampNeg = (x4_6).toNatClampNeg from by have ty := tn (i := x4_6) (by omega); omega]; exact (hst.2.2.1 (by omega)).2⟩ (by omega) hM hS (lv_sub hl [0, 3, 4, 5, 6, 7] rfl)
          · have hc17 := c17
            have q17 := q_eq hc17
            refine lv_aload_n hx hb dX10_answer_53 rfl (lv_at hl 4 rfl) ?_
            refine m_getr (1000) 44 (1044) hx hb hts hown hE oc10 hM hJ.1 rfl (by decide) rfl (hJ.2 44 (by decide)).2 (by decide) tb_1221 dX10_answer_54 ?_
            refine lv_iload hx hb dX10_answer_57 (lv_at hl 3 rfl) ?_
            refine lv_iload hx hb dX10_answer_59 (lv_at hl 1 rfl) ?_
            refine lv_if_ne (tgt := 70) hx hb dX10_answer_61 (by decide) (fun c30 => ?_) (fun c30 => ?_)
            · have hc30 := c30
              have q30 := q_ne hc30
              refine lv_aload_n hx hb dX10_answer_70 rfl (lv_at hl 4 rfl) ?_
              refine m_getr (1000) 43 (1043) hx hb hts hown hE oc10 hM hJ.1 rfl (by decide) rfl (hJ.2 43 (by decide)).2 (by decide) tb_1220 dX10_answer_71 ?_
              refine lv_iload hx hb dX10_answer_74 (lv_at hl 0 rfl) ?_
              refine m_lald (1043) hx hb hE hM (hJ.2 43 (by decide)).1 rfl (vp_in_iff.mpr (by omega)) dX10_answer_76 ?_
              refine m_last (1044) hx hb hE hM hS (hJ.2 44 (by decide)).1 rfl (vp_in_iff.mpr (by omega)) dX10_answer_77 (fun H locs L31 eL31 hM hS => ?_)
              obtain ⟨v32, ev32⟩ : ∃ z : Int32, z = x4_6 + Int32.ofInt (1) := ⟨_, rfl⟩
              have tv32 := a_inc ev32 (by decide) (by omega) (by omega)
              refine lv_iinc (v := v32) (lv' := [(4, .int (v32)), (7, .int (Ia6 (1036) (v6).toNatClampNeg)), (6, .int (Ia6 (1035) (v3).toNatClampNeg)), (5, .int (x5_6)), (0, .ref (ad (1000))), (1, .int (a0)), (2, .int (a1)), (3, .int (a2))]) hx hb dX10_answer_78 hl (k := 3) rfl ev32.symm (by decide) rfl (fun ls hl => ?_)
              refine lv_goto (tgt := 147) hx hb dX10_answer_81 (by decide) ?_
              obtain ⟨v33, ev33⟩ : ∃ z : Int32, z = x5_6 + Int32.ofInt (1) := ⟨_, rfl⟩
              have tv33 := a_inc ev33 (by decide) (by omega) (by omega)
              refine lv_iinc (v := v33) (lv' := [(5, .int (v33)), (4, .int (v32)), (7, .int (Ia6 (1036) (v6).toNatClampNeg)), (6, .int (Ia6 (1035) (v3).toNatClampNeg)), (0, .ref (ad (1000))), (1, .int (a0)), (2, .int (a1)), (3, .int (a2))]) hx hb dX10_answer_147 hl (k := 3) rfl ev33.symm (by decide) rfl (fun ls hl => ?_)
              refine lv_goto (tgt := 6) hx hb dX10_answer_150 (by decide) ?_
              exact ih6 (v33) (v32) Ia6 L31 _ _ ls hI hK (by first | omega | decide) (by first | omega | decide) (by omega) ⟨dn, by rw [show (a2.toInt - (v33).toInt).toNat = (a2.toInt - (x5_6).toInt).toNat - 1 from by omega, show (300 * a0.toInt + (v33).toInt).toNat = (300 * a0.toInt + (x5_6).toInt).toNat + 1 from by omega, show (v32).toNatClampNeg = (x4_6).toNatClampNeg + 1 from by have ty := tn (i := v32) (by omega); omega]; exact (hst.2.1 (by omega)).2⟩ (by omega) hM hS (lv_sub hl [0, 1, 4, 5, 6, 7] rfl)
            · have hc30 := c30
              have q30 := q_eq hc30
              refine lv_iload hx hb dX10_answer_64 (lv_at hl 0 rfl) ?_
              refine lv_i2l hx hb dX10_answer_66 rfl ?_
              refine lv_topl (fun v34 ev34 => ?_)
              have tv34 := q_i2l ev34
              refine lv_goto (tgt := 77) hx hb dX10_answer_67 (by decide) ?_
              refine m_last (1044) hx hb hE hM hS (hJ.2 44 (by decide)).1 rfl (vp_in_iff.mpr (by omega)) dX10_answer_77 (fun H locs L35 eL35 hM hS => ?_)
              obtain ⟨v36, ev36⟩ : ∃ z : Int32, z = x4_6 + Int32.ofInt (1) := ⟨_, rfl⟩
              have tv36 := a_inc ev36 (by decide) (by omega) (by omega)
              refine lv_iinc (v := v36) (lv' := [(4, .int (v36)), (7, .int (Ia6 (1036) (v6).toNatClampNeg)), (6, .int (Ia6 (1035) (v3).toNatClampNeg)), (5, .int (x5_6)), (0, .ref (ad (1000))), (1, .int (a0)), (2, .int (a1)), (3, .int (a2))]) hx hb dX10_answer_78 hl (k := 3) rfl ev36.symm (by decide) rfl (fun ls hl => ?_)
              refine lv_goto (tgt := 147) hx hb dX10_answer_81 (by decide) ?_
              obtain ⟨v37, ev37⟩ : ∃ z : Int32, z = x5_6 + Int32.ofInt (1) := ⟨_, rfl⟩
              have tv37 := a_inc ev37 (by decide) (by omega) (by omega)
              refine lv_iinc (v := v37) (lv' := [(5, .int (v37)), (4, .int (v36)), (7, .int (Ia6 (1036) (v6).toNatClampNeg)), (6, .int (Ia6 (1035) (v3).toNatClampNeg)), (0, .ref (ad (1000))), (1, .int (a0)), (2, .int (a1)), (3, .int (a2))]) hx hb dX10_answer_147 hl (k := 3) rfl ev37.symm (by decide) rfl (fun ls hl => ?_)
              refine lv_goto (tgt := 6) hx hb dX10_answer_150 (by decide) ?_
              exact ih6 (v37) (v36) Ia6 L35 _ _ ls hI hK (by first | omega | decide) (by first | omega | decide) (by omega) ⟨dn, by rw [show (a2.toInt - (v37).toInt).toNat = (a2.toInt - (x5_6).toInt).toNat - 1 from by omega, show (300 * a0.toInt + (v37).toInt).toNat = (300 * a0.toInt + (x5_6).toInt).toNat + 1 from by omega, show (v36).toNatClampNeg = (x4_6).toNatClampNeg + 1 from by have ty := tn (i := v36) (by omega); omega]; exact (hst.2.1 (by omega)).2⟩ (by omega) hM hS (lv_sub hl [0, 1, 4, 5, 6, 7] rfl)
  exact loop6 (_ + 1) (a1) (0) I L _ _ ls hI hK (by first | omega | decide) (by first | omega | decide) (by omega) (by rw [show (0 : Int32).toNatClampNeg = 0 from rfl]; exact hseg) (Nat.lt_succ_self _) hM hS (lv_sub hl [0, 1, 2, 3, 4, 5] rfl)
theorem dX10_turns_0 : decode cX10_turns 0 = .ok (.bipush 12, 2) := by decide +kernel
theorem dX10_turns_2 : decode cX10_turns 2 = .ok (.iload_n 1, 1) := by decide +kernel
theorem dX10_turns_3 : decode cX10_turns 3 = .ok (.imul, 1) := by decide +kernel
theorem dX10_turns_4 : decode cX10_turns 4 = .ok (.istore 4, 2) := by decide +kernel
theorem dX10_turns_6 : decode cX10_turns 6 = .ok (.iload 4, 2) := by decide +kernel
theorem dX10_turns_8 : decode cX10_turns 8 = .ok (.bipush 12, 2) := by decide +kernel
theorem dX10_turns_10 : decode cX10_turns 10 = .ok (.iload_n 1, 1) := by decide +kernel
theorem dX10_turns_11 : decode cX10_turns 11 = .ok (.imul, 1) := by decide +kernel
theorem dX10_turns_12 : decode cX10_turns 12 = .ok (.aload_n 0, 1) := by decide +kernel
theorem dX10_turns_13 : decode cX10_turns 13 = .ok (.getfield 93, 3) := by decide +kernel
theorem dX10_turns_16 : decode cX10_turns 16 = .ok (.iload_n 1, 1) := by decide +kernel
theorem dX10_turns_17 : decode cX10_turns 17 = .ok (.iaload, 1) := by decide +kernel
theorem dX10_turns_18 : decode cX10_turns 18 = .ok (.iadd, 1) := by decide +kernel
theorem dX10_turns_19 : decode cX10_turns 19 = .ok (.if_icmp .ge 186, 3) := by decide +kernel
theorem dX10_turns_22 : decode cX10_turns 22 = .ok (.aload_n 0, 1) := by decide +kernel
theorem dX10_turns_23 : decode cX10_turns 23 = .ok (.getfield 96, 3) := by decide +kernel
theorem dX10_turns_26 : decode cX10_turns 26 = .ok (.iload 4, 2) := by decide +kernel
theorem dX10_turns_28 : decode cX10_turns 28 = .ok (.iaload, 1) := by decide +kernel
theorem dX10_turns_29 : decode cX10_turns 29 = .ok (.iload_n 3, 1) := by decide +kernel
theorem dX10_turns_30 : decode cX10_turns 30 = .ok (.if_icmp .ne 169, 3) := by decide +kernel
theorem dX10_turns_33 : decode cX10_turns 33 = .ok (.aload_n 0, 1) := by decide +kernel
theorem dX10_turns_34 : decode cX10_turns 34 = .ok (.iload_n 2, 1) := by decide +kernel
theorem dX10_turns_35 : decode cX10_turns 35 = .ok (.iload_n 3, 1) := by decide +kernel
theorem dX10_turns_36 : decode cX10_turns 36 = .ok (.invokevirtual 442, 3) := by decide +kernel
theorem dX10_turns_39 : decode cX10_turns 39 = .ok (.aload_n 0, 1) := by decide +kernel
theorem dX10_turns_40 : decode cX10_turns 40 = .ok (.getfield 102, 3) := by decide +kernel
theorem dX10_turns_43 : decode cX10_turns 43 = .ok (.iload 4, 2) := by decide +kernel
theorem dX10_turns_45 : decode cX10_turns 45 = .ok (.iaload, 1) := by decide +kernel
theorem dX10_turns_46 : decode cX10_turns 46 = .ok (.aload_n 0, 1) := by decide +kernel
theorem dX10_turns_47 : decode cX10_turns 47 = .ok (.getfield 105, 3) := by decide +kernel
theorem dX10_turns_50 : decode cX10_turns 50 = .ok (.iload 4, 2) := by decide +kernel
theorem dX10_turns_52 : decode cX10_turns 52 = .ok (.iaload, 1) := by decide +kernel
theorem dX10_turns_53 : decode cX10_turns 53 = .ok (.if_icmp .eq 27, 3) := by decide +kernel
theorem dX10_turns_56 : decode cX10_turns 56 = .ok (.aload_n 0, 1) := by decide +kernel
theorem dX10_turns_57 : decode cX10_turns 57 = .ok (.iload_n 1, 1) := by decide +kernel
theorem dX10_turns_58 : decode cX10_turns 58 = .ok (.aload_n 0, 1) := by decide +kernel
theorem dX10_turns_59 : decode cX10_turns 59 = .ok (.getfield 102, 3) := by decide +kernel
theorem dX10_turns_62 : decode cX10_turns 62 = .ok (.iload 4, 2) := by decide +kernel
theorem dX10_turns_64 : decode cX10_turns 64 = .ok (.iaload, 1) := by decide +kernel
theorem dX10_turns_65 : decode cX10_turns 65 = .ok (.aload_n 0, 1) := by decide +kernel
theorem dX10_turns_66 : decode cX10_turns 66 = .ok (.getfield 105, 3) := by decide +kernel
theorem dX10_turns_69 : decode cX10_turns 69 = .ok (.iload 4, 2) := by decide +kernel
theorem dX10_turns_71 : decode cX10_turns 71 = .ok (.iaload, 1) := by decide +kernel
theorem dX10_turns_72 : decode cX10_turns 72 = .ok (.invokevirtual 445, 3) := by decide +kernel
theorem dX10_turns_75 : decode cX10_turns 75 = .ok (.lconst 1, 1) := by decide +kernel
theorem dX10_turns_76 : decode cX10_turns 76 = .ok (.lcmp, 1) := by decide +kernel
theorem dX10_turns_77 : decode cX10_turns 77 = .ok (.ifCond .ne 122, 3) := by decide +kernel
theorem dX10_turns_80 : decode cX10_turns 80 = .ok (.aload_n 0, 1) := by decide +kernel
theorem dX10_turns_81 : decode cX10_turns 81 = .ok (.iload_n 1, 1) := by decide +kernel
theorem dX10_turns_82 : decode cX10_turns 82 = .ok (.aload_n 0, 1) := by decide +kernel
theorem dX10_turns_83 : decode cX10_turns 83 = .ok (.getfield 99, 3) := by decide +kernel
theorem dX10_turns_86 : decode cX10_turns 86 = .ok (.iload 4, 2) := by decide +kernel
theorem dX10_turns_88 : decode cX10_turns 88 = .ok (.iaload, 1) := by decide +kernel
theorem dX10_turns_89 : decode cX10_turns 89 = .ok (.aload_n 0, 1) := by decide +kernel
theorem dX10_turns_90 : decode cX10_turns 90 = .ok (.getfield 102, 3) := by decide +kernel
theorem dX10_turns_93 : decode cX10_turns 93 = .ok (.iload 4, 2) := by decide +kernel
theorem dX10_turns_95 : decode cX10_turns 95 = .ok (.iaload, 1) := by decide +kernel
theorem dX10_turns_96 : decode cX10_turns 96 = .ok (.invokevirtual 445, 3) := by decide +kernel
theorem dX10_turns_99 : decode cX10_turns 99 = .ok (.ldc2_w 214, 3) := by decide +kernel
theorem dX10_turns_102 : decode cX10_turns 102 = .ok (.land, 1) := by decide +kernel
theorem dX10_turns_103 : decode cX10_turns 103 = .ok (.l2i, 1) := by decide +kernel
theorem dX10_turns_104 : decode cX10_turns 104 = .ok (.istore 5, 2) := by decide +kernel
theorem dX10_turns_106 : decode cX10_turns 106 = .ok (.iload 5, 2) := by decide +kernel
theorem dX10_turns_108 : decode cX10_turns 108 = .ok (.aload_n 0, 1) := by decide +kernel
theorem dX10_turns_109 : decode cX10_turns 109 = .ok (.getfield 34, 3) := by decide +kernel
theorem dX10_turns_112 : decode cX10_turns 112 = .ok (.iload_n 3, 1) := by decide +kernel
theorem dX10_turns_113 : decode cX10_turns 113 = .ok (.iaload, 1) := by decide +kernel
theorem dX10_turns_114 : decode cX10_turns 114 = .ok (.isub, 1) := by decide +kernel
theorem dX10_turns_115 : decode cX10_turns 115 = .ok (.bipush 8, 2) := by decide +kernel
theorem dX10_turns_117 : decode cX10_turns 117 = .ok (.iadd, 1) := by decide +kernel
theorem dX10_turns_118 : decode cX10_turns 118 = .ok (.bipush 8, 2) := by decide +kernel
theorem dX10_turns_120 : decode cX10_turns 120 = .ok (.irem, 1) := by decide +kernel
theorem dX10_turns_121 : decode cX10_turns 121 = .ok (.istore 6, 2) := by decide +kernel
theorem dX10_turns_123 : decode cX10_turns 123 = .ok (.aload_n 0, 1) := by decide +kernel
theorem dX10_turns_124 : decode cX10_turns 124 = .ok (.getfield 43, 3) := by decide +kernel
theorem dX10_turns_127 : decode cX10_turns 127 = .ok (.iload_n 3, 1) := by decide +kernel
theorem dX10_turns_128 : decode cX10_turns 128 = .ok (.iaload, 1) := by decide +kernel
theorem dX10_turns_129 : decode cX10_turns 129 = .ok (.istore 7, 2) := by decide +kernel
theorem dX10_turns_131 : decode cX10_turns 131 = .ok (.iload 6, 2) := by decide +kernel
theorem dX10_turns_133 : decode cX10_turns 133 = .ok (.iconst 4, 1) := by decide +kernel
theorem dX10_turns_134 : decode cX10_turns 134 = .ok (.if_icmp .gt 20, 3) := by decide +kernel
theorem dX10_turns_137 : decode cX10_turns 137 = .ok (.iload 6, 2) := by decide +kernel
theorem dX10_turns_139 : decode cX10_turns 139 = .ok (.iload 7, 2) := by decide +kernel
theorem dX10_turns_141 : decode cX10_turns 141 = .ok (.if_icmp .ge 8, 3) := by decide +kernel
theorem dX10_turns_144 : decode cX10_turns 144 = .ok (.iload 6, 2) := by decide +kernel
theorem dX10_turns_146 : decode cX10_turns 146 = .ok (.goto 29, 3) := by decide +kernel
theorem dX10_turns_149 : decode cX10_turns 149 = .ok (.iload 7, 2) := by decide +kernel
theorem dX10_turns_151 : decode cX10_turns 151 = .ok (.goto 24, 3) := by decide +kernel
theorem dX10_turns_154 : decode cX10_turns 154 = .ok (.bipush 8, 2) := by decide +kernel
theorem dX10_turns_156 : decode cX10_turns 156 = .ok (.iload 6, 2) := by decide +kernel
theorem dX10_turns_158 : decode cX10_turns 158 = .ok (.isub, 1) := by decide +kernel
theorem dX10_turns_159 : decode cX10_turns 159 = .ok (.iload 7, 2) := by decide +kernel
theorem dX10_turns_161 : decode cX10_turns 161 = .ok (.if_icmp .ge 11, 3) := by decide +kernel
theorem dX10_turns_164 : decode cX10_turns 164 = .ok (.iload 6, 2) := by decide +kernel
theorem dX10_turns_166 : decode cX10_turns 166 = .ok (.bipush 8, 2) := by decide +kernel
theorem dX10_turns_168 : decode cX10_turns 168 = .ok (.isub, 1) := by decide +kernel
theorem dX10_turns_169 : decode cX10_turns 169 = .ok (.goto 6, 3) := by decide +kernel
theorem dX10_turns_172 : decode cX10_turns 172 = .ok (.iload 7, 2) := by decide +kernel
theorem dX10_turns_174 : decode cX10_turns 174 = .ok (.ineg, 1) := by decide +kernel
theorem dX10_turns_175 : decode cX10_turns 175 = .ok (.istore 8, 2) := by decide +kernel
theorem dX10_turns_177 : decode cX10_turns 177 = .ok (.aload_n 0, 1) := by decide +kernel
theorem dX10_turns_178 : decode cX10_turns 178 = .ok (.getfield 34, 3) := by decide +kernel
theorem dX10_turns_181 : decode cX10_turns 181 = .ok (.iload_n 3, 1) := by decide +kernel
theorem dX10_turns_182 : decode cX10_turns 182 = .ok (.aload_n 0, 1) := by decide +kernel
theorem dX10_turns_183 : decode cX10_turns 183 = .ok (.getfield 34, 3) := by decide +kernel
theorem dX10_turns_186 : decode cX10_turns 186 = .ok (.iload_n 3, 1) := by decide +kernel
theorem dX10_turns_187 : decode cX10_turns 187 = .ok (.iaload, 1) := by decide +kernel
theorem dX10_turns_188 : decode cX10_turns 188 = .ok (.iload 8, 2) := by decide +kernel
theorem dX10_turns_190 : decode cX10_turns 190 = .ok (.iadd, 1) := by decide +kernel
theorem dX10_turns_191 : decode cX10_turns 191 = .ok (.bipush 8, 2) := by decide +kernel
theorem dX10_turns_193 : decode cX10_turns 193 = .ok (.iadd, 1) := by decide +kernel
theorem dX10_turns_194 : decode cX10_turns 194 = .ok (.bipush 8, 2) := by decide +kernel
theorem dX10_turns_196 : decode cX10_turns 196 = .ok (.irem, 1) := by decide +kernel
theorem dX10_turns_197 : decode cX10_turns 197 = .ok (.iastore, 1) := by decide +kernel
theorem dX10_turns_198 : decode cX10_turns 198 = .ok (.return_, 1) := by decide +kernel
theorem dX10_turns_199 : decode cX10_turns 199 = .ok (.iinc 4 1, 3) := by decide +kernel
theorem dX10_turns_202 : decode cX10_turns 202 = .ok (.goto (-196), 3) := by decide +kernel
theorem dX10_turns_205 : decode cX10_turns 205 = .ok (.return_, 1) := by decide +kernel
theorem ce_X10_turns : CeV RX10 yX10_turns cX10_turns 9 none 3 := ⟨tb_1619, tp_82, tb_11, tb_1620, rfl, by decide, by decide, by decide +kernel⟩
set_option maxHeartbeats 4000000 in
set_option maxRecDepth 20000 in
theorem V_X10_turns (l : Launch) (D : va_G) (A : Nat → Prop) (ad : Nat → Nat) (ns : List Nat) (I : MI) (L : ML) (G : MG) (a0 : Int32) (a1 : Int32) (a2 : Int32) (hJ : SGM ns G) (hI : INV I) (hLR : LWR I (a0).toNatClampNeg) (ha0 : 0 ≤ a0.toInt ∧ a0.toInt ≤ 5) (ha1 : 0 ≤ a1.toInt ∧ a1.toInt ≤ 23) (ha2 : 0 ≤ a2.toInt ∧ a2.toInt ≤ 23) : Met l yX10_turns (wd yX10_turns cX10_turns 9 none) ({ frames := 3, cells := 0, slots := 0, locals := 71 }) (va_Pc [.ref (ad (1000)), .int a0, .int a1, .int a2] (PM D A ad ns I L G)) (va_Qv (fun u => ∃ I2 L2, u = (ad, ns, I2, L2, G) ∧ INV I2 ∧ Kp [(1009, 1010)] [] I I2) (BM D A) A) 0 0 A := by
  refine m_ofW (by decide) (Nat.le_of_ble_eq_true rfl) ?_
  intro p e s m below meth c ls args hC hE hM hA hS hl
  obtain ⟨hx, hb, hml, hown, hts, hr, hlocks, hin⟩ := hC
  have k0 : (0 : Int32).toInt = 0 := by decide
  have k4 : (4 : Int32).toInt = 4 := by decide
  have k8 : (8 : Int32).toInt = 8 := by decide
  have k12 : (12 : Int32).toInt = 12 := by decide
  have kl1 : (1 : Int64).toInt = 1 := by decide
  have kl7 : (7 : Int64).toInt = 7 := by decide
  have hK : Kp [(1009, 1010)] [] I I := Kp.rf
  have hl : lv_has ls 9 [(0, .ref (ad (1000))), (1, .int (a0)), (2, .int (a1)), (3, .int (a2))] := hl
  refine lv_bipush (v := (12)) hx hb dX10_turns_0 (by decide) ?_
  refine lv_iload_n hx hb dX10_turns_2 rfl (lv_at hl 1 rfl) ?_
  refine lv_imul hx hb dX10_turns_3 ?_
  refine lv_topi (fun v1 ev1 => ?_)
  have tv1 := a_mulL (c := 12) ev1 (by decide) (by omega) (by omega)
  refine lv_istore (lv' := [(4, .int (v1)), (0, .ref (ad (1000))), (1, .int (a0)), (2, .int (a1)), (3, .int (a2))]) hx hb dX10_turns_4 hl (by decide) rfl (fun ls hl => ?_)
  have loop6 : ∀ (n : Nat) (x4_6 : Int32) (Ia6 : MI) (La6 : ML) (H : Heap) (locs : List Loc) (ls : Array Slot), INV Ia6 → Kp [(1009, 1010)] [] I Ia6 → (0 ≤ x4_6.toInt ∧ x4_6.toInt ≤ 72) → (12 * a0.toInt ≤ (x4_6).toInt) → (72 - x4_6.toInt).toNat < n → Mem D A ad ns Ia6 La6 G H → va_S A s.heap H locs → lv_has ls 9 [(4, .int (x4_6)), (0, .ref (ad (1000))), (1, .int (a0)), (2, .int (a1)), (3, .int (a2))] → W p l e ({ frames := 3, cells := 0, slots := 0, locals := 71 } : Room) s m args below meth c H locs 0 0 (MQ below (va_Qv (fun u => ∃ I2 L2, u = (ad, ns, I2, L2, G) ∧ INV I2 ∧ Kp [(1009, 1010)] [] I I2) (BM D A) A) args s 0 0 A) (F0 m 6 ls []) := by
    intro n
    induction n with
    | zero =>
      intro x4_6 Ia6 La6 H locs ls hI hK hr4_6 h12 hmu
      exact absurd hmu (Nat.not_lt_zero _)
    | succ n ih6 =>
      intro x4_6 Ia6 La6 H locs ls hI hK hr4_6 h12 hmu6 hM hS hl
      have hLa := hLR.kp hK rfl
      have gcl : 0 ≤ (Ia6 1037 (a0).toNatClampNeg).toInt ∧ (Ia6 1037 (a0).toNatClampNeg).toInt ≤ 12 := ⟨hLa.2.1, hLa.2.2.1⟩
      refine lv_iload hx hb dX10_turns_6 (lv_at hl 0 rfl) ?_
      refine lv_bipush (v := (12)) hx hb dX10_turns_8 (by decide) ?_
      refine lv_iload_n hx hb dX10_turns_10 rfl (lv_at hl 2 rfl) ?_
      refine lv_imul hx hb dX10_turns_11 ?_
      refine lv_topi (fun v2 ev2 => ?_)
      have tv2 := a_mulL (c := 12) ev2 (by decide) (by omega) (by omega)
      refine lv_aload_n hx hb dX10_turns_12 rfl (lv_at hl 1 rfl) ?_
      refine m_getr (1000) 37 (1037) hx hb hts hown hE oc10 hM hJ.1 rfl (by decide) rfl (hJ.2 37 (by decide)).2 (by decide) tb_1214 dX10_turns_13 ?_
      refine lv_iload_n hx hb dX10_turns_16 rfl (lv_at hl 2 rfl) ?_
      refine m_iald (1037) hx hb hE hM (hJ.2 37 (by decide)).1 rfl (vp_in_iff.mpr (by omega)) dX10_turns_17 ?_
      refine lv_iadd hx hb dX10_turns_18 ?_
      refine lv_topi (fun v3 ev3 => ?_)
      have tv3 := a_add ev3 (by omega) (by omega)
      refine lv_icmp_ge (tgt := 205) hx hb dX10_turns_19 (by decide) (fun c4 => ?_) (fun c4 => ?_)
      · have hc4 := c4
        have q4 := q_le hc4
        exact m_vret hx hb hr hlocks hM hS (Nat.le_of_ble_eq_true rfl) (Nat.le_of_ble_eq_true rfl) ⟨_, _, rfl, hI, hK⟩ dX10_turns_205
      · have hc4 := c4
        have q4 := q_nle hc4
        refine lv_aload_n hx hb dX10_turns_22 rfl (lv_at hl 1 rfl) ?_
        refine m_getr (1000) 38 (1038) hx hb hts hown hE oc10 hM hJ.1 rfl (by decide) rfl (hJ.2 38 (by decide)).2 (by decide) tb_1215 dX10_turns_23 ?_
        refine lv_iload hx hb dX10_turns_26 (lv_at hl 0 rfl) ?_
        refine m_iald (1038) hx hb hE hM (hJ.2 38 (by decide)).1 rfl (vp_in_iff.mpr (by omega)) dX10_turns_28 ?_
        refine lv_iload_n hx hb dX10_turns_29 rfl (lv_at hl 4 rfl) ?_
        refine lv_icmp_ne (tgt := 199) hx hb dX10_turns_30 (by decide) (fun c5 => ?_) (fun c5 => ?_)
        · have hc5 := c5
          have q5 := q_ne hc5
          obtain ⟨v6, ev6⟩ : ∃ z : Int32, z = x4_6 + Int32.ofInt (1) := ⟨_, rfl⟩
          have tv6 := a_inc ev6 (by decide) (by omega) (by omega)
          refine lv_iinc (v := v6) (lv' := [(4, .int (v6)), (0, .ref (ad (1000))), (1, .int (a0)), (2, .int (a1)), (3, .int (a2))]) hx hb dX10_turns_199 hl (k := 0) rfl ev6.symm (by decide) rfl (fun ls hl => ?_)
          refine lv_goto (tgt := 6) hx hb dX10_turns_202 (by decide) ?_
          exact ih6 (v6) Ia6 La6 _ _ ls hI hK (by first | omega | decide) (by omega) (by omega) hM hS (lv_sub hl [0, 1, 2, 3, 4] rfl)
        · have hc5 := c5
          have q5 := q_eq hc5
          refine lv_aload_n hx hb dX10_turns_33 rfl (lv_at hl 1 rfl) ?_
          refine lv_iload_n hx hb dX10_turns_34 rfl (lv_at hl 3 rfl) ?_
          refine lv_iload_n hx hb dX10_turns_35 rfl (lv_at hl 4 rfl) ?_
          refine m_callv (m_runV (1000) (As := [.int (a1), .int (a2)]) (rest := []) hx hb hml hown hts hE hM hS hA ce_X10_asks tb_1621 (V_X10_asks l D A ad ns Ia6 La6 G (a1) (a2) hJ hI (by first | omega | decide) (by first | omega | decide)) rfl rfl ⟨Nat.le_of_ble_eq_true rfl, Nat.le_of_ble_eq_true rfl⟩ hJ.1 rfl rfl (by decide) rfl hl.1 rfl (Nat.le_of_ble_eq_true rfl) dX10_turns_36 ⟨Nat.le_of_ble_eq_true rfl, Nat.le_of_ble_eq_true rfl⟩) hS (fun u H locs hw hM hS => ?_)
          obtain ⟨I7, L8, rfl, hI, hkI7⟩ := hw
          have hM : Mem D A ad ns I7 L8 G H := hM
          have hK := hK.trans hkI7 rfl
          refine lv_aload_n hx hb dX10_turns_39 rfl (lv_at hl 1 rfl) ?_
          refine m_getr (1000) 40 (1040) hx hb hts hown hE oc10 hM hJ.1 rfl (by decide) rfl (hJ.2 40 (by decide)).2 (by decide) tb_1217 dX10_turns_40 ?_
          refine lv_iload hx hb dX10_turns_43 (lv_at hl 0 rfl) ?_
          refine m_iald (1040) hx hb hE hM (hJ.2 40 (by decide)).1 rfl (vp_in_iff.mpr (by omega)) dX10_turns_45 ?_
          have g9 := hI.get (1040) ((x4_6).toNatClampNeg) (lo := 0) (hi := 300) rfl
          have z10 : I7 (1040) (x4_6).toNatClampNeg = Ia6 (1040) ((x4_6).toNatClampNeg) := (congrFun (hkI7.getA (1040) rfl) ((x4_6).toNatClampNeg))
          rw [z10] at g9 ⊢
          refine lv_aload_n hx hb dX10_turns_46 rfl (lv_at hl 1 rfl) ?_
          refine m_getr (1000) 41 (1041) hx hb hts hown hE oc10 hM hJ.1 rfl (by decide) rfl (hJ.2 41 (by decide)).2 (by decide) tb_1218 dX10_turns_47 ?_
          refine lv_iload hx hb dX10_turns_50 (lv_at hl 0 rfl) ?_
          refine m_iald (1041) hx hb hE hM (hJ.2 41 (by decide)).1 rfl (vp_in_iff.mpr (by omega)) dX10_turns_52 ?_
          have g11 := hI.get (1041) ((x4_6).toNatClampNeg) (lo := 0) (hi := 300) rfl
          have z12 : I7 (1041) (x4_6).toNatClampNeg = Ia6 (1041) ((x4_6).toNatClampNeg) := (congrFun (hkI7.getA (1041) rfl) ((x4_6).toNatClampNeg))
          rw [z12] at g11 ⊢
          refine lv_icmp_eq (tgt := 80) hx hb dX10_turns_53 (by decide) (fun c13 => ?_) (fun c13 => ?_)
          · have hc13 := c13
            have q13 := q_eq hc13
            refine lv_aload_n hx hb dX10_turns_80 rfl (lv_at hl 1 rfl) ?_
            refine lv_iload_n hx hb dX10_turns_81 rfl (lv_at hl 2 rfl) ?_
            refine lv_aload_n hx hb dX10_turns_82 rfl (lv_at hl 1 rfl) ?_
            refine m_getr (1000) 39 (1039) hx hb hts hown hE oc10 hM hJ.1 rfl (by decide) rfl (hJ.2 39 (by decide)).2 (by decide) tb_1216 dX10_turns_83 ?_
            refine lv_iload hx hb dX10_turns_86 (lv_at hl 0 rfl) ?_
            refine m_iald (1039) hx hb hE hM (hJ.2 39 (by decide)).1 rfl (vp_in_iff.mpr (by omega)) dX10_turns_88 ?_
            have g14 := hI.get (1039) ((x4_6).toNatClampNeg) (lo := 0) (hi := 300) rfl
            have z15 : I7 (1039) (x4_6).toNatClampNeg = Ia6 (1039) ((x4_6).toNatClampNeg) := (congrFun (hkI7.getA (1039) rfl) ((x4_6).toNatClampNeg))
            rw [z15] at g14 ⊢
            refine lv_aload_n hx hb dX10_turns_89 rfl (lv_at hl 1 rfl) ?_
            refine m_getr (1000) 40 (1040) hx hb hts hown hE oc10 hM hJ.1 rfl (by decide) rfl (hJ.2 40 (by decide)).2 (by decide) tb_1217 dX10_turns_90 ?_
            refine lv_iload hx hb dX10_turns_93 (lv_at hl 0 rfl) ?_
            refine m_iald (1040) hx hb hE hM (hJ.2 40 (by decide)).1 rfl (vp_in_iff.mpr (by omega)) dX10_turns_95 ?_
            have z16 : I7 (1040) (x4_6).toNatClampNeg = Ia6 (1040) ((x4_6).toNatClampNeg) := (congrFun (hkI7.getA (1040) rfl) ((x4_6).toNatClampNeg))
            rw [z16]
            have pw17 : (I7 (1000) 24).toInt = (Ia6 (1000) 24 : Int32).toInt := congrArg Int32.toInt ((hkI7.get (1000) 24 rfl))
            have pw18 : (I7 (1000) 25).toInt = (Ia6 (1000) 25 : Int32).toInt := congrArg Int32.toInt ((hkI7.get (1000) 25 rfl))
            have pw19 : (I7 (1000) 26).toInt = (Ia6 (1000) 26 : Int32).toInt := congrArg Int32.toInt ((hkI7.get (1000) 26 rfl))
            have pw20 : (I7 (1000) 27).toInt = (Ia6 (1000) 27 : Int32).toInt := congrArg Int32.toInt ((hkI7.get (1000) 27 rfl))
            have pw21 : (I7 (1000) 29).toInt = (Ia6 (1000) 29 : Int32).toInt := congrArg Int32.toInt ((hkI7.get (1000) 29 rfl))
            have pw22 : (I7 (1000) 31).toInt = (Ia6 (1000) 31 : Int32).toInt := congrArg Int32.toInt ((hkI7.get (1000) 31 rfl))
            have pw23 : (I7 (1000) 32).toInt = (Ia6 (1000) 32 : Int32).toInt := congrArg Int32.toInt ((hkI7.get (1000) 32 rfl))
            refine m_calll (m_runV (1000) (As := [.int (a0), .int (Ia6 (1039) ((x4_6).toNatClampNeg)), .int (Ia6 (1040) ((x4_6).toNatClampNeg))]) (rest := []) hx hb hml hown hts hE hM hS hA ce_X10_answer tb_1630 (V_X10_answer l D A ad ns I7 L8 G (a0) (Ia6 (1039) ((x4_6).toNatClampNeg)) (Ia6 (1040) ((x4_6).toNatClampNeg)) hJ hI (by rw [show I7 1035 = Ia6 1035 from (hkI7.getA 1035 rfl), show I7 1036 = Ia6 1036 from (hkI7.getA 1036 rfl)]; exact LWR.segS hLa (by omega) (by omega)) (by first | omega | decide) (by first | omega | decide) (by first | omega | decide)) rfl rfl ⟨Nat.le_of_ble_eq_true rfl, Nat.le_of_ble_eq_true rfl⟩ hJ.1 rfl rfl (by decide) rfl hl.1 rfl (Nat.le_of_ble_eq_true rfl) dX10_turns_96 ⟨Nat.le_of_ble_eq_true rfl, Nat.le_of_ble_eq_true rfl⟩) hS (fun r24 u H locs hw hM hS => ?_)
            obtain ⟨I25, L26, rfl, hI, hkI25⟩ := hw
            have hM : Mem D A ad ns I25 L26 G H := hM
            have hK := hK.trans hkI25 rfl
            refine lv_ldc2 (v := (7)) hx hb hown (hts _ tb_1451) dX10_turns_99 ?_
            refine lv_land hx hb dX10_turns_102 ?_
            refine lv_topl (fun v27 ev27 => ?_)
            refine lv_l2i hx hb dX10_turns_103 rfl ?_
            refine lv_topi (fun v28 ev28 => ?_)
            refine lv_istore (lv' := [(5, .int (v28)), (4, .int (x4_6)), (0, .ref (ad (1000))), (1, .int (a0)), (2, .int (a1)), (3, .int (a2))]) hx hb dX10_turns_104 hl (by decide) rfl (fun ls hl => ?_)
            refine lv_iload hx hb dX10_turns_106 (lv_at hl 0 rfl) ?_
            refine lv_aload_n hx hb dX10_turns_108 rfl (lv_at hl 2 rfl) ?_
            refine m_getr (1000) 9 (1009) hx hb hts hown hE oc10 hM hJ.1 rfl (by decide) rfl (hJ.2 9 (by decide)).2 (by decide) tb_1186 dX10_turns_109 ?_
            refine lv_iload_n hx hb dX10_turns_112 rfl (lv_at hl 5 rfl) ?_
            refine m_iald (1009) hx hb hE hM (hJ.2 9 (by decide)).1 rfl (vp_in_iff.mpr (by omega)) dX10_turns_113 ?_
            have z29 : I25 (1009) (a2).toNatClampNeg = Ia6 (1009) ((a2).toNatClampNeg) := ((congrFun (hkI25.getA (1009) rfl) ((a2).toNatClampNeg))).trans (congrFun (hkI7.getA (1009) rfl) ((a2).toNatClampNeg))
            rw [z29]
            refine lv_isub hx hb dX10_turns_114 ?_
            refine lv_topi (fun v30 ev30 => ?_)
            refine lv_bipush (v := (8)) hx hb dX10_turns_115 (by decide) ?_
            refine lv_iadd hx hb dX10_turns_117 ?_
            refine lv_topi (fun v31 ev31 => ?_)
            refine lv_bipush (v := (8)) hx hb dX10_turns_118 (by decide) ?_
            refine lv_irem hx hb dX10_turns_120 (by decide) ?_
            refine lv_topi (fun v32 ev32 => ?_)
            refine lv_istore (lv' := [(6, .int (v32)), (5, .int (v28)), (4, .int (x4_6)), (0, .ref (ad (1000))), (1, .int (a0)), (2, .int (a1)), (3, .int (a2))]) hx hb dX10_turns_121 hl (by decide) rfl (fun ls hl => ?_)
            refine lv_aload_n hx hb dX10_turns_123 rfl (lv_at hl 3 rfl) ?_
            refine m_getr (1000) 12 (1012) hx hb hts hown hE oc10 hM hJ.1 rfl (by decide) rfl (hJ.2 12 (by decide)).2 (by decide) tb_1189 dX10_turns_124 ?_
            refine lv_iload_n hx hb dX10_turns_127 rfl (lv_at hl 6 rfl) ?_
            refine m_iald (1012) hx hb hE hM (hJ.2 12 (by decide)).1 rfl (vp_in_iff.mpr (by omega)) dX10_turns_128 ?_
            have z33 : I25 (1012) (a2).toNatClampNeg = Ia6 (1012) ((a2).toNatClampNeg) := ((congrFun (hkI25.getA (1012) rfl) ((a2).toNatClampNeg))).trans (congrFun (hkI7.getA (1012) rfl) ((a2).toNatClampNeg))
            rw [z33]
            refine lv_istore (lv' := [(7, .int (Ia6 (1012) ((a2).toNatClampNeg))), (6, .int (v32)), (5, .int (v28)), (4, .int (x4_6)), (0, .ref (ad (1000))), (1, .int (a0)), (2, .int (a1)), (3, .int (a2))]) hx hb dX10_turns_129 hl (by decide) rfl (fun ls hl => ?_)
            refine lv_iload hx hb dX10_turns_131 (lv_at hl 1 rfl) ?_
            refine lv_iconst (v := (4)) hx hb dX10_turns_133 (by decide) ?_
            refine lv_icmp_gt (tgt := 154) hx hb dX10_turns_134 (by decide) (fun c34 => ?_) (fun c34 => ?_)
            · have hc34 := c34
              have q34 := q_lt hc34
              refine lv_bipush (v := (8)) hx hb dX10_turns_154 (by decide) ?_
              refine lv_iload hx hb dX10_turns_156 (lv_at hl 1 rfl) ?_
              refine lv_isub hx hb dX10_turns_158 ?_
              refine lv_topi (fun v35 ev35 => ?_)
              refine lv_iload hx hb dX10_turns_159 (lv_at hl 0 rfl) ?_
              refine lv_icmp_ge (tgt := 172) hx hb dX10_turns_161 (by decide) (fun c36 => ?_) (fun c36 => ?_)
              · have hc36 := c36
                have q36 := q_le hc36
                refine lv_iload hx hb dX10_turns_172 (lv_at hl 0 rfl) ?_
                refine lv_ineg hx hb dX10_turns_174 ?_
                refine lv_topi (fun v37 ev37 => ?_)
                refine lv_istore (lv' := [(8, .int (v37)), (7, .int (Ia6 (1012) ((a2).toNatClampNeg))), (6, .int (v32)), (5, .int (v28)), (4, .int (x4_6)), (0, .ref (ad (1000))), (1, .int (a0)), (2, .int (a1)), (3, .int (a2))]) hx hb dX10_turns_175 hl (by decide) rfl (fun ls hl => ?_)
                refine lv_aload_n hx hb dX10_turns_177 rfl (lv_at hl 5 rfl) ?_
                refine m_getr (1000) 9 (1009) hx hb hts hown hE oc10 hM hJ.1 rfl (by decide) rfl (hJ.2 9 (by decide)).2 (by decide) tb_1186 dX10_turns_178 ?_
                refine lv_iload_n hx hb dX10_turns_181 rfl (lv_at hl 8 rfl) ?_
                refine lv_aload_n hx hb dX10_turns_182 rfl (lv_at hl 5 rfl) ?_
                refine m_getr (1000) 9 (1009) hx hb hts hown hE oc10 hM hJ.1 rfl (by decide) rfl (hJ.2 9 (by decide)).2 (by decide) tb_1186 dX10_turns_183 ?_
                refine lv_iload_n hx hb dX10_turns_186 rfl (lv_at hl 8 rfl) ?_
                refine m_iald (1009) hx hb hE hM (hJ.2 9 (by decide)).1 rfl (vp_in_iff.mpr (by omega)) dX10_turns_187 ?_
                have z38 : I25 (1009) (a2).toNatClampNeg = Ia6 (1009) ((a2).toNatClampNeg) := ((congrFun (hkI25.getA (1009) rfl) ((a2).toNatClampNeg))).trans (congrFun (hkI7.getA (1009) rfl) ((a2).toNatClampNeg))
                rw [z38]
                refine lv_iload hx hb dX10_turns_188 (lv_at hl 0 rfl) ?_
                refine lv_iadd hx hb dX10_turns_190 ?_
                refine lv_topi (fun v39 ev39 => ?_)
                refine lv_bipush (v := (8)) hx hb dX10_turns_191 (by decide) ?_
                refine lv_iadd hx hb dX10_turns_193 ?_
                refine lv_topi (fun v40 ev40 => ?_)
                refine lv_bipush (v := (8)) hx hb dX10_turns_194 (by decide) ?_
                refine lv_irem hx hb dX10_turns_196 (by decide) ?_
                refine lv_topi (fun v41 ev41 => ?_)
                refine m_iast (1009) hx hb hE hM hS (hJ.2 9 (by decide)).1 rfl (vp_in_iff.mpr (by omega)) dX10_turns_197 (fun H locs I42 eI42 hM hS => ?_)
                subst eI42
                have hI := hI.putF (n := 1009) (k := ((a2).toNatClampNeg)) (v := v41) rfl
                have hK := hK.put (n := 1009) (k := ((a2).toNatClampNeg)) (v := v41) (by first | rfl | simp [inR])
                exact m_vret hx hb hr hlocks hM hS (Nat.le_of_ble_eq_true rfl) (Nat.le_of_ble_eq_true rfl) ⟨_, _, rfl, hI, hK⟩ dX10_turns_198
              · have hc36 := c36
                have q36 := q_nle hc36
                refine lv_iload hx hb dX10_turns_164 (lv_at hl 1 rfl) ?_
                refine lv_bipush (v := (8)) hx hb dX10_turns_166 (by decide) ?_
                refine lv_isub hx hb dX10_turns_168 ?_
                refine lv_topi (fun v43 ev43 => ?_)
                refine lv_goto (tgt := 175) hx hb dX10_turns_169 (by decide) ?_
                refine lv_istore (lv' := [(8, .int (v43)), (7, .int (Ia6 (1012) ((a2).toNatClampNeg))), (6, .int (v32)), (5, .int (v28)), (4, .int (x4_6)), (0, .ref (ad (1000))), (1, .int (a0)), (2, .int (a1)), (3, .int (a2))]) hx hb dX10_turns_175 hl (by decide) rfl (fun ls hl => ?_)
                refine lv_aload_n hx hb dX10_turns_177 rfl (lv_at hl 5 rfl) ?_
                refine m_getr (1000) 9 (1009) hx hb hts hown hE oc10 hM hJ.1 rfl (by decide) rfl (hJ.2 9 (by decide)).2 (by decide) tb_1186 dX10_turns_178 ?_
                refine lv_iload_n hx hb dX10_turns_181 rfl (lv_at hl 8 rfl) ?_
                refine lv_aload_n hx hb dX10_turns_182 rfl (lv_at hl 5 rfl) ?_
                refine m_getr (1000) 9 (1009) hx hb hts hown hE oc10 hM hJ.1 rfl (by decide) rfl (hJ.2 9 (by decide)).2 (by decide) tb_1186 dX10_turns_183 ?_
                refine lv_iload_n hx hb dX10_turns_186 rfl (lv_at hl 8 rfl) ?_
                refine m_iald (1009) hx hb hE hM (hJ.2 9 (by decide)).1 rfl (vp_in_iff.mpr (by omega)) dX10_turns_187 ?_
                have z44 : I25 (1009) (a2).toNatClampNeg = Ia6 (1009) ((a2).toNatClampNeg) := ((congrFun (hkI25.getA (1009) rfl) ((a2).toNatClampNeg))).trans (congrFun (hkI7.getA (1009) rfl) ((a2).toNatClampNeg))
                rw [z44]
                refine lv_iload hx hb dX10_turns_188 (lv_at hl 0 rfl) ?_
                refine lv_iadd hx hb dX10_turns_190 ?_
                refine lv_topi (fun v45 ev45 => ?_)
                refine lv_bipush (v := (8)) hx hb dX10_turns_191 (by decide) ?_
                refine lv_iadd hx hb dX10_turns_193 ?_
                refine lv_topi (fun v46 ev46 => ?_)
                refine lv_bipush (v := (8)) hx hb dX10_turns_194 (by decide) ?_
                refine lv_irem hx hb dX10_turns_196 (by decide) ?_
                refine lv_topi (fun v47 ev47 => ?_)
                refine m_iast (1009) hx hb hE hM hS (hJ.2 9 (by decide)).1 rfl (vp_in_iff.mpr (by omega)) dX10_turns_197 (fun H locs I48 eI48 hM hS => ?_)
                subst eI48
                have hI := hI.putF (n := 1009) (k := ((a2).toNatClampNeg)) (v := v47) rfl
                have hK := hK.put (n := 1009) (k := ((a2).toNatClampNeg)) (v := v47) (by first | rfl | simp [inR])
                exact m_vret hx hb hr hlocks hM hS (Nat.le_of_ble_eq_true rfl) (Nat.le_of_ble_eq_true rfl) ⟨_, _, rfl, hI, hK⟩ dX10_turns_198
            · have hc34 := c34
              have q34 := q_nlt hc34
              refine lv_iload hx hb dX10_turns_137 (lv_at hl 1 rfl) ?_
              refine lv_iload hx hb dX10_turns_139 (lv_at hl 0 rfl) ?_
              refine lv_icmp_ge (tgt := 149) hx hb dX10_turns_141 (by decide) (fun c49 => ?_) (fun c49 => ?_)
              · have hc49 := c49
                have q49 := q_le hc49
                refine lv_iload hx hb dX10_turns_149 (lv_at hl 0 rfl) ?_
                refine lv_goto (tgt := 175) hx hb dX10_turns_151 (by decide) ?_
                refine lv_istore (lv' := [(8, .int (Ia6 (1012) ((a2).toNatClampNeg))), (7, .int (Ia6 (1012) ((a2).toNatClampNeg))), (6, .int (v32)), (5, .int (v28)), (4, .int (x4_6)), (0, .ref (ad (1000))), (1, .int (a0)), (2, .int (a1)), (3, .int (a2))]) hx hb dX10_turns_175 hl (by decide) rfl (fun ls hl => ?_)
                refine lv_aload_n hx hb dX10_turns_177 rfl (lv_at hl 5 rfl) ?_
                refine m_getr (1000) 9 (1009) hx hb hts hown hE oc10 hM hJ.1 rfl (by decide) rfl (hJ.2 9 (by decide)).2 (by decide) tb_1186 dX10_turns_178 ?_
                refine lv_iload_n hx hb dX10_turns_181 rfl (lv_at hl 8 rfl) ?_
                refine lv_aload_n hx hb dX10_turns_182 rfl (lv_at hl 5 rfl) ?_
                refine m_getr (1000) 9 (1009) hx hb hts hown hE oc10 hM hJ.1 rfl (by decide) rfl (hJ.2 9 (by decide)).2 (by decide) tb_1186 dX10_turns_183 ?_
                refine lv_iload_n hx hb dX10_turns_186 rfl (lv_at hl 8 rfl) ?_
                refine m_iald (1009) hx hb hE hM (hJ.2 9 (by decide)).1 rfl (vp_in_iff.mpr (by omega)) dX10_turns_187 ?_
                have z50 : I25 (1009) (a2).toNatClampNeg = Ia6 (1009) ((a2).toNatClampNeg) := ((congrFun (hkI25.getA (1009) rfl) ((a2).toNatClampNeg))).trans (congrFun (hkI7.getA (1009) rfl) ((a2).toNatClampNeg))
                rw [z50]
                refine lv_iload hx hb dX10_turns_188 (lv_at hl 0 rfl) ?_
                refine lv_iadd hx hb dX10_turns_190 ?_
                refine lv_topi (fun v51 ev51 => ?_)
                refine lv_bipush (v := (8)) hx hb dX10_turns_191 (by decide) ?_
                refine lv_iadd hx hb dX10_turns_193 ?_
                refine lv_topi (fun v52 ev52 => ?_)
                refine lv_bipush (v := (8)) hx hb dX10_turns_194 (by decide) ?_
                refine lv_irem hx hb dX10_turns_196 (by decide) ?_
                refine lv_topi (fun v53 ev53 => ?_)
                refine m_iast (1009) hx hb hE hM hS (hJ.2 9 (by decide)).1 rfl (vp_in_iff.mpr (by omega)) dX10_turns_197 (fun H locs I54 eI54 hM hS => ?_)
                subst eI54
                have hI := hI.putF (n := 1009) (k := ((a2).toNatClampNeg)) (v := v53) rfl
                have hK := hK.put (n := 1009) (k := ((a2).toNatClampNeg)) (v := v53) (by first | rfl | simp [inR])
                exact m_vret hx hb hr hlocks hM hS (Nat.le_of_ble_eq_true rfl) (Nat.le_of_ble_eq_true rfl) ⟨_, _, rfl, hI, hK⟩ dX10_turns_198
              · have hc49 := c49
                have q49 := q_nle hc49
                refine lv_iload hx hb dX10_turns_144 (lv_at hl 1 rfl) ?_
                refine lv_goto (tgt := 175) hx hb dX10_turns_146 (by decide) ?_
                refine lv_istore (lv' := [(8, .int (v32)), (7, .int (Ia6 (1012) ((a2).toNatClampNeg))), (6, .int (v32)), (5, .int (v28)), (4, .int (x4_6)), (0, .ref (ad (1000))), (1, .int (a0)), (2, .int (a1)), (3, .int (a2))]) hx hb dX10_turns_175 hl (by decide) rfl (fun ls hl => ?_)
                refine lv_aload_n hx hb dX10_turns_177 rfl (lv_at hl 5 rfl) ?_
                refine m_getr (1000) 9 (1009) hx hb hts hown hE oc10 hM hJ.1 rfl (by decide) rfl (hJ.2 9 (by decide)).2 (by decide) tb_1186 dX10_turns_178 ?_
                refine lv_iload_n hx hb dX10_turns_181 rfl (lv_at hl 8 rfl) ?_
                refine lv_aload_n hx hb dX10_turns_182 rfl (lv_at hl 5 rfl) ?_
                refine m_getr (1000) 9 (1009) hx hb hts hown hE oc10 hM hJ.1 rfl (by decide) rfl (hJ.2 9 (by decide)).2 (by decide) tb_1186 dX10_turns_183 ?_
                refine lv_iload_n hx hb dX10_turns_186 rfl (lv_at hl 8 rfl) ?_
                refine m_iald (1009) hx hb hE hM (hJ.2 9 (by decide)).1 rfl (vp_in_iff.mpr (by omega)) dX10_turns_187 ?_
                have z55 : I25 (1009) (a2).toNatClampNeg = Ia6 (1009) ((a2).toNatClampNeg) := ((congrFun (hkI25.getA (1009) rfl) ((a2).toNatClampNeg))).trans (congrFun (hkI7.getA (1009) rfl) ((a2).toNatClampNeg))
                rw [z55]
                refine lv_iload hx hb dX10_turns_188 (lv_at hl 0 rfl) ?_
                refine lv_iadd hx hb dX10_turns_190 ?_
                refine lv_topi (fun v56 ev56 => ?_)
                refine lv_bipush (v := (8)) hx hb dX10_turns_191 (by decide) ?_
                refine lv_iadd hx hb dX10_turns_193 ?_
                refine lv_topi (fun v57 ev57 => ?_)
                refine lv_bipush (v := (8)) hx hb dX10_turns_194 (by decide) ?_
                refine lv_irem hx hb dX10_turns_196 (by decide) ?_
                refine lv_topi (fun v58 ev58 => ?_)
                refine m_iast (1009) hx hb hE hM hS (hJ.2 9 (by decide)).1 rfl (vp_in_iff.mpr (by omega)) dX10_turns_197 (fun H locs I59 eI59 hM hS => ?_)
                subst eI59
                have hI := hI.putF (n := 1009) (k := ((a2).toNatClampNeg)) (v := v58) rfl
                have hK := hK.put (n := 1009) (k := ((a2).toNatClampNeg)) (v := v58) (by first | rfl | simp [inR])
                exact m_vret hx hb hr hlocks hM hS (Nat.le_of_ble_eq_true rfl) (Nat.le_of_ble_eq_true rfl) ⟨_, _, rfl, hI, hK⟩ dX10_turns_198
          · have hc13 := c13
            have q13 := q_ne hc13
            refine lv_aload_n hx hb dX10_turns_56 rfl (lv_at hl 1 rfl) ?_
            refine lv_iload_n hx hb dX10_turns_57 rfl (lv_at hl 2 rfl) ?_
            refine lv_aload_n hx hb dX10_turns_58 rfl (lv_at hl 1 rfl) ?_
            refine m_getr (1000) 40 (1040) hx hb hts hown hE oc10 hM hJ.1 rfl (by decide) rfl (hJ.2 40 (by decide)).2 (by decide) tb_1217 dX10_turns_59 ?_
            refine lv_iload hx hb dX10_turns_62 (lv_at hl 0 rfl) ?_
            refine m_iald (1040) hx hb hE hM (hJ.2 40 (by decide)).1 rfl (vp_in_iff.mpr (by omega)) dX10_turns_64 ?_
            have z60 : I7 (1040) (x4_6).toNatClampNeg = Ia6 (1040) ((x4_6).toNatClampNeg) := (congrFun (hkI7.getA (1040) rfl) ((x4_6).toNatClampNeg))
            rw [z60]
            refine lv_aload_n hx hb dX10_turns_65 rfl (lv_at hl 1 rfl) ?_
            refine m_getr (1000) 41 (1041) hx hb hts hown hE oc10 hM hJ.1 rfl (by decide) rfl (hJ.2 41 (by decide)).2 (by decide) tb_1218 dX10_turns_66 ?_
            refine lv_iload hx hb dX10_turns_69 (lv_at hl 0 rfl) ?_
            refine m_iald (1041) hx hb hE hM (hJ.2 41 (by decide)).1 rfl (vp_in_iff.mpr (by omega)) dX10_turns_71 ?_
            have z61 : I7 (1041) (x4_6).toNatClampNeg = Ia6 (1041) ((x4_6).toNatClampNeg) := (congrFun (hkI7.getA (1041) rfl) ((x4_6).toNatClampNeg))
            rw [z61]
            have pw62 : (I7 (1000) 24).toInt = (Ia6 (1000) 24 : Int32).toInt := congrArg Int32.toInt ((hkI7.get (1000) 24 rfl))
            have pw63 : (I7 (1000) 25).toInt = (Ia6 (1000) 25 : Int32).toInt := congrArg Int32.toInt ((hkI7.get (1000) 25 rfl))
            have pw64 : (I7 (1000) 26).toInt = (Ia6 (1000) 26 : Int32).toInt := congrArg Int32.toInt ((hkI7.get (1000) 26 rfl))
            have pw65 : (I7 (1000) 27).toInt = (Ia6 (1000) 27 : Int32).toInt := congrArg Int32.toInt ((hkI7.get (1000) 27 rfl))
            have pw66 : (I7 (1000) 29).toInt = (Ia6 (1000) 29 : Int32).toInt := congrArg Int32.toInt ((hkI7.get (1000) 29 rfl))
            have pw67 : (I7 (1000) 31).toInt = (Ia6 (1000) 31 : Int32).toInt := congrArg Int32.toInt ((hkI7.get (1000) 31 rfl))
            have pw68 : (I7 (1000) 32).toInt = (Ia6 (1000) 32 : Int32).toInt := congrArg Int32.toInt ((hkI7.get (1000) 32 rfl))
            refine m_calll (m_runV (1000) (As := [.int (a0), .int (Ia6 (1040) ((x4_6).toNatClampNeg)), .int (Ia6 (1041) ((x4_6).toNatClampNeg))]) (rest := []) hx hb hml hown hts hE hM hS hA ce_X10_answer tb_1630 (V_X10_answer l D A ad ns I7 L8 G (a0) (Ia6 (1040) ((x4_6).toNatClampNeg)) (Ia6 (1041) ((x4_6).toNatClampNeg)) hJ hI (by rw [show I7 1035 = Ia6 1035 from (hkI7.getA 1035 rfl), show I7 1036 = Ia6 1036 from (hkI7.getA 1036 rfl)]; exact LWR.segT hLa (by omega) (by omega)) (by first | omega | decide) (by first | omega | decide) (by first | omega | decide)) rfl rfl ⟨Nat.le_of_ble_eq_true rfl, Nat.le_of_ble_eq_true rfl⟩ hJ.1 rfl rfl (by decide) rfl hl.1 rfl (Nat.le_of_ble_eq_true rfl) dX10_turns_72 ⟨Nat.le_of_ble_eq_true rfl, Nat.le_of_ble_eq_true rfl⟩) hS (fun r69 u H locs hw hM hS => ?_)
            obtain ⟨I70, L71, rfl, hI, hkI70⟩ := hw
            have hM : Mem D A ad ns I70 L71 G H := hM
            have hK := hK.trans hkI70 rfl
            refine lv_lconst (v := 1) hx hb dX10_turns_75 (by decide) ?_
            refine W.lcmp hx hb dX10_turns_76 ?_
            refine lv_if_ne (tgt := 199) hx hb dX10_turns_77 (by decide) (fun c72 => ?_) (fun c72 => ?_)
            · have hc72 := c72
              have q72 := l_ne hc72
              obtain ⟨v73, ev73⟩ : ∃ z : Int32, z = x4_6 + Int32.ofInt (1) := ⟨_, rfl⟩
              have tv73 := a_inc ev73 (by decide) (by omega) (by omega)
              refine lv_iinc (v := v73) (lv' := [(4, .int (v73)), (0, .ref (ad (1000))), (1, .int (a0)), (2, .int (a1)), (3, .int (a2))]) hx hb dX10_turns_199 hl (k := 0) rfl ev73.symm (by decide) rfl (fun ls hl => ?_)
              refine lv_goto (tgt := 6) hx hb dX10_turns_202 (by decide) ?_
              exact ih6 (v73) I70 L71 _ _ ls hI hK (by first | omega | decide) (by omega) (by omega) hM hS (lv_sub hl [0, 1, 2, 3, 4] rfl)
            · have hc72 := c72
              have q72 := l_eq hc72
              refine lv_aload_n hx hb dX10_turns_80 rfl (lv_at hl 1 rfl) ?_
              refine lv_iload_n hx hb dX10_turns_81 rfl (lv_at hl 2 rfl) ?_
              refine lv_aload_n hx hb dX10_turns_82 rfl (lv_at hl 1 rfl) ?_
              refine m_getr (1000) 39 (1039) hx hb hts hown hE oc10 hM hJ.1 rfl (by decide) rfl (hJ.2 39 (by decide)).2 (by decide) tb_1216 dX10_turns_83 ?_
              refine lv_iload hx hb dX10_turns_86 (lv_at hl 0 rfl) ?_
              refine m_iald (1039) hx hb hE hM (hJ.2 39 (by decide)).1 rfl (vp_in_iff.mpr (by omega)) dX10_turns_88 ?_
              have g74 := hI.get (1039) ((x4_6).toNatClampNeg) (lo := 0) (hi := 300) rfl
              have z75 : I70 (1039) (x4_6).toNatClampNeg = Ia6 (1039) ((x4_6).toNatClampNeg) := ((congrFun (hkI70.getA (1039) rfl) ((x4_6).toNatClampNeg))).trans (congrFun (hkI7.getA (1039) rfl) ((x4_6).toNatClampNeg))
              rw [z75] at g74 ⊢
              refine lv_aload_n hx hb dX10_turns_89 rfl (lv_at hl 1 rfl) ?_
              refine m_getr (1000) 40 (1040) hx hb hts hown hE oc10 hM hJ.1 rfl (by decide) rfl (hJ.2 40 (by decide)).2 (by decide) tb_1217 dX10_turns_90 ?_
              refine lv_iload hx hb dX10_turns_93 (lv_at hl 0 rfl) ?_
              refine m_iald (1040) hx hb hE hM (hJ.2 40 (by decide)).1 rfl (vp_in_iff.mpr (by omega)) dX10_turns_95 ?_
              have g76 := hI.get (1040) ((x4_6).toNatClampNeg) (lo := 0) (hi := 300) rfl
              have z77 : I70 (1040) (x4_6).toNatClampNeg = Ia6 (1040) ((x4_6).toNatClampNeg) := ((congrFun (hkI70.getA (1040) rfl) ((x4_6).toNatClampNeg))).trans (congrFun (hkI7.getA (1040) rfl) ((x4_6).toNatClampNeg))
              rw [z77] at g76 ⊢
              have pw78 : (I70 (1000) 24).toInt = (Ia6 (1000) 24 : Int32).toInt := congrArg Int32.toInt (((hkI70.get (1000) 24 rfl)).trans (hkI7.get (1000) 24 rfl))
              have pw79 : (I70 (1000) 25).toInt = (Ia6 (1000) 25 : Int32).toInt := congrArg Int32.toInt (((hkI70.get (1000) 25 rfl)).trans (hkI7.get (1000) 25 rfl))
              have pw80 : (I70 (1000) 26).toInt = (Ia6 (1000) 26 : Int32).toInt := congrArg Int32.toInt (((hkI70.get (1000) 26 rfl)).trans (hkI7.get (1000) 26 rfl))
              have pw81 : (I70 (1000) 27).toInt = (Ia6 (1000) 27 : Int32).toInt := congrArg Int32.toInt (((hkI70.get (1000) 27 rfl)).trans (hkI7.get (1000) 27 rfl))
              have pw82 : (I70 (1000) 29).toInt = (Ia6 (1000) 29 : Int32).toInt := congrArg Int32.toInt (((hkI70.get (1000) 29 rfl)).trans (hkI7.get (1000) 29 rfl))
              have pw83 : (I70 (1000) 31).toInt = (Ia6 (1000) 31 : Int32).toInt := congrArg Int32.toInt (((hkI70.get (1000) 31 rfl)).trans (hkI7.get (1000) 31 rfl))
              have pw84 : (I70 (1000) 32).toInt = (Ia6 (1000) 32 : Int32).toInt := congrArg Int32.toInt (((hkI70.get (1000) 32 rfl)).trans (hkI7.get (1000) 32 rfl))
              refine m_calll (m_runV (1000) (As := [.int (a0), .int (Ia6 (1039) ((x4_6).toNatClampNeg)), .int (Ia6 (1040) ((x4_6).toNatClampNeg))]) (rest := []) hx hb hml hown hts hE hM hS hA ce_X10_answer tb_1630 (V_X10_answer l D A ad ns I70 L71 G (a0) (Ia6 (1039) ((x4_6).toNatClampNeg)) (Ia6 (1040) ((x4_6).toNatClampNeg)) hJ hI (by rw [show I70 1035 = Ia6 1035 from ((hkI70.getA 1035 rfl)).trans (hkI7.getA 1035 rfl), show I70 1036 = Ia6 1036 from ((hkI70.getA 1036 rfl)).trans (hkI7.getA 1036 rfl)]; exact LWR.segS hLa (by omega) (by omega)) (by first | omega | decide) (by first | omega | decide) (by first | omega | decide)) rfl rfl ⟨Nat.le_of_ble_eq_true rfl, Nat.le_of_ble_eq_true rfl⟩ hJ.1 rfl rfl (by decide) rfl hl.1 rfl (Nat.le_of_ble_eq_true rfl) dX10_turns_96 ⟨Nat.le_of_ble_eq_true rfl, Nat.le_of_ble_eq_true rfl⟩) hS (fun r85 u H locs hw hM hS => ?_)
              obtain ⟨I86, L87, rfl, hI, hkI86⟩ := hw
              have hM : Mem D A ad ns I86 L87 G H := hM
              have hK := hK.trans hkI86 rfl
              refine lv_ldc2 (v := (7)) hx hb hown (hts _ tb_1451) dX10_turns_99 ?_
              refine lv_land hx hb dX10_turns_102 ?_
              refine lv_topl (fun v88 ev88 => ?_)
              refine lv_l2i hx hb dX10_turns_103 rfl ?_
              refine lv_topi (fun v89 ev89 => ?_)
              refine lv_istore (lv' := [(5, .int (v89)), (4, .int (x4_6)), (0, .ref (ad (1000))), (1, .int (a0)), (2, .int (a1)), (3, .int (a2))]) hx hb dX10_turns_104 hl (by decide) rfl (fun ls hl => ?_)
              refine lv_iload hx hb dX10_turns_106 (lv_at hl 0 rfl) ?_
              refine lv_aload_n hx hb dX10_turns_108 rfl (lv_at hl 2 rfl) ?_
              refine m_getr (1000) 9 (1009) hx hb hts hown hE oc10 hM hJ.1 rfl (by decide) rfl (hJ.2 9 (by decide)).2 (by decide) tb_1186 dX10_turns_109 ?_
              refine lv_iload_n hx hb dX10_turns_112 rfl (lv_at hl 5 rfl) ?_
              refine m_iald (1009) hx hb hE hM (hJ.2 9 (by decide)).1 rfl (vp_in_iff.mpr (by omega)) dX10_turns_113 ?_
              have z90 : I86 (1009) (a2).toNatClampNeg = Ia6 (1009) ((a2).toNatClampNeg) := (((congrFun (hkI86.getA (1009) rfl) ((a2).toNatClampNeg))).trans (congrFun (hkI70.getA (1009) rfl) ((a2).toNatClampNeg))).trans (congrFun (hkI7.getA (1009) rfl) ((a2).toNatClampNeg))
              rw [z90]
              refine lv_isub hx hb dX10_turns_114 ?_
              refine lv_topi (fun v91 ev91 => ?_)
              refine lv_bipush (v := (8)) hx hb dX10_turns_115 (by decide) ?_
              refine lv_iadd hx hb dX10_turns_117 ?_
              refine lv_topi (fun v92 ev92 => ?_)
              refine lv_bipush (v := (8)) hx hb dX10_turns_118 (by decide) ?_
              refine lv_irem hx hb dX10_turns_120 (by decide) ?_
              refine lv_topi (fun v93 ev93 => ?_)
              refine lv_istore (lv' := [(6, .int (v93)), (5, .int (v89)), (4, .int (x4_6)), (0, .ref (ad (1000))), (1, .int (a0)), (2, .int (a1)), (3, .int (a2))]) hx hb dX10_turns_121 hl (by decide) rfl (fun ls hl => ?_)
              refine lv_aload_n hx hb dX10_turns_123 rfl (lv_at hl 3 rfl) ?_
              refine m_getr (1000) 12 (1012) hx hb hts hown hE oc10 hM hJ.1 rfl (by decide) rfl (hJ.2 12 (by decide)).2 (by decide) tb_1189 dX10_turns_124 ?_
              refine lv_iload_n hx hb dX10_turns_127 rfl (lv_at hl 6 rfl) ?_
              refine m_iald (1012) hx hb hE hM (hJ.2 12 (by decide)).1 rfl (vp_in_iff.mpr (by omega)) dX10_turns_128 ?_
              have z94 : I86 (1012) (a2).toNatClampNeg = Ia6 (1012) ((a2).toNatClampNeg) := (((congrFun (hkI86.getA (1012) rfl) ((a2).toNatClampNeg))).trans (congrFun (hkI70.getA (1012) rfl) ((a2).toNatClampNeg))).trans (congrFun (hkI7.getA (1012) rfl) ((a2).toNatClampNeg))
              rw [z94]
              refine lv_istore (lv' := [(7, .int (Ia6 (1012) ((a2).toNatClampNeg))), (6, .int (v93)), (5, .int (v89)), (4, .int (x4_6)), (0, .ref (ad (1000))), (1, .int (a0)), (2, .int (a1)), (3, .int (a2))]) hx hb dX10_turns_129 hl (by decide) rfl (fun ls hl => ?_)
              refine lv_iload hx hb dX10_turns_131 (lv_at hl 1 rfl) ?_
              refine lv_iconst (v := (4)) hx hb dX10_turns_133 (by decide) ?_
              refine lv_icmp_gt (tgt := 154) hx hb dX10_turns_134 (by decide) (fun c95 => ?_) (fun c95 => ?_)
              · have hc95 := c95
                have q95 := q_lt hc95
                refine lv_bipush (v := (8)) hx hb dX10_turns_154 (by decide) ?_
                refine lv_iload hx hb dX10_turns_156 (lv_at hl 1 rfl) ?_
                refine lv_isub hx hb dX10_turns_158 ?_
                refine lv_topi (fun v96 ev96 => ?_)
                refine lv_iload hx hb dX10_turns_159 (lv_at hl 0 rfl) ?_
                refine lv_icmp_ge (tgt := 172) hx hb dX10_turns_161 (by decide) (fun c97 => ?_) (fun c97 => ?_)
                · have hc97 := c97
                  have q97 := q_le hc97
                  refine lv_iload hx hb dX10_turns_172 (lv_at hl 0 rfl) ?_
                  refine lv_ineg hx hb dX10_turns_174 ?_
                  refine lv_topi (fun v98 ev98 => ?_)
                  refine lv_istore (lv' := [(8, .int (v98)), (7, .int (Ia6 (1012) ((a2).toNatClampNeg))), (6, .int (v93)), (5, .int (v89)), (4, .int (x4_6)), (0, .ref (ad (1000))), (1, .int (a0)), (2, .int (a1)), (3, .int (a2))]) hx hb dX10_turns_175 hl (by decide) rfl (fun ls hl => ?_)
                  refine lv_aload_n hx hb dX10_turns_177 rfl (lv_at hl 5 rfl) ?_
                  refine m_getr (1000) 9 (1009) hx hb hts hown hE oc10 hM hJ.1 rfl (by decide) rfl (hJ.2 9 (by decide)).2 (by decide) tb_1186 dX10_turns_178 ?_
                  refine lv_iload_n hx hb dX10_turns_181 rfl (lv_at hl 8 rfl) ?_
                  refine lv_aload_n hx hb dX10_turns_182 rfl (lv_at hl 5 rfl) ?_
                  refine m_getr (1000) 9 (1009) hx hb hts hown hE oc10 hM hJ.1 rfl (by decide) rfl (hJ.2 9 (by decide)).2 (by decide) tb_1186 dX10_turns_183 ?_
                  refine lv_iload_n hx hb dX10_turns_186 rfl (lv_at hl 8 rfl) ?_
                  refine m_iald (1009) hx hb hE hM (hJ.2 9 (by decide)).1 rfl (vp_in_iff.mpr (by omega)) dX10_turns_187 ?_
                  have z99 : I86 (1009) (a2).toNatClampNeg = Ia6 (1009) ((a2).toNatClampNeg) := (((congrFun (hkI86.getA (1009) rfl) ((a2).toNatClampNeg))).trans (congrFun (hkI70.getA (1009) rfl) ((a2).toNatClampNeg))).trans (congrFun (hkI7.getA (1009) rfl) ((a2).toNatClampNeg))
                  rw [z99]
                  refine lv_iload hx hb dX10_turns_188 (lv_at hl 0 rfl) ?_
                  refine lv_iadd hx hb dX10_turns_190 ?_
                  refine lv_topi (fun v100 ev100 => ?_)
                  refine lv_bipush (v := (8)) hx hb dX10_turns_191 (by decide) ?_
                  refine lv_iadd hx hb dX10_turns_193 ?_
                  refine lv_topi (fun v101 ev101 => ?_)
                  refine lv_bipush (v := (8)) hx hb dX10_turns_194 (by decide) ?_
                  refine lv_irem hx hb dX10_turns_196 (by decide) ?_
                  refine lv_topi (fun v102 ev102 => ?_)
                  refine m_iast (1009) hx hb hE hM hS (hJ.2 9 (by decide)).1 rfl (vp_in_iff.mpr (by omega)) dX10_turns_197 (fun H locs I103 eI103 hM hS => ?_)
                  subst eI103
                  have hI := hI.putF (n := 1009) (k := ((a2).toNatClampNeg)) (v := v102) rfl
                  have hK := hK.put (n := 1009) (k := ((a2).toNatClampNeg)) (v := v102) (by first | rfl | simp [inR])
                  exact m_vret hx hb hr hlocks hM hS (Nat.le_of_ble_eq_true rfl) (Nat.le_of_ble_eq_true rfl) ⟨_, _, rfl, hI, hK⟩ dX10_turns_198
                · have hc97 := c97
                  have q97 := q_nle hc97
                  refine lv_iload hx hb dX10_turns_164 (lv_at hl 1 rfl) ?_
                  refine lv_bipush (v := (8)) hx hb dX10_turns_166 (by decide) ?_
                  refine lv_isub hx hb dX10_turns_168 ?_
                  refine lv_topi (fun v104 ev104 => ?_)
                  refine lv_goto (tgt := 175) hx hb dX10_turns_169 (by decide) ?_
                  refine lv_istore (lv' := [(8, .int (v104)), (7, .int (Ia6 (1012) ((a2).toNatClampNeg))), (6, .int (v93)), (5, .int (v89)), (4, .int (x4_6)), (0, .ref (ad (1000))), (1, .int (a0)), (2, .int (a1)), (3, .int (a2))]) hx hb dX10_turns_175 hl (by decide) rfl (fun ls hl => ?_)
                  refine lv_aload_n hx hb dX10_turns_177 rfl (lv_at hl 5 rfl) ?_
                  refine m_getr (1000) 9 (1009) hx hb hts hown hE oc10 hM hJ.1 rfl (by decide) rfl (hJ.2 9 (by decide)).2 (by decide) tb_1186 dX10_turns_178 ?_
                  refine lv_iload_n hx hb dX10_turns_181 rfl (lv_at hl 8 rfl) ?_
                  refine lv_aload_n hx hb dX10_turns_182 rfl (lv_at hl 5 rfl) ?_
                  refine m_getr (1000) 9 (1009) hx hb hts hown hE oc10 hM hJ.1 rfl (by decide) rfl (hJ.2 9 (by decide)).2 (by decide) tb_1186 dX10_turns_183 ?_
                  refine lv_iload_n hx hb dX10_turns_186 rfl (lv_at hl 8 rfl) ?_
                  refine m_iald (1009) hx hb hE hM (hJ.2 9 (by decide)).1 rfl (vp_in_iff.mpr (by omega)) dX10_turns_187 ?_
                  have z105 : I86 (1009) (a2).toNatClampNeg = Ia6 (1009) ((a2).toNatClampNeg) := (((congrFun (hkI86.getA (1009) rfl) ((a2).toNatClampNeg))).trans (congrFun (hkI70.getA (1009) rfl) ((a2).toNatClampNeg))).trans (congrFun (hkI7.getA (1009) rfl) ((a2).toNatClampNeg))
                  rw [z105]
                  refine lv_iload hx hb dX10_turns_188 (lv_at hl 0 rfl) ?_
                  refine lv_iadd hx hb dX10_turns_190 ?_
                  refine lv_topi (fun v106 ev106 => ?_)
                  refine lv_bipush (v := (8)) hx hb dX10_turns_191 (by decide) ?_
                  refine lv_iadd hx hb dX10_turns_193 ?_
                  refine lv_topi (fun v107 ev107 => ?_)
                  refine lv_bipush (v := (8)) hx hb dX10_turns_194 (by decide) ?_
                  refine lv_irem hx hb dX10_turns_196 (by decide) ?_
                  refine lv_topi (fun v108 ev108 => ?_)
                  refine m_iast (1009) hx hb hE hM hS (hJ.2 9 (by decide)).1 rfl (vp_in_iff.mpr (by omega)) dX10_turns_197 (fun H locs I109 eI109 hM hS => ?_)
                  subst eI109
                  have hI := hI.putF (n := 1009) (k := ((a2).toNatClampNeg)) (v := v108) rfl
                  have hK := hK.put (n := 1009) (k := ((a2).toNatClampNeg)) (v := v108) (by first | rfl | simp [inR])
                  exact m_vret hx hb hr hlocks hM hS (Nat.le_of_ble_eq_true rfl) (Nat.le_of_ble_eq_true rfl) ⟨_, _, rfl, hI, hK⟩ dX10_turns_198
              · have hc95 := c95
                have q95 := q_nlt hc95
                refine lv_iload hx hb dX10_turns_137 (lv_at hl 1 rfl) ?_
                refine lv_iload hx hb dX10_turns_139 (lv_at hl 0 rfl) ?_
                refine lv_icmp_ge (tgt := 149) hx hb dX10_turns_141 (by decide) (fun c110 => ?_) (fun c110 => ?_)
                · have hc110 := c110
                  have q110 := q_le hc110
                  refine lv_iload hx hb dX10_turns_149 (lv_at hl 0 rfl) ?_
                  refine lv_goto (tgt := 175) hx hb dX10_turns_151 (by decide) ?_
                  refine lv_istore (lv' := [(8, .int (Ia6 (1012) ((a2).toNatClampNeg))), (7, .int (Ia6 (1012) ((a2).toNatClampNeg))), (6, .int (v93)), (5, .int (v89)), (4, .int (x4_6)), (0, .ref (ad (1000))), (1, .int (a0)), (2, .int (a1)), (3, .int (a2))]) hx hb dX10_turns_175 hl (by decide) rfl (fun ls hl => ?_)
                  refine lv_aload_n hx hb dX10_turns_177 rfl (lv_at hl 5 rfl) ?_
                  refine m_getr (1000) 9 (1009) hx hb hts hown hE oc10 hM hJ.1 rfl (by decide) rfl (hJ.2 9 (by decide)).2 (by decide) tb_1186 dX10_turns_178 ?_
                  refine lv_iload_n hx hb dX10_turns_181 rfl (lv_at hl 8 rfl) ?_
                  refine lv_aload_n hx hb dX10_turns_182 rfl (lv_at hl 5 rfl) ?_
                  refine m_getr (1000) 9 (1009) hx hb hts hown hE oc10 hM hJ.1 rfl (by decide) rfl (hJ.2 9 (by decide)).2 (by decide) tb_1186 dX10_turns_183 ?_
                  refine lv_iload_n hx hb dX10_turns_186 rfl (lv_at hl 8 rfl) ?_
                  refine m_iald (1009) hx hb hE hM (hJ.2 9 (by decide)).1 rfl (vp_in_iff.mpr (by omega)) dX10_turns_187 ?_
                  have z111 : I86 (1009) (a2).toNatClampNeg = Ia6 (1009) ((a2).toNatClampNeg) := (((congrFun (hkI86.getA (1009) rfl) ((a2).toNatClampNeg))).trans (congrFun (hkI70.getA (1009) rfl) ((a2).toNatClampNeg))).trans (congrFun (hkI7.getA (1009) rfl) ((a2).toNatClampNeg))
                  rw [z111]
                  refine lv_iload hx hb dX10_turns_188 (lv_at hl 0 rfl) ?_
                  refine lv_iadd hx hb dX10_turns_190 ?_
                  refine lv_topi (fun v112 ev112 => ?_)
                  refine lv_bipush (v := (8)) hx hb dX10_turns_191 (by decide) ?_
                  refine lv_iadd hx hb dX10_turns_193 ?_
                  refine lv_topi (fun v113 ev113 => ?_)
                  refine lv_bipush (v := (8)) hx hb dX10_turns_194 (by decide) ?_
                  refine lv_irem hx hb dX10_turns_196 (by decide) ?_
                  refine lv_topi (fun v114 ev114 => ?_)
                  refine m_iast (1009) hx hb hE hM hS (hJ.2 9 (by decide)).1 rfl (vp_in_iff.mpr (by omega)) dX10_turns_197 (fun H locs I115 eI115 hM hS => ?_)
                  subst eI115
                  have hI := hI.putF (n := 1009) (k := ((a2).toNatClampNeg)) (v := v114) rfl
                  have hK := hK.put (n := 1009) (k := ((a2).toNatClampNeg)) (v := v114) (by first | rfl | simp [inR])
                  exact m_vret hx hb hr hlocks hM hS (Nat.le_of_ble_eq_true rfl) (Nat.le_of_ble_eq_true rfl) ⟨_, _, rfl, hI, hK⟩ dX10_turns_198
                · have hc110 := c110
                  have q110 := q_nle hc110
                  refine lv_iload hx hb dX10_turns_144 (lv_at hl 1 rfl) ?_
                  refine lv_goto (tgt := 175) hx hb dX10_turns_146 (by decide) ?_
                  refine lv_istore (lv' := [(8, .int (v93)), (7, .int (Ia6 (1012) ((a2).toNatClampNeg))), (6, .int (v93)), (5, .int (v89)), (4, .int (x4_6)), (0, .ref (ad (1000))), (1, .int (a0)), (2, .int (a1)), (3, .int (a2))]) hx hb dX10_turns_175 hl (by decide) rfl (fun ls hl => ?_)
                  refine lv_aload_n hx hb dX10_turns_177 rfl (lv_at hl 5 rfl) ?_
                  refine m_getr (1000) 9 (1009) hx hb hts hown hE oc10 hM hJ.1 rfl (by decide) rfl (hJ.2 9 (by decide)).2 (by decide) tb_1186 dX10_turns_178 ?_
                  refine lv_iload_n hx hb dX10_turns_181 rfl (lv_at hl 8 rfl) ?_
                  refine lv_aload_n hx hb dX10_turns_182 rfl (lv_at hl 5 rfl) ?_
                  refine m_getr (1000) 9 (1009) hx hb hts hown hE oc10 hM hJ.1 rfl (by decide) rfl (hJ.2 9 (by decide)).2 (by decide) tb_1186 dX10_turns_183 ?_
                  refine lv_iload_n hx hb dX10_turns_186 rfl (lv_at hl 8 rfl) ?_
                  refine m_iald (1009) hx hb hE hM (hJ.2 9 (by decide)).1 rfl (vp_in_iff.mpr (by omega)) dX10_turns_187 ?_
                  have z116 : I86 (1009) (a2).toNatClampNeg = Ia6 (1009) ((a2).toNatClampNeg) := (((congrFun (hkI86.getA (1009) rfl) ((a2).toNatClampNeg))).trans (congrFun (hkI70.getA (1009) rfl) ((a2).toNatClampNeg))).trans (congrFun (hkI7.getA (1009) rfl) ((a2).toNatClampNeg))
                  rw [z116]
                  refine lv_iload hx hb dX10_turns_188 (lv_at hl 0 rfl) ?_
                  refine lv_iadd hx hb dX10_turns_190 ?_
                  refine lv_topi (fun v117 ev117 => ?_)
                  refine lv_bipush (v := (8)) hx hb dX10_turns_191 (by decide) ?_
                  refine lv_iadd hx hb dX10_turns_193 ?_
                  refine lv_topi (fun v118 ev118 => ?_)
                  refine lv_bipush (v := (8)) hx hb dX10_turns_194 (by decide) ?_
                  refine lv_irem hx hb dX10_turns_196 (by decide) ?_
                  refine lv_topi (fun v119 ev119 => ?_)
                  refine m_iast (1009) hx hb hE hM hS (hJ.2 9 (by decide)).1 rfl (vp_in_iff.mpr (by omega)) dX10_turns_197 (fun H locs I120 eI120 hM hS => ?_)
                  subst eI120
                  have hI := hI.putF (n := 1009) (k := ((a2).toNatClampNeg)) (v := v119) rfl
                  have hK := hK.put (n := 1009) (k := ((a2).toNatClampNeg)) (v := v119) (by first | rfl | simp [inR])
                  exact m_vret hx hb hr hlocks hM hS (Nat.le_of_ble_eq_true rfl) (Nat.le_of_ble_eq_true rfl) ⟨_, _, rfl, hI, hK⟩ dX10_turns_198
  exact loop6 (_ + 1) (v1) I L _ _ ls hI hK (by first | omega | decide) (by omega) (Nat.lt_succ_self _) hM hS (lv_sub hl [0, 1, 2, 3, 4] rfl)
theorem dX10_goesDay_0 : decode cX10_goesDay 0 = .ok (.iconst 0, 1) := by decide +kernel
theorem dX10_goesDay_1 : decode cX10_goesDay 1 = .ok (.istore_n 2, 1) := by decide +kernel
theorem dX10_goesDay_2 : decode cX10_goesDay 2 = .ok (.iload_n 2, 1) := by decide +kernel
theorem dX10_goesDay_3 : decode cX10_goesDay 3 = .ok (.bipush 8, 2) := by decide +kernel
theorem dX10_goesDay_5 : decode cX10_goesDay 5 = .ok (.if_icmp .ge 16, 3) := by decide +kernel
theorem dX10_goesDay_8 : decode cX10_goesDay 8 = .ok (.aload_n 0, 1) := by decide +kernel
theorem dX10_goesDay_9 : decode cX10_goesDay 9 = .ok (.getfield 152, 3) := by decide +kernel
theorem dX10_goesDay_12 : decode cX10_goesDay 12 = .ok (.iload_n 2, 1) := by decide +kernel
theorem dX10_goesDay_13 : decode cX10_goesDay 13 = .ok (.iconst 0, 1) := by decide +kernel
theorem dX10_goesDay_14 : decode cX10_goesDay 14 = .ok (.iastore, 1) := by decide +kernel
theorem dX10_goesDay_15 : decode cX10_goesDay 15 = .ok (.iinc 2 1, 3) := by decide +kernel
theorem dX10_goesDay_18 : decode cX10_goesDay 18 = .ok (.goto (-16), 3) := by decide +kernel
theorem dX10_goesDay_21 : decode cX10_goesDay 21 = .ok (.iconst 0, 1) := by decide +kernel
theorem dX10_goesDay_22 : decode cX10_goesDay 22 = .ok (.istore_n 2, 1) := by decide +kernel
theorem dX10_goesDay_23 : decode cX10_goesDay 23 = .ok (.iload_n 2, 1) := by decide +kernel
theorem dX10_goesDay_24 : decode cX10_goesDay 24 = .ok (.bipush 24, 2) := by decide +kernel
theorem dX10_goesDay_26 : decode cX10_goesDay 26 = .ok (.if_icmp .ge 104, 3) := by decide +kernel
theorem dX10_goesDay_29 : decode cX10_goesDay 29 = .ok (.iconst 0, 1) := by decide +kernel
theorem dX10_goesDay_30 : decode cX10_goesDay 30 = .ok (.istore_n 3, 1) := by decide +kernel
theorem dX10_goesDay_31 : decode cX10_goesDay 31 = .ok (.iload_n 3, 1) := by decide +kernel
theorem dX10_goesDay_32 : decode cX10_goesDay 32 = .ok (.aload_n 0, 1) := by decide +kernel
theorem dX10_goesDay_33 : decode cX10_goesDay 33 = .ok (.getfield 7, 3) := by decide +kernel
theorem dX10_goesDay_36 : decode cX10_goesDay 36 = .ok (.bipush 8, 2) := by decide +kernel
theorem dX10_goesDay_38 : decode cX10_goesDay 38 = .ok (.iaload, 1) := by decide +kernel
theorem dX10_goesDay_39 : decode cX10_goesDay 39 = .ok (.if_icmp .ge 16, 3) := by decide +kernel
theorem dX10_goesDay_42 : decode cX10_goesDay 42 = .ok (.aload_n 0, 1) := by decide +kernel
theorem dX10_goesDay_43 : decode cX10_goesDay 43 = .ok (.iload_n 1, 1) := by decide +kernel
theorem dX10_goesDay_44 : decode cX10_goesDay 44 = .ok (.iload_n 2, 1) := by decide +kernel
theorem dX10_goesDay_45 : decode cX10_goesDay 45 = .ok (.iload_n 3, 1) := by decide +kernel
theorem dX10_goesDay_46 : decode cX10_goesDay 46 = .ok (.invokevirtual 449, 3) := by decide +kernel
theorem dX10_goesDay_49 : decode cX10_goesDay 49 = .ok (.iinc 3 1, 3) := by decide +kernel
theorem dX10_goesDay_52 : decode cX10_goesDay 52 = .ok (.goto (-21), 3) := by decide +kernel
theorem dX10_goesDay_55 : decode cX10_goesDay 55 = .ok (.aload_n 0, 1) := by decide +kernel
theorem dX10_goesDay_56 : decode cX10_goesDay 56 = .ok (.iload_n 2, 1) := by decide +kernel
theorem dX10_goesDay_57 : decode cX10_goesDay 57 = .ok (.invokevirtual 433, 3) := by decide +kernel
theorem dX10_goesDay_60 : decode cX10_goesDay 60 = .ok (.iconst (-1), 1) := by decide +kernel
theorem dX10_goesDay_61 : decode cX10_goesDay 61 = .ok (.if_icmp .eq 63, 3) := by decide +kernel
theorem dX10_goesDay_64 : decode cX10_goesDay 64 = .ok (.aload_n 0, 1) := by decide +kernel
theorem dX10_goesDay_65 : decode cX10_goesDay 65 = .ok (.iload_n 2, 1) := by decide +kernel
theorem dX10_goesDay_66 : decode cX10_goesDay 66 = .ok (.invokevirtual 404, 3) := by decide +kernel
theorem dX10_goesDay_69 : decode cX10_goesDay 69 = .ok (.iconst 0, 1) := by decide +kernel
theorem dX10_goesDay_70 : decode cX10_goesDay 70 = .ok (.istore_n 3, 1) := by decide +kernel
theorem dX10_goesDay_71 : decode cX10_goesDay 71 = .ok (.iload_n 3, 1) := by decide +kernel
theorem dX10_goesDay_72 : decode cX10_goesDay 72 = .ok (.aload_n 0, 1) := by decide +kernel
theorem dX10_goesDay_73 : decode cX10_goesDay 73 = .ok (.getfield 7, 3) := by decide +kernel
theorem dX10_goesDay_76 : decode cX10_goesDay 76 = .ok (.bipush 9, 2) := by decide +kernel
theorem dX10_goesDay_78 : decode cX10_goesDay 78 = .ok (.iaload, 1) := by decide +kernel
theorem dX10_goesDay_79 : decode cX10_goesDay 79 = .ok (.if_icmp .ge 24, 3) := by decide +kernel
theorem dX10_goesDay_82 : decode cX10_goesDay 82 = .ok (.aload_n 0, 1) := by decide +kernel
theorem dX10_goesDay_83 : decode cX10_goesDay 83 = .ok (.getfield 152, 3) := by decide +kernel
theorem dX10_goesDay_86 : decode cX10_goesDay 86 = .ok (.iload_n 3, 1) := by decide +kernel
theorem dX10_goesDay_87 : decode cX10_goesDay 87 = .ok (.dup2, 1) := by decide +kernel
theorem dX10_goesDay_88 : decode cX10_goesDay 88 = .ok (.iaload, 1) := by decide +kernel
theorem dX10_goesDay_89 : decode cX10_goesDay 89 = .ok (.aload_n 0, 1) := by decide +kernel
theorem dX10_goesDay_90 : decode cX10_goesDay 90 = .ok (.getfield 133, 3) := by decide +kernel
theorem dX10_goesDay_93 : decode cX10_goesDay 93 = .ok (.iload_n 3, 1) := by decide +kernel
theorem dX10_goesDay_94 : decode cX10_goesDay 94 = .ok (.iaload, 1) := by decide +kernel
theorem dX10_goesDay_95 : decode cX10_goesDay 95 = .ok (.iadd, 1) := by decide +kernel
theorem dX10_goesDay_96 : decode cX10_goesDay 96 = .ok (.iastore, 1) := by decide +kernel
theorem dX10_goesDay_97 : decode cX10_goesDay 97 = .ok (.iinc 3 1, 3) := by decide +kernel
theorem dX10_goesDay_100 : decode cX10_goesDay 100 = .ok (.goto (-29), 3) := by decide +kernel
theorem dX10_goesDay_103 : decode cX10_goesDay 103 = .ok (.aload_n 0, 1) := by decide +kernel
theorem dX10_goesDay_104 : decode cX10_goesDay 104 = .ok (.dup, 1) := by decide +kernel
theorem dX10_goesDay_105 : decode cX10_goesDay 105 = .ok (.getfield 452, 3) := by decide +kernel
theorem dX10_goesDay_108 : decode cX10_goesDay 108 = .ok (.aload_n 0, 1) := by decide +kernel
theorem dX10_goesDay_109 : decode cX10_goesDay 109 = .ok (.invokevirtual 455, 3) := by decide +kernel
theorem dX10_goesDay_112 : decode cX10_goesDay 112 = .ok (.ifCond .le 7, 3) := by decide +kernel
theorem dX10_goesDay_115 : decode cX10_goesDay 115 = .ok (.iconst 1, 1) := by decide +kernel
theorem dX10_goesDay_116 : decode cX10_goesDay 116 = .ok (.goto 4, 3) := by decide +kernel
theorem dX10_goesDay_119 : decode cX10_goesDay 119 = .ok (.iconst 0, 1) := by decide +kernel
theorem dX10_goesDay_120 : decode cX10_goesDay 120 = .ok (.iadd, 1) := by decide +kernel
theorem dX10_goesDay_121 : decode cX10_goesDay 121 = .ok (.putfield 452, 3) := by decide +kernel
theorem dX10_goesDay_124 : decode cX10_goesDay 124 = .ok (.iinc 2 1, 3) := by decide +kernel
theorem dX10_goesDay_127 : decode cX10_goesDay 127 = .ok (.goto (-104), 3) := by decide +kernel
theorem dX10_goesDay_130 : decode cX10_goesDay 130 = .ok (.iconst 0, 1) := by decide +kernel
theorem dX10_goesDay_131 : decode cX10_goesDay 131 = .ok (.istore_n 2, 1) := by decide +kernel
theorem dX10_goesDay_132 : decode cX10_goesDay 132 = .ok (.iload_n 2, 1) := by decide +kernel
theorem dX10_goesDay_133 : decode cX10_goesDay 133 = .ok (.aload_n 0, 1) := by decide +kernel
theorem dX10_goesDay_134 : decode cX10_goesDay 134 = .ok (.getfield 7, 3) := by decide +kernel
theorem dX10_goesDay_137 : decode cX10_goesDay 137 = .ok (.bipush 8, 2) := by decide +kernel
theorem dX10_goesDay_139 : decode cX10_goesDay 139 = .ok (.iaload, 1) := by decide +kernel
theorem dX10_goesDay_140 : decode cX10_goesDay 140 = .ok (.if_icmp .ge 55, 3) := by decide +kernel
theorem dX10_goesDay_143 : decode cX10_goesDay 143 = .ok (.aload_n 0, 1) := by decide +kernel
theorem dX10_goesDay_144 : decode cX10_goesDay 144 = .ok (.getfield 49, 3) := by decide +kernel
theorem dX10_goesDay_147 : decode cX10_goesDay 147 = .ok (.iload_n 2, 1) := by decide +kernel
theorem dX10_goesDay_148 : decode cX10_goesDay 148 = .ok (.aload_n 0, 1) := by decide +kernel
theorem dX10_goesDay_149 : decode cX10_goesDay 149 = .ok (.getfield 49, 3) := by decide +kernel
theorem dX10_goesDay_152 : decode cX10_goesDay 152 = .ok (.iload_n 2, 1) := by decide +kernel
theorem dX10_goesDay_153 : decode cX10_goesDay 153 = .ok (.iaload, 1) := by decide +kernel
theorem dX10_goesDay_154 : decode cX10_goesDay 154 = .ok (.aload_n 0, 1) := by decide +kernel
theorem dX10_goesDay_155 : decode cX10_goesDay 155 = .ok (.getfield 7, 3) := by decide +kernel
theorem dX10_goesDay_158 : decode cX10_goesDay 158 = .ok (.bipush 7, 2) := by decide +kernel
theorem dX10_goesDay_160 : decode cX10_goesDay 160 = .ok (.iaload, 1) := by decide +kernel
theorem dX10_goesDay_161 : decode cX10_goesDay 161 = .ok (.iadd, 1) := by decide +kernel
theorem dX10_goesDay_162 : decode cX10_goesDay 162 = .ok (.sipush 1000, 3) := by decide +kernel
theorem dX10_goesDay_165 : decode cX10_goesDay 165 = .ok (.if_icmp .le 9, 3) := by decide +kernel
theorem dX10_goesDay_168 : decode cX10_goesDay 168 = .ok (.sipush 1000, 3) := by decide +kernel
theorem dX10_goesDay_171 : decode cX10_goesDay 171 = .ok (.goto 17, 3) := by decide +kernel
theorem dX10_goesDay_174 : decode cX10_goesDay 174 = .ok (.aload_n 0, 1) := by decide +kernel
theorem dX10_goesDay_175 : decode cX10_goesDay 175 = .ok (.getfield 49, 3) := by decide +kernel
theorem dX10_goesDay_178 : decode cX10_goesDay 178 = .ok (.iload_n 2, 1) := by decide +kernel
theorem dX10_goesDay_179 : decode cX10_goesDay 179 = .ok (.iaload, 1) := by decide +kernel
theorem dX10_goesDay_180 : decode cX10_goesDay 180 = .ok (.aload_n 0, 1) := by decide +kernel
theorem dX10_goesDay_181 : decode cX10_goesDay 181 = .ok (.getfield 7, 3) := by decide +kernel
theorem dX10_goesDay_184 : decode cX10_goesDay 184 = .ok (.bipush 7, 2) := by decide +kernel
theorem dX10_goesDay_186 : decode cX10_goesDay 186 = .ok (.iaload, 1) := by decide +kernel
theorem dX10_goesDay_187 : decode cX10_goesDay 187 = .ok (.iadd, 1) := by decide +kernel
theorem dX10_goesDay_188 : decode cX10_goesDay 188 = .ok (.iastore, 1) := by decide +kernel
theorem dX10_goesDay_189 : decode cX10_goesDay 189 = .ok (.iinc 2 1, 3) := by decide +kernel
theorem dX10_goesDay_192 : decode cX10_goesDay 192 = .ok (.goto (-60), 3) := by decide +kernel
theorem dX10_goesDay_195 : decode cX10_goesDay 195 = .ok (.iconst 0, 1) := by decide +kernel
theorem dX10_goesDay_196 : decode cX10_goesDay 196 = .ok (.istore_n 2, 1) := by decide +kernel
theorem dX10_goesDay_197 : decode cX10_goesDay 197 = .ok (.iload_n 2, 1) := by decide +kernel
theorem dX10_goesDay_198 : decode cX10_goesDay 198 = .ok (.aload_n 0, 1) := by decide +kernel
theorem dX10_goesDay_199 : decode cX10_goesDay 199 = .ok (.getfield 7, 3) := by decide +kernel
theorem dX10_goesDay_202 : decode cX10_goesDay 202 = .ok (.bipush 9, 2) := by decide +kernel
theorem dX10_goesDay_204 : decode cX10_goesDay 204 = .ok (.iaload, 1) := by decide +kernel
theorem dX10_goesDay_205 : decode cX10_goesDay 205 = .ok (.if_icmp .ge 21, 3) := by decide +kernel
theorem dX10_goesDay_208 : decode cX10_goesDay 208 = .ok (.aload_n 0, 1) := by decide +kernel
theorem dX10_goesDay_209 : decode cX10_goesDay 209 = .ok (.getfield 76, 3) := by decide +kernel
theorem dX10_goesDay_212 : decode cX10_goesDay 212 = .ok (.iload_n 2, 1) := by decide +kernel
theorem dX10_goesDay_213 : decode cX10_goesDay 213 = .ok (.aload_n 0, 1) := by decide +kernel
theorem dX10_goesDay_214 : decode cX10_goesDay 214 = .ok (.getfield 152, 3) := by decide +kernel
theorem dX10_goesDay_217 : decode cX10_goesDay 217 = .ok (.iload_n 2, 1) := by decide +kernel
theorem dX10_goesDay_218 : decode cX10_goesDay 218 = .ok (.iaload, 1) := by decide +kernel
theorem dX10_goesDay_219 : decode cX10_goesDay 219 = .ok (.iastore, 1) := by decide +kernel
theorem dX10_goesDay_220 : decode cX10_goesDay 220 = .ok (.iinc 2 1, 3) := by decide +kernel
theorem dX10_goesDay_223 : decode cX10_goesDay 223 = .ok (.goto (-26), 3) := by decide +kernel
theorem dX10_goesDay_226 : decode cX10_goesDay 226 = .ok (.aload_n 0, 1) := by decide +kernel
theorem dX10_goesDay_227 : decode cX10_goesDay 227 = .ok (.getfield 7, 3) := by decide +kernel
theorem dX10_goesDay_230 : decode cX10_goesDay 230 = .ok (.bipush 6, 2) := by decide +kernel
theorem dX10_goesDay_232 : decode cX10_goesDay 232 = .ok (.dup2, 1) := by decide +kernel
theorem dX10_goesDay_233 : decode cX10_goesDay 233 = .ok (.iaload, 1) := by decide +kernel
theorem dX10_goesDay_234 : decode cX10_goesDay 234 = .ok (.iconst 1, 1) := by decide +kernel
theorem dX10_goesDay_235 : decode cX10_goesDay 235 = .ok (.iadd, 1) := by decide +kernel
theorem dX10_goesDay_236 : decode cX10_goesDay 236 = .ok (.iastore, 1) := by decide +kernel
theorem dX10_goesDay_237 : decode cX10_goesDay 237 = .ok (.return_, 1) := by decide +kernel
theorem ce_X10_goesDay : CeV RX10 yX10_goesDay cX10_goesDay 4 none 1 := ⟨tb_1615, tp_81, tb_11, tb_1616, rfl, by decide, by decide, by decide +kernel⟩
set_option maxHeartbeats 4000000 in
set_option maxRecDepth 20000 in
theorem V_X10_goesDay (l : Launch) (D : va_G) (A : Nat → Prop) (ad : Nat → Nat) (ns : List Nat) (I : MI) (L : ML) (G : MG) (a0 : Int32) (hJ : SGM ns G) (hI : INV I) (hLR : LWR I (a0).toNatClampNeg) (ha0 : 0 ≤ a0.toInt ∧ a0.toInt ≤ 5) : Met l yX10_goesDay (wd yX10_goesDay cX10_goesDay 4 none) ({ frames := 5, cells := 0, slots := 0, locals := 128 }) (va_Pc [.ref (ad (1000)), .int a0] (PM D A ad ns I L G)) (va_Qv (fun u => ∃ I2 L2, u = (ad, ns, I2, L2, G) ∧ INV I2 ∧ Kp [(1009, 1010), (1014, 1015), (1023, 1024), (1045, 1051), (1058, 1059), (1061, 1063), (1064, 1065)] [(1000, 51), (1000, 52), (1000, 53), (1000, 54), (1000, 55), (1000, 56), (1000, 59), (1000, 63), (1000, 65), (1001, 6)] I I2) (BM D A) A) 0 0 A := by
  refine m_ofW (by decide) (Nat.le_of_ble_eq_true rfl) ?_
  intro p e s m below meth c ls args hC hE hM hA hS hl
  obtain ⟨hx, hb, hml, hown, hts, hr, hlocks, hin⟩ := hC
  have km1 : (-1 : Int32).toInt = -1 := by decide
  have k0 : (0 : Int32).toInt = 0 := by decide
  have k1 : (1 : Int32).toInt = 1 := by decide
  have k6 : (6 : Int32).toInt = 6 := by decide
  have k7 : (7 : Int32).toInt = 7 := by decide
  have k8 : (8 : Int32).toInt = 8 := by decide
  have k9 : (9 : Int32).toInt = 9 := by decide
  have k24 : (24 : Int32).toInt = 24 := by decide
  have k1000 : (1000 : Int32).toInt = 1000 := by decide
  have hK : Kp [(1009, 1010), (1014, 1015), (1023, 1024), (1045, 1051), (1058, 1059), (1061, 1063), (1064, 1065)] [(1000, 51), (1000, 52), (1000, 53), (1000, 54), (1000, 55), (1000, 56), (1000, 59), (1000, 63), (1000, 65), (1001, 6)] I I := Kp.rf
  have hl : lv_has ls 4 [(0, .ref (ad (1000))), (1, .int (a0))] := hl
  refine lv_iconst (v := (0)) hx hb dX10_goesDay_0 (by decide) ?_
  refine lv_istore_n (lv' := [(2, .int (0)), (0, .ref (ad (1000))), (1, .int (a0))]) hx hb dX10_goesDay_1 rfl hl (by decide) rfl (fun ls hl => ?_)
  have loop2 : ∀ (n : Nat) (x2_2 : Int32) (Ia2 : MI) (La2 : ML) (H : Heap) (locs : List Loc) (ls : Array Slot), INV Ia2 → Kp [(1009, 1010), (1014, 1015), (1023, 1024), (1045, 1051), (1058, 1059), (1061, 1063), (1064, 1065)] [(1000, 51), (1000, 52), (1000, 53), (1000, 54), (1000, 55), (1000, 56), (1000, 59), (1000, 63), (1000, 65), (1001, 6)] I Ia2 → (0 ≤ x2_2.toInt ∧ x2_2.toInt ≤ 8) → (8 - x2_2.toInt).toNat < n → Mem D A ad ns Ia2 La2 G H → va_S A s.heap H locs → lv_has ls 4 [(2, .int (x2_2)), (0, .ref (ad (1000))), (1, .int (a0))] → W p l e ({ frames := 5, cells := 0, slots := 0, locals := 128 } : Room) s m args below meth c H locs 0 0 (MQ below (va_Qv (fun u => ∃ I2 L2, u = (ad, ns, I2, L2, G) ∧ INV I2 ∧ Kp [(1009, 1010), (1014, 1015), (1023, 1024), (1045, 1051), (1058, 1059), (1061, 1063), (1064, 1065)] [(1000, 51), (1000, 52), (1000, 53), (1000, 54), (1000, 55), (1000, 56), (1000, 59), (1000, 63), (1000, 65), (1001, 6)] I I2) (BM D A) A) args s 0 0 A) (F0 m 2 ls []) := by
    intro n
    induction n with
    | zero =>
      intro x2_2 Ia2 La2 H locs ls hI hK hr2_2 hmu
      exact absurd hmu (Nat.not_lt_zero _)
    | succ n ih2 =>
      intro x2_2 Ia2 La2 H locs ls hI hK hr2_2 hmu2 hM hS hl
      refine lv_iload_n hx hb dX10_goesDay_2 rfl (lv_at hl 0 rfl) ?_
      refine lv_bipush (v := (8)) hx hb dX10_goesDay_3 (by decide) ?_
      refine lv_icmp_ge (tgt := 21) hx hb dX10_goesDay_5 (by decide) (fun c1 => ?_) (fun c1 => ?_)
      · have hc1 := c1
        have q1 := q_le hc1
        refine lv_iconst (v := (0)) hx hb dX10_goesDay_21 (by decide) ?_
        refine lv_istore_n (lv' := [(2, .int (0)), (0, .ref (ad (1000))), (1, .int (a0))]) hx hb dX10_goesDay_22 rfl hl (by decide) rfl (fun ls hl => ?_)
        have loop23 : ∀ (n : Nat) (x2_23 : Int32) (Ia23 : MI) (La23 : ML) (H : Heap) (locs : List Loc) (ls : Array Slot), INV Ia23 → Kp [(1009, 1010), (1014, 1015), (1023, 1024), (1045, 1051), (1058, 1059), (1061, 1063), (1064, 1065)] [(1000, 51), (1000, 52), (1000, 53), (1000, 54), (1000, 55), (1000, 56), (1000, 59), (1000, 63), (1000, 65), (1001, 6)] I Ia23 → (0 ≤ x2_23.toInt ∧ x2_23.toInt ≤ 24) → (24 - x2_23.toInt).toNat < n → Mem D A ad ns Ia23 La23 G H → va_S A s.heap H locs → lv_has ls 4 [(2, .int (x2_23)), (0, .ref (ad (1000))), (1, .int (a0))] → W p l e ({ frames := 5, cells := 0, slots := 0, locals := 128 } : Room) s m args below meth c H locs 0 0 (MQ below (va_Qv (fun u => ∃ I2 L2, u = (ad, ns, I2, L2, G) ∧ INV I2 ∧ Kp [(1009, 1010), (1014, 1015), (1023, 1024), (1045, 1051), (1058, 1059), (1061, 1063), (1064, 1065)] [(1000, 51), (1000, 52), (1000, 53), (1000, 54), (1000, 55), (1000, 56), (1000, 59), (1000, 63), (1000, 65), (1001, 6)] I I2) (BM D A) A) args s 0 0 A) (F0 m 23 ls []) := by
          intro n
          induction n with
          | zero =>
            intro x2_23 Ia23 La23 H locs ls hI hK hr2_23 hmu
            exact absurd hmu (Nat.not_lt_zero _)
          | succ n ih23 =>
            intro x2_23 Ia23 La23 H locs ls hI hK hr2_23 hmu23 hM hS hl
            refine lv_iload_n hx hb dX10_goesDay_23 rfl (lv_at hl 0 rfl) ?_
            refine lv_bipush (v := (24)) hx hb dX10_goesDay_24 (by decide) ?_
            refine lv_icmp_ge (tgt := 130) hx hb dX10_goesDay_26 (by decide) (fun c2 => ?_) (fun c2 => ?_)
            · have hc2 := c2
              have q2 := q_le hc2
              refine lv_iconst (v := (0)) hx hb dX10_goesDay_130 (by decide) ?_
              refine lv_istore_n (lv' := [(2, .int (0)), (0, .ref (ad (1000))), (1, .int (a0))]) hx hb dX10_goesDay_131 rfl hl (by decide) rfl (fun ls hl => ?_)
              have loop132 : ∀ (n : Nat) (x2_132 : Int32) (Ia132 : MI) (La132 : ML) (H : Heap) (locs : List Loc) (ls : Array Slot), INV Ia132 → Kp [(1009, 1010), (1014, 1015), (1023, 1024), (1045, 1051), (1058, 1059), (1061, 1063), (1064, 1065)] [(1000, 51), (1000, 52), (1000, 53), (1000, 54), (1000, 55), (1000, 56), (1000, 59), (1000, 63), (1000, 65), (1001, 6)] I Ia132 → (0 ≤ x2_132.toInt ∧ x2_132.toInt ≤ 24) → (24 - x2_132.toInt).toNat < n → Mem D A ad ns Ia132 La132 G H → va_S A s.heap H locs → lv_has ls 4 [(2, .int (x2_132)), (0, .ref (ad (1000))), (1, .int (a0))] → W p l e ({ frames := 5, cells := 0, slots := 0, locals := 128 } : Room) s m args below meth c H locs 0 0 (MQ below (va_Qv (fun u => ∃ I2 L2, u = (ad, ns, I2, L2, G) ∧ INV I2 ∧ Kp [(1009, 1010), (1014, 1015), (1023, 1024), (1045, 1051), (1058, 1059), (1061, 1063), (1064, 1065)] [(1000, 51), (1000, 52), (1000, 53), (1000, 54), (1000, 55), (1000, 56), (1000, 59), (1000, 63), (1000, 65), (1001, 6)] I I2) (BM D A) A) args s 0 0 A) (F0 m 132 ls []) := by
                intro n
                induction n with
                | zero =>
                  intro x2_132 Ia132 La132 H locs ls hI hK hr2_132 hmu
                  exact absurd hmu (Nat.not_lt_zero _)
                | succ n ih132 =>
                  intro x2_132 Ia132 La132 H locs ls hI hK hr2_132 hmu132 hM hS hl
                  refine lv_iload_n hx hb dX10_goesDay_132 rfl (lv_at hl 0 rfl) ?_
                  refine lv_aload_n hx hb dX10_goesDay_133 rfl (lv_at hl 1 rfl) ?_
                  refine m_getr (1000) 1 (1001) hx hb hts hown hE oc10 hM hJ.1 rfl (by decide) rfl (hJ.2 1 (by decide)).2 (by decide) tb_1178 dX10_goesDay_134 ?_
                  refine lv_bipush (v := (8)) hx hb dX10_goesDay_137 (by decide) ?_
                  refine m_iald (1001) hx hb hE hM (hJ.2 1 (by decide)).1 rfl (vp_in_iff.mpr (by decide)) dX10_goesDay_139 ?_
                  rw [show (8 : Int32).toNatClampNeg = 8 from rfl]
                  have g3 := hI.get (1001) 8 (lo := 0) (hi := 24) rfl
                  refine lv_icmp_ge (tgt := 195) hx hb dX10_goesDay_140 (by decide) (fun c4 => ?_) (fun c4 => ?_)
                  · have hc4 := c4
                    have q4 := q_le hc4
                    refine lv_iconst (v := (0)) hx hb dX10_goesDay_195 (by decide) ?_
                    refine lv_istore_n (lv' := [(2, .int (0)), (0, .ref (ad (1000))), (1, .int (a0))]) hx hb dX10_goesDay_196 rfl hl (by decide) rfl (fun ls hl => ?_)
                    have loop197 : ∀ (n : Nat) (x2_197 : Int32) (Ia197 : MI) (La197 : ML) (H : Heap) (locs : List Loc) (ls : Array Slot), INV Ia197 → Kp [(1009, 1010), (1014, 1015), (1023, 1024), (1045, 1051), (1058, 1059), (1061, 1063), (1064, 1065)] [(1000, 51), (1000, 52), (1000, 53), (1000, 54), (1000, 55), (1000, 56), (1000, 59), (1000, 63), (1000, 65), (1001, 6)] I Ia197 → (0 ≤ x2_197.toInt ∧ x2_197.toInt ≤ 8) → (8 - x2_197.toInt).toNat < n → Mem D A ad ns Ia197 La197 G H → va_S A s.heap H locs → lv_has ls 4 [(2, .int (x2_197)), (0, .ref (ad (1000))), (1, .int (a0))] → W p l e ({ frames := 5, cells := 0, slots := 0, locals := 128 } : Room) s m args below meth c H locs 0 0 (MQ below (va_Qv (fun u => ∃ I2 L2, u = (ad, ns, I2, L2, G) ∧ INV I2 ∧ Kp [(1009, 1010), (1014, 1015), (1023, 1024), (1045, 1051), (1058, 1059), (1061, 1063), (1064, 1065)] [(1000, 51), (1000, 52), (1000, 53), (1000, 54), (1000, 55), (1000, 56), (1000, 59), (1000, 63), (1000, 65), (1001, 6)] I I2) (BM D A) A) args s 0 0 A) (F0 m 197 ls []) := by
                      intro n
                      induction n with
                      | zero =>
                        intro x2_197 Ia197 La197 H locs ls hI hK hr2_197 hmu
                        exact absurd hmu (Nat.not_lt_zero _)
                      | succ n ih197 =>
                        intro x2_197 Ia197 La197 H locs ls hI hK hr2_197 hmu197 hM hS hl
                        refine lv_iload_n hx hb dX10_goesDay_197 rfl (lv_at hl 0 rfl) ?_
                        refine lv_aload_n hx hb dX10_goesDay_198 rfl (lv_at hl 1 rfl) ?_
                        refine m_getr (1000) 1 (1001) hx hb hts hown hE oc10 hM hJ.1 rfl (by decide) rfl (hJ.2 1 (by decide)).2 (by decide) tb_1178 dX10_goesDay_199 ?_
                        refine lv_bipush (v := (9)) hx hb dX10_goesDay_202 (by decide) ?_
                        refine m_iald (1001) hx hb hE hM (hJ.2 1 (by decide)).1 rfl (vp_in_iff.mpr (by decide)) dX10_goesDay_204 ?_
                        rw [show (9 : Int32).toNatClampNeg = 9 from rfl]
                        have g5 := hI.get (1001) 9 (lo := 0) (hi := 8) rfl
                        refine lv_icmp_ge (tgt := 226) hx hb dX10_goesDay_205 (by decide) (fun c6 => ?_) (fun c6 => ?_)
                        · have hc6 := c6
                          have q6 := q_le hc6
                          refine lv_aload_n hx hb dX10_goesDay_226 rfl (lv_at hl 1 rfl) ?_
                          refine m_getr (1000) 1 (1001) hx hb hts hown hE oc10 hM hJ.1 rfl (by decide) rfl (hJ.2 1 (by decide)).2 (by decide) tb_1178 dX10_goesDay_227 ?_
                          refine lv_bipush (v := (6)) hx hb dX10_goesDay_230 (by decide) ?_
                          refine lv_dup2_11 hx hb dX10_goesDay_232 rfl rfl ?_
                          refine m_iald (1001) hx hb hE hM (hJ.2 1 (by decide)).1 rfl (vp_in_iff.mpr (by decide)) dX10_goesDay_233 ?_
                          rw [show (6 : Int32).toNatClampNeg = 6 from rfl]
                          refine lv_iconst (v := (1)) hx hb dX10_goesDay_234 (by decide) ?_
                          refine lv_iadd hx hb dX10_goesDay_235 ?_
                          refine lv_topi (fun v7 ev7 => ?_)
                          refine m_iast (1001) hx hb hE hM hS (hJ.2 1 (by decide)).1 rfl (vp_in_iff.mpr (by decide)) dX10_goesDay_236 (fun H locs I8 eI8 hM hS => ?_)
                          rw [show (6 : Int32).toNatClampNeg = 6 from rfl] at eI8
                          subst eI8
                          have hI := hI.putF (n := 1001) (k := 6) (v := v7) rfl
                          have hK := hK.put (n := 1001) (k := 6) (v := v7) (by first | rfl | simp [inR])
                          exact m_vret hx hb hr hlocks hM hS (Nat.le_of_ble_eq_true rfl) (Nat.le_of_ble_eq_true rfl) ⟨_, _, rfl, hI, hK⟩ dX10_goesDay_237
                        · have hc6 := c6
                          have q6 := q_nle hc6
                          refine lv_aload_n hx hb dX10_goesDay_208 rfl (lv_at hl 1 rfl) ?_
                          refine m_getr (1000) 23 (1023) hx hb hts hown hE oc10 hM hJ.1 rfl (by decide) rfl (hJ.2 23 (by decide)).2 (by decide) tb_1200 dX10_goesDay_209 ?_
                          refine lv_iload_n hx hb dX10_goesDay_212 rfl (lv_at hl 0 rfl) ?_
                          refine lv_aload_n hx hb dX10_goesDay_213 rfl (lv_at hl 1 rfl) ?_
                          refine m_getr (1000) 64 (1064) hx hb hts hown hE oc10 hM hJ.1 rfl (by decide) rfl (hJ.2 64 (by decide)).2 (by decide) tb_1241 dX10_goesDay_214 ?_
                          refine lv_iload_n hx hb dX10_goesDay_217 rfl (lv_at hl 0 rfl) ?_
                          refine m_iald (1064) hx hb hE hM (hJ.2 64 (by decide)).1 rfl (vp_in_iff.mpr (by omega)) dX10_goesDay_218 ?_
                          refine m_iast (1023) hx hb hE hM hS (hJ.2 23 (by decide)).1 rfl (vp_in_iff.mpr (by omega)) dX10_goesDay_219 (fun H locs I9 eI9 hM hS => ?_)
                          subst eI9
                          have hI := hI.putF (n := 1023) (k := ((x2_197).toNatClampNeg)) (v := Ia197 (1064) (x2_197).toNatClampNeg) rfl
                          have hK := hK.put (n := 1023) (k := ((x2_197).toNatClampNeg)) (v := Ia197 (1064) (x2_197).toNatClampNeg) (by first | rfl | simp [inR])
                          obtain ⟨v10, ev10⟩ : ∃ z : Int32, z = x2_197 + Int32.ofInt (1) := ⟨_, rfl⟩
                          have tv10 := a_inc ev10 (by decide) (by omega) (by omega)
                          refine lv_iinc (v := v10) (lv' := [(2, .int (v10)), (0, .ref (ad (1000))), (1, .int (a0))]) hx hb dX10_goesDay_220 hl (k := 0) rfl ev10.symm (by decide) rfl (fun ls hl => ?_)
                          refine lv_goto (tgt := 197) hx hb dX10_goesDay_223 (by decide) ?_
                          exact ih197 (v10) (u2 Ia197 (1023) ((x2_197).toNatClampNeg) (Ia197 (1064) (x2_197).toNatClampNeg)) La197 _ _ ls hI hK (by first | omega | decide) (by omega) hM hS (lv_sub hl [0, 1, 2] rfl)
                    exact loop197 (_ + 1) (0) Ia132 La132 _ _ ls hI hK (by first | omega | decide) (Nat.lt_succ_self _) hM hS (lv_sub hl [0, 1, 2] rfl)
                  · have hc4 := c4
                    have q4 := q_nle hc4
                    refine lv_aload_n hx hb dX10_goesDay_143 rfl (lv_at hl 1 rfl) ?_
                    refine m_getr (1000) 14 (1014) hx hb hts hown hE oc10 hM hJ.1 rfl (by decide) rfl (hJ.2 14 (by decide)).2 (by decide) tb_1191 dX10_goesDay_144 ?_
                    refine lv_iload_n hx hb dX10_goesDay_147 rfl (lv_at hl 0 rfl) ?_
                    refine lv_aload_n hx hb dX10_goesDay_148 rfl (lv_at hl 1 rfl) ?_
                    refine m_getr (1000) 14 (1014) hx hb hts hown hE oc10 hM hJ.1 rfl (by decide) rfl (hJ.2 14 (by decide)).2 (by decide) tb_1191 dX10_goesDay_149 ?_
                    refine lv_iload_n hx hb dX10_goesDay_152 rfl (lv_at hl 0 rfl) ?_
                    refine m_iald (1014) hx hb hE hM (hJ.2 14 (by decide)).1 rfl (vp_in_iff.mpr (by omega)) dX10_goesDay_153 ?_
                    refine lv_aload_n hx hb dX10_goesDay_154 rfl (lv_at hl 1 rfl) ?_
                    refine m_getr (1000) 1 (1001) hx hb hts hown hE oc10 hM hJ.1 rfl (by decide) rfl (hJ.2 1 (by decide)).2 (by decide) tb_1178 dX10_goesDay_155 ?_
                    refine lv_bipush (v := (7)) hx hb dX10_goesDay_158 (by decide) ?_
                    refine m_iald (1001) hx hb hE hM (hJ.2 1 (by decide)).1 rfl (vp_in_iff.mpr (by decide)) dX10_goesDay_160 ?_
                    rw [show (7 : Int32).toNatClampNeg = 7 from rfl]
                    refine lv_iadd hx hb dX10_goesDay_161 ?_
                    refine lv_topi (fun v11 ev11 => ?_)
                    refine lv_sipush (v := (1000)) hx hb dX10_goesDay_162 (by decide) ?_
                    refine lv_icmp_le (tgt := 174) hx hb dX10_goesDay_165 (by decide) (fun c12 => ?_) (fun c12 => ?_)
                    · have hc12 := c12
                      have q12 := q_le hc12
                      refine lv_aload_n hx hb dX10_goesDay_174 rfl (lv_at hl 1 rfl) ?_
                      refine m_getr (1000) 14 (1014) hx hb hts hown hE oc10 hM hJ.1 rfl (by decide) rfl (hJ.2 14 (by decide)).2 (by decide) tb_1191 dX10_goesDay_175 ?_
                      refine lv_iload_n hx hb dX10_goesDay_178 rfl (lv_at hl 0 rfl) ?_
                      refine m_iald (1014) hx hb hE hM (hJ.2 14 (by decide)).1 rfl (vp_in_iff.mpr (by omega)) dX10_goesDay_179 ?_
                      refine lv_aload_n hx hb dX10_goesDay_180 rfl (lv_at hl 1 rfl) ?_
                      refine m_getr (1000) 1 (1001) hx hb hts hown hE oc10 hM hJ.1 rfl (by decide) rfl (hJ.2 1 (by decide)).2 (by decide) tb_1178 dX10_goesDay_181 ?_
                      refine lv_bipush (v := (7)) hx hb dX10_goesDay_184 (by decide) ?_
                      refine m_iald (1001) hx hb hE hM (hJ.2 1 (by decide)).1 rfl (vp_in_iff.mpr (by decide)) dX10_goesDay_186 ?_
                      rw [show (7 : Int32).toNatClampNeg = 7 from rfl]
                      refine lv_iadd hx hb dX10_goesDay_187 ?_
                      refine lv_topi (fun v13 ev13 => ?_)
                      refine m_iast (1014) hx hb hE hM hS (hJ.2 14 (by decide)).1 rfl (vp_in_iff.mpr (by omega)) dX10_goesDay_188 (fun H locs I14 eI14 hM hS => ?_)
                      subst eI14
                      have hI := hI.putF (n := 1014) (k := ((x2_132).toNatClampNeg)) (v := v13) rfl
                      have hK := hK.put (n := 1014) (k := ((x2_132).toNatClampNeg)) (v := v13) (by first | rfl | simp [inR])
                      obtain ⟨v15, ev15⟩ : ∃ z : Int32, z = x2_132 + Int32.ofInt (1) := ⟨_, rfl⟩
                      have tv15 := a_inc ev15 (by decide) (by omega) (by omega)
                      refine lv_iinc (v := v15) (lv' := [(2, .int (v15)), (0, .ref (ad (1000))), (1, .int (a0))]) hx hb dX10_goesDay_189 hl (k := 0) rfl ev15.symm (by decide) rfl (fun ls hl => ?_)
                      refine lv_goto (tgt := 132) hx hb dX10_goesDay_192 (by decide) ?_
                      exact ih132 (v15) (u2 Ia132 (1014) ((x2_132).toNatClampNeg) (v13)) La132 _ _ ls hI hK (by first | omega | decide) (by omega) hM hS (lv_sub hl [0, 1, 2] rfl)
                    · have hc12 := c12
                      have q12 := q_nle hc12
                      refine lv_sipush (v := (1000)) hx hb dX10_goesDay_168 (by decide) ?_
                      refine lv_goto (tgt := 188) hx hb dX10_goesDay_171 (by decide) ?_
                      refine m_iast (1014) hx hb hE hM hS (hJ.2 14 (by decide)).1 rfl (vp_in_iff.mpr (by omega)) dX10_goesDay_188 (fun H locs I16 eI16 hM hS => ?_)
                      subst eI16
                      have hI := hI.putF (n := 1014) (k := ((x2_132).toNatClampNeg)) (v := 1000) rfl
                      have hK := hK.put (n := 1014) (k := ((x2_132).toNatClampNeg)) (v := 1000) (by first | rfl | simp [inR])
                      obtain ⟨v17, ev17⟩ : ∃ z : Int32, z = x2_132 + Int32.ofInt (1) := ⟨_, rfl⟩
                      have tv17 := a_inc ev17 (by decide) (by omega) (by omega)
                      refine lv_iinc (v := v17) (lv' := [(2, .int (v17)), (0, .ref (ad (1000))), (1, .int (a0))]) hx hb dX10_goesDay_189 hl (k := 0) rfl ev17.symm (by decide) rfl (fun ls hl => ?_)
                      refine lv_goto (tgt := 132) hx hb dX10_goesDay_192 (by decide) ?_
                      exact ih132 (v17) (u2 Ia132 (1014) ((x2_132).toNatClampNeg) (1000)) La132 _ _ ls hI hK (by first | omega | decide) (by omega) hM hS (lv_sub hl [0, 1, 2] rfl)
              exact loop132 (_ + 1) (0) Ia23 La23 _ _ ls hI hK (by first | omega | decide) (Nat.lt_succ_self _) hM hS (lv_sub hl [0, 1, 2] rfl)
            · have hc2 := c2
              have q2 := q_nle hc2
              refine lv_iconst (v := (0)) hx hb dX10_goesDay_29 (by decide) ?_
              refine lv_istore_n (lv' := [(3, .int (0)), (2, .int (x2_23)), (0, .ref (ad (1000))), (1, .int (a0))]) hx hb dX10_goesDay_30 rfl hl (by decide) rfl (fun ls hl => ?_)
              have loop31 : ∀ (n : Nat) (x3_31 : Int32) (Ia31 : MI) (La31 : ML) (H : Heap) (locs : List Loc) (ls : Array Slot), INV Ia31 → Kp [(1009, 1010), (1014, 1015), (1023, 1024), (1045, 1051), (1058, 1059), (1061, 1063), (1064, 1065)] [(1000, 51), (1000, 52), (1000, 53), (1000, 54), (1000, 55), (1000, 56), (1000, 59), (1000, 63), (1000, 65), (1001, 6)] I Ia31 → (0 ≤ x3_31.toInt ∧ x3_31.toInt ≤ 24) → (24 - x3_31.toInt).toNat < n → Mem D A ad ns Ia31 La31 G H → va_S A s.heap H locs → lv_has ls 4 [(3, .int (x3_31)), (2, .int (x2_23)), (0, .ref (ad (1000))), (1, .int (a0))] → W p l e ({ frames := 5, cells := 0, slots := 0, locals := 128 } : Room) s m args below meth c H locs 0 0 (MQ below (va_Qv (fun u => ∃ I2 L2, u = (ad, ns, I2, L2, G) ∧ INV I2 ∧ Kp [(1009, 1010), (1014, 1015), (1023, 1024), (1045, 1051), (1058, 1059), (1061, 1063), (1064, 1065)] [(1000, 51), (1000, 52), (1000, 53), (1000, 54), (1000, 55), (1000, 56), (1000, 59), (1000, 63), (1000, 65), (1001, 6)] I I2) (BM D A) A) args s 0 0 A) (F0 m 31 ls []) := by
                intro n
                induction n with
                | zero =>
                  intro x3_31 Ia31 La31 H locs ls hI hK hr3_31 hmu
                  exact absurd hmu (Nat.not_lt_zero _)
                | succ n ih31 =>
                  intro x3_31 Ia31 La31 H locs ls hI hK hr3_31 hmu31 hM hS hl
                  refine lv_iload_n hx hb dX10_goesDay_31 rfl (lv_at hl 0 rfl) ?_
                  refine lv_aload_n hx hb dX10_goesDay_32 rfl (lv_at hl 2 rfl) ?_
                  refine m_getr (1000) 1 (1001) hx hb hts hown hE oc10 hM hJ.1 rfl (by decide) rfl (hJ.2 1 (by decide)).2 (by decide) tb_1178 dX10_goesDay_33 ?_
                  refine lv_bipush (v := (8)) hx hb dX10_goesDay_36 (by decide) ?_
                  refine m_iald (1001) hx hb hE hM (hJ.2 1 (by decide)).1 rfl (vp_in_iff.mpr (by decide)) dX10_goesDay_38 ?_
                  rw [show (8 : Int32).toNatClampNeg = 8 from rfl]
                  have g18 := hI.get (1001) 8 (lo := 0) (hi := 24) rfl
                  refine lv_icmp_ge (tgt := 55) hx hb dX10_goesDay_39 (by decide) (fun c19 => ?_) (fun c19 => ?_)
                  · have hc19 := c19
                    have q19 := q_le hc19
                    refine lv_aload_n hx hb dX10_goesDay_55 rfl (lv_at hl 2 rfl) ?_
                    refine lv_iload_n hx hb dX10_goesDay_56 rfl (lv_at hl 1 rfl) ?_
                    refine m_calli (m_runV (1000) (As := [.int (x2_23)]) (rest := []) hx hb hml hown hts hE hM hS hA ce_X10_sunOf tb_1625 (V_X10_sunOf l D A ad ns Ia31 La31 G (x2_23) hJ hI (by first | omega | decide)) rfl rfl ⟨Nat.le_of_ble_eq_true rfl, Nat.le_of_ble_eq_true rfl⟩ hJ.1 rfl rfl (by decide) rfl hl.1 rfl (Nat.le_of_ble_eq_true rfl) dX10_goesDay_57 ⟨Nat.le_of_ble_eq_true rfl, Nat.le_of_ble_eq_true rfl⟩) hS (fun r20 u H locs hw hM hS => ?_)
                    obtain ⟨rfl, xr20⟩ := hw
                    have hM : Mem D A ad ns Ia31 La31 G H := hM
                    refine lv_iconst (v := (-1)) hx hb dX10_goesDay_60 (by decide) ?_
                    refine lv_icmp_eq (tgt := 124) hx hb dX10_goesDay_61 (by decide) (fun c21 => ?_) (fun c21 => ?_)
                    · have hc21 := c21
                      have q21 := q_eq hc21
                      obtain ⟨v22, ev22⟩ : ∃ z : Int32, z = x2_23 + Int32.ofInt (1) := ⟨_, rfl⟩
                      have tv22 := a_inc ev22 (by decide) (by omega) (by omega)
                      refine lv_iinc (v := v22) (lv' := [(2, .int (v22)), (3, .int (x3_31)), (0, .ref (ad (1000))), (1, .int (a0))]) hx hb dX10_goesDay_124 hl (k := 1) rfl ev22.symm (by decide) rfl (fun ls hl => ?_)
                      refine lv_goto (tgt := 23) hx hb dX10_goesDay_127 (by decide) ?_
                      exact ih23 (v22) Ia31 La31 _ _ ls hI hK (by first | omega | decide) (by omega) hM hS (lv_sub hl [0, 2, 3] rfl)
                    · have hc21 := c21
                      have q21 := q_ne hc21
                      refine lv_aload_n hx hb dX10_goesDay_64 rfl (lv_at hl 2 rfl) ?_
                      refine lv_iload_n hx hb dX10_goesDay_65 rfl (lv_at hl 1 rfl) ?_
                      refine m_callv (m_runV (1000) (As := [.int (x2_23)]) (rest := []) hx hb hml hown hts hE hM hS hA ce_X10_shines tb_1640 (V_X10_shines l D A ad ns Ia31 La31 G (x2_23) hJ hI (by first | omega | decide)) rfl rfl ⟨Nat.le_of_ble_eq_true rfl, Nat.le_of_ble_eq_true rfl⟩ hJ.1 rfl rfl (by decide) rfl hl.1 rfl (Nat.le_of_ble_eq_true rfl) dX10_goesDay_66 ⟨Nat.le_of_ble_eq_true rfl, Nat.le_of_ble_eq_true rfl⟩) hS (fun u H locs hw hM hS => ?_)
                      obtain ⟨I23, L24, rfl, hI, hkI23⟩ := hw
                      have hM : Mem D A ad ns I23 L24 G H := hM
                      have hK := hK.trans hkI23 rfl
                      refine lv_iconst (v := (0)) hx hb dX10_goesDay_69 (by decide) ?_
                      refine lv_istore_n (lv' := [(3, .int (0)), (2, .int (x2_23)), (0, .ref (ad (1000))), (1, .int (a0))]) hx hb dX10_goesDay_70 rfl hl (by decide) rfl (fun ls hl => ?_)
                      have loop71 : ∀ (n : Nat) (x3_71 : Int32) (Ia71 : MI) (La71 : ML) (H : Heap) (locs : List Loc) (ls : Array Slot), INV Ia71 → Kp [(1009, 1010), (1014, 1015), (1023, 1024), (1045, 1051), (1058, 1059), (1061, 1063), (1064, 1065)] [(1000, 51), (1000, 52), (1000, 53), (1000, 54), (1000, 55), (1000, 56), (1000, 59), (1000, 63), (1000, 65), (1001, 6)] I Ia71 → (0 ≤ x3_71.toInt ∧ x3_71.toInt ≤ 8) → (8 - x3_71.toInt).toNat < n → Mem D A ad ns Ia71 La71 G H → va_S A s.heap H locs → lv_has ls 4 [(3, .int (x3_71)), (2, .int (x2_23)), (0, .ref (ad (1000))), (1, .int (a0))] → W p l e ({ frames := 5, cells := 0, slots := 0, locals := 128 } : Room) s m args below meth c H locs 0 0 (MQ below (va_Qv (fun u => ∃ I2 L2, u = (ad, ns, I2, L2, G) ∧ INV I2 ∧ Kp [(1009, 1010), (1014, 1015), (1023, 1024), (1045, 1051), (1058, 1059), (1061, 1063), (1064, 1065)] [(1000, 51), (1000, 52), (1000, 53), (1000, 54), (1000, 55), (1000, 56), (1000, 59), (1000, 63), (1000, 65), (1001, 6)] I I2) (BM D A) A) args s 0 0 A) (F0 m 71 ls []) := by
                        intro n
                        induction n with
                        | zero =>
                          intro x3_71 Ia71 La71 H locs ls hI hK hr3_71 hmu
                          exact absurd hmu (Nat.not_lt_zero _)
                        | succ n ih71 =>
                          intro x3_71 Ia71 La71 H locs ls hI hK hr3_71 hmu71 hM hS hl
                          refine lv_iload_n hx hb dX10_goesDay_71 rfl (lv_at hl 0 rfl) ?_
                          refine lv_aload_n hx hb dX10_goesDay_72 rfl (lv_at hl 2 rfl) ?_
                          refine m_getr (1000) 1 (1001) hx hb hts hown hE oc10 hM hJ.1 rfl (by decide) rfl (hJ.2 1 (by decide)).2 (by decide) tb_1178 dX10_goesDay_73 ?_
                          refine lv_bipush (v := (9)) hx hb dX10_goesDay_76 (by decide) ?_
                          refine m_iald (1001) hx hb hE hM (hJ.2 1 (by decide)).1 rfl (vp_in_iff.mpr (by decide)) dX10_goesDay_78 ?_
                          rw [show (9 : Int32).toNatClampNeg = 9 from rfl]
                          have g25 := hI.get (1001) 9 (lo := 0) (hi := 8) rfl
                          refine lv_icmp_ge (tgt := 103) hx hb dX10_goesDay_79 (by decide) (fun c26 => ?_) (fun c26 => ?_)
                          · have hc26 := c26
                            have q26 := q_le hc26
                            refine lv_aload_n hx hb dX10_goesDay_103 rfl (lv_at hl 2 rfl) ?_
                            refine lv_dup hx hb dX10_goesDay_104 rfl ?_
                            refine m_geti (1000) 65 hx hb hts hown hE oc10 hM hJ.1 rfl (by decide) rfl tb_1242 dX10_goesDay_105 ?_
                            refine lv_aload_n hx hb dX10_goesDay_108 rfl (lv_at hl 2 rfl) ?_
                            refine m_calli (m_runV (1000) (As := []) (rest := [.int (Ia71 (1000) 65), .ref (ad (1000))]) hx hb hml hown hts hE hM hS hA ce_X10_blindCells tb_1670 (V_X10_blindCells l D A ad ns Ia71 La71 G hJ hI) rfl rfl ⟨Nat.le_of_ble_eq_true rfl, Nat.le_of_ble_eq_true rfl⟩ hJ.1 rfl rfl (by decide) rfl hl.1 rfl (Nat.le_of_ble_eq_true rfl) dX10_goesDay_109 ⟨Nat.le_of_ble_eq_true rfl, Nat.le_of_ble_eq_true rfl⟩) hS (fun r27 u H locs hw hM hS => ?_)
                            obtain ⟨rfl, xr27⟩ := hw
                            have hM : Mem D A ad ns Ia71 La71 G H := hM
                            refine lv_if_le (tgt := 119) hx hb dX10_goesDay_112 (by decide) (fun c28 => ?_) (fun c28 => ?_)
                            · have hc28 := c28
                              have q28 := q_le hc28
                              refine lv_iconst (v := (0)) hx hb dX10_goesDay_119 (by decide) ?_
                              refine lv_iadd hx hb dX10_goesDay_120 ?_
                              refine lv_topi (fun v29 ev29 => ?_)
                              refine m_puti (1000) 65 hx hb hts hown hE oc10 hM hS hJ.1 rfl (by decide) rfl rfl rfl rfl tb_1242 dX10_goesDay_121 (fun H locs I30 eI30 hM hS => ?_)
                              subst eI30
                              have hI := hI.putF (n := 1000) (k := 65) (v := v29) rfl
                              have hK := hK.put (n := 1000) (k := 65) (v := v29) (by first | rfl | simp [inR])
                              obtain ⟨v31, ev31⟩ : ∃ z : Int32, z = x2_23 + Int32.ofInt (1) := ⟨_, rfl⟩
                              have tv31 := a_inc ev31 (by decide) (by omega) (by omega)
                              refine lv_iinc (v := v31) (lv' := [(2, .int (v31)), (3, .int (x3_71)), (0, .ref (ad (1000))), (1, .int (a0))]) hx hb dX10_goesDay_124 hl (k := 1) rfl ev31.symm (by decide) rfl (fun ls hl => ?_)
                              refine lv_goto (tgt := 23) hx hb dX10_goesDay_127 (by decide) ?_
                              exact ih23 (v31) (u2 Ia71 (1000) 65 (v29)) La71 _ _ ls hI hK (by first | omega | decide) (by omega) hM hS (lv_sub hl [0, 2, 3] rfl)
                            · have hc28 := c28
                              have q28 := q_nle hc28
                              refine lv_iconst (v := (1)) hx hb dX10_goesDay_115 (by decide) ?_
                              refine lv_goto (tgt := 120) hx hb dX10_goesDay_116 (by decide) ?_
                              refine lv_iadd hx hb dX10_goesDay_120 ?_
                              refine lv_topi (fun v32 ev32 => ?_)
                              refine m_puti (1000) 65 hx hb hts hown hE oc10 hM hS hJ.1 rfl (by decide) rfl rfl rfl rfl tb_1242 dX10_goesDay_121 (fun H locs I33 eI33 hM hS => ?_)
                              subst eI33
                              have hI := hI.putF (n := 1000) (k := 65) (v := v32) rfl
                              have hK := hK.put (n := 1000) (k := 65) (v := v32) (by first | rfl | simp [inR])
                              obtain ⟨v34, ev34⟩ : ∃ z : Int32, z = x2_23 + Int32.ofInt (1) := ⟨_, rfl⟩
                              have tv34 := a_inc ev34 (by decide) (by omega) (by omega)
                              refine lv_iinc (v := v34) (lv' := [(2, .int (v34)), (3, .int (x3_71)), (0, .ref (ad (1000))), (1, .int (a0))]) hx hb dX10_goesDay_124 hl (k := 1) rfl ev34.symm (by decide) rfl (fun ls hl => ?_)
                              refine lv_goto (tgt := 23) hx hb dX10_goesDay_127 (by decide) ?_
                              exact ih23 (v34) (u2 Ia71 (1000) 65 (v32)) La71 _ _ ls hI hK (by first | omega | decide) (by omega) hM hS (lv_sub hl [0, 2, 3] rfl)
                          · have hc26 := c26
                            have q26 := q_nle hc26
                            refine lv_aload_n hx hb dX10_goesDay_82 rfl (lv_at hl 2 rfl) ?_
                            refine m_getr (1000) 64 (1064) hx hb hts hown hE oc10 hM hJ.1 rfl (by decide) rfl (hJ.2 64 (by decide)).2 (by decide) tb_1241 dX10_goesDay_83 ?_
                            refine lv_iload_n hx hb dX10_goesDay_86 rfl (lv_at hl 0 rfl) ?_
                            refine lv_dup2_11 hx hb dX10_goesDay_87 rfl rfl ?_
                            refine m_iald (1064) hx hb hE hM (hJ.2 64 (by decide)).1 rfl (vp_in_iff.mpr (by omega)) dX10_goesDay_88 ?_
                            refine lv_aload_n hx hb dX10_goesDay_89 rfl (lv_at hl 2 rfl) ?_
                            refine m_getr (1000) 50 (1050) hx hb hts hown hE oc10 hM hJ.1 rfl (by decide) rfl (hJ.2 50 (by decide)).2 (by decide) tb_1227 dX10_goesDay_90 ?_
                            refine lv_iload_n hx hb dX10_goesDay_93 rfl (lv_at hl 0 rfl) ?_
                            refine m_iald (1050) hx hb hE hM (hJ.2 50 (by decide)).1 rfl (vp_in_iff.mpr (by omega)) dX10_goesDay_94 ?_
                            refine lv_iadd hx hb dX10_goesDay_95 ?_
                            refine lv_topi (fun v35 ev35 => ?_)
                            refine m_iast (1064) hx hb hE hM hS (hJ.2 64 (by decide)).1 rfl (vp_in_iff.mpr (by omega)) dX10_goesDay_96 (fun H locs I36 eI36 hM hS => ?_)
                            subst eI36
                            have hI := hI.putF (n := 1064) (k := ((x3_71).toNatClampNeg)) (v := v35) rfl
                            have hK := hK.put (n := 1064) (k := ((x3_71).toNatClampNeg)) (v := v35) (by first | rfl | simp [inR])
                            obtain ⟨v37, ev37⟩ : ∃ z : Int32, z = x3_71 + Int32.ofInt (1) := ⟨_, rfl⟩
                            have tv37 := a_inc ev37 (by decide) (by omega) (by omega)
                            refine lv_iinc (v := v37) (lv' := [(3, .int (v37)), (2, .int (x2_23)), (0, .ref (ad (1000))), (1, .int (a0))]) hx hb dX10_goesDay_97 hl (k := 0) rfl ev37.symm (by decide) rfl (fun ls hl => ?_)
                            refine lv_goto (tgt := 71) hx hb dX10_goesDay_100 (by decide) ?_
                            exact ih71 (v37) (u2 Ia71 (1064) ((x3_71).toNatClampNeg) (v35)) La71 _ _ ls hI hK (by first | omega | decide) (by omega) hM hS (lv_sub hl [0, 1, 2, 3] rfl)
                      exact loop71 (_ + 1) (0) I23 L24 _ _ ls hI hK (by first | omega | decide) (Nat.lt_succ_self _) hM hS (lv_sub hl [0, 1, 2, 3] rfl)
                  · have hc19 := c19
                    have q19 := q_nle hc19
                    refine lv_aload_n hx hb dX10_goesDay_42 rfl (lv_at hl 2 rfl) ?_
                    refine lv_iload_n hx hb dX10_goesDay_43 rfl (lv_at hl 3 rfl) ?_
                    refine lv_iload_n hx hb dX10_goesDay_44 rfl (lv_at hl 1 rfl) ?_
                    refine lv_iload_n hx hb dX10_goesDay_45 rfl (lv_at hl 0 rfl) ?_
                    refine m_callv (m_runV (1000) (As := [.int (a0), .int (x2_23), .int (x3_31)]) (rest := []) hx hb hml hown hts hE hM hS hA ce_X10_turns tb_1617 (V_X10_turns l D A ad ns Ia31 La31 G (a0) (x2_23) (x3_31) hJ hI (hLR.kp hK rfl) (by first | omega | decide) (by first | omega | decide) (by first | omega | decide)) rfl rfl ⟨Nat.le_of_ble_eq_true rfl, Nat.le_of_ble_eq_true rfl⟩ hJ.1 rfl rfl (by decide) rfl hl.1 rfl (Nat.le_of_ble_eq_true rfl) dX10_goesDay_46 ⟨Nat.le_of_ble_eq_true rfl, Nat.le_of_ble_eq_true rfl⟩) hS (fun u H locs hw hM hS => ?_)
                    obtain ⟨I38, L39, rfl, hI, hkI38⟩ := hw
                    have hM : Mem D A ad ns I38 L39 G H := hM
                    have hK := hK.trans hkI38 rfl
                    obtain ⟨v40, ev40⟩ : ∃ z : Int32, z = x3_31 + Int32.ofInt (1) := ⟨_, rfl⟩
                    have tv40 := a_inc ev40 (by decide) (by omega) (by omega)
                    refine lv_iinc (v := v40) (lv' := [(3, .int (v40)), (2, .int (x2_23)), (0, .ref (ad (1000))), (1, .int (a0))]) hx hb dX10_goesDay_49 hl (k := 0) rfl ev40.symm (by decide) rfl (fun ls hl => ?_)
                    refine lv_goto (tgt := 31) hx hb dX10_goesDay_52 (by decide) ?_
                    exact ih31 (v40) I38 L39 _ _ ls hI hK (by first | omega | decide) (by omega) hM hS (lv_sub hl [0, 1, 2, 3] rfl)
              exact loop31 (_ + 1) (0) Ia23 La23 _ _ ls hI hK (by first | omega | decide) (Nat.lt_succ_self _) hM hS (lv_sub hl [0, 1, 2, 3] rfl)
        exact loop23 (_ + 1) (0) Ia2 La2 _ _ ls hI hK (by first | omega | decide) (Nat.lt_succ_self _) hM hS (lv_sub hl [0, 1, 2] rfl)
      · have hc1 := c1
        have q1 := q_nle hc1
        refine lv_aload_n hx hb dX10_goesDay_8 rfl (lv_at hl 1 rfl) ?_
        refine m_getr (1000) 64 (1064) hx hb hts hown hE oc10 hM hJ.1 rfl (by decide) rfl (hJ.2 64 (by decide)).2 (by decide) tb_1241 dX10_goesDay_9 ?_
        refine lv_iload_n hx hb dX10_goesDay_12 rfl (lv_at hl 0 rfl) ?_
        refine lv_iconst (v := (0)) hx hb dX10_goesDay_13 (by decide) ?_
        refine m_iast (1064) hx hb hE hM hS (hJ.2 64 (by decide)).1 rfl (vp_in_iff.mpr (by omega)) dX10_goesDay_14 (fun H locs I41 eI41 hM hS => ?_)
        subst eI41
        have hI := hI.putF (n := 1064) (k := ((x2_2).toNatClampNeg)) (v := 0) rfl
        have hK := hK.put (n := 1064) (k := ((x2_2).toNatClampNeg)) (v := 0) (by first | rfl | simp [inR])
        obtain ⟨v42, ev42⟩ : ∃ z : Int32, z = x2_2 + Int32.ofInt (1) := ⟨_, rfl⟩
        have tv42 := a_inc ev42 (by decide) (by omega) (by omega)
        refine lv_iinc (v := v42) (lv' := [(2, .int (v42)), (0, .ref (ad (1000))), (1, .int (a0))]) hx hb dX10_goesDay_15 hl (k := 0) rfl ev42.symm (by decide) rfl (fun ls hl => ?_)
        refine lv_goto (tgt := 2) hx hb dX10_goesDay_18 (by decide) ?_
        exact ih2 (v42) (u2 Ia2 (1064) ((x2_2).toNatClampNeg) (0)) La2 _ _ ls hI hK (by first | omega | decide) (by omega) hM hS (lv_sub hl [0, 1, 2] rfl)
  exact loop2 (_ + 1) (0) I L _ _ ls hI hK (by first | omega | decide) (Nat.lt_succ_self _) hM hS (lv_sub hl [0, 1, 2] rfl)
set_option maxHeartbeats 4000000 in
set_option maxRecDepth 20000 in
theorem V_X10_keeps_m (l : Launch) (D : va_G) (A : Nat → Prop) (ad : Nat → Nat) (ns : List Nat) (I : MI) (L : ML) (G : MG) (hJ : SGM ns G) (hI : INV I) : Met l yX10_keeps (wd yX10_keeps cX10_keeps 1 none) ({ frames := 1, cells := 0, slots := 0, locals := 22 }) (va_Pc [.ref (ad (1000))] (PM D A ad ns I L G)) (va_Qv (fun u => ∃ I2 L2, u = (ad, ns, I2, L2, G) ∧ INV I2 ∧ Kp [(1067, 1068), (1069, 1071)] [(1000, 74), (1000, 75)] I I2 ∧ (I2 1000 75 = I 1001 5)) (BM D A) A) 0 0 A := by
  refine m_ofW (by decide) (Nat.le_of_ble_eq_true rfl) ?_
  intro p e s m below meth c ls args hC hE hM hA hS hl
  obtain ⟨hx, hb, hml, hown, hts, hr, hlocks, hin⟩ := hC
  have k0 : (0 : Int32).toInt = 0 := by decide
  have k5 : (5 : Int32).toInt = 5 := by decide
  have k6 : (6 : Int32).toInt = 6 := by decide
  have hK : Kp [(1067, 1068), (1069, 1071)] [(1000, 74), (1000, 75)] I I := Kp.rf
  have hl : lv_has ls 1 [(0, .ref (ad (1000)))] := hl
  refine lv_aload_n hx hb dX10_keeps_0 rfl (lv_at hl 0 rfl) ?_
  refine m_getr (1000) 9 (1009) hx hb hts hown hE oc10 hM hJ.1 rfl (by decide) rfl (hJ.2 9 (by decide)).2 (by decide) tb_1186 dX10_keeps_1 ?_
  refine lv_aload_n hx hb dX10_keeps_4 rfl (lv_at hl 0 rfl) ?_
  refine m_getr (1000) 67 (1067) hx hb hts hown hE oc10 hM hJ.1 rfl (by decide) rfl (hJ.2 67 (by decide)).2 (by decide) tb_1244 dX10_keeps_5 ?_
  refine m_callv (m_runS (As := [.ref (ad (1009)), .ref (ad (1067))]) (rest := []) hx hb hml hown hts hE hM hS hA ce_X10_copy tb_1723 (V_X10_copy_1009_1067 l D A ad ns I L G hJ hI) rfl rfl ⟨Nat.le_of_ble_eq_true rfl, Nat.le_of_ble_eq_true rfl⟩  rfl hl.1 rfl (Nat.le_of_ble_eq_true rfl) dX10_keeps_8 ⟨Nat.le_of_ble_eq_true rfl, Nat.le_of_ble_eq_true rfl⟩) hS (fun u H locs hw hM hS => ?_)
  obtain ⟨I1, L2, rfl, hI, hkI1⟩ := hw
  have hM : Mem D A ad ns I1 L2 G H := hM
  have hK := hK.trans hkI1 rfl
  refine lv_aload_n hx hb dX10_keeps_11 rfl (lv_at hl 0 rfl) ?_
  refine m_getr (1000) 14 (1014) hx hb hts hown hE oc10 hM hJ.1 rfl (by decide) rfl (hJ.2 14 (by decide)).2 (by decide) tb_1191 dX10_keeps_12 ?_
  refine lv_aload_n hx hb dX10_keeps_15 rfl (lv_at hl 0 rfl) ?_
  refine m_getr (1000) 69 (1069) hx hb hts hown hE oc10 hM hJ.1 rfl (by decide) rfl (hJ.2 69 (by decide)).2 (by decide) tb_1246 dX10_keeps_16 ?_
  have pw3 : (I1 (1000) 24).toInt = (I (1000) 24 : Int32).toInt := congrArg Int32.toInt ((hkI1.get (1000) 24 rfl))
  have pw4 : (I1 (1000) 25).toInt = (I (1000) 25 : Int32).toInt := congrArg Int32.toInt ((hkI1.get (1000) 25 rfl))
  have pw5 : (I1 (1000) 26).toInt = (I (1000) 26 : Int32).toInt := congrArg Int32.toInt ((hkI1.get (1000) 26 rfl))
  have pw6 : (I1 (1000) 27).toInt = (I (1000) 27 : Int32).toInt := congrArg Int32.toInt ((hkI1.get (1000) 27 rfl))
  have pw7 : (I1 (1000) 29).toInt = (I (1000) 29 : Int32).toInt := congrArg Int32.toInt ((hkI1.get (1000) 29 rfl))
  have pw8 : (I1 (1000) 31).toInt = (I (1000) 31 : Int32).toInt := congrArg Int32.toInt ((hkI1.get (1000) 31 rfl))
  have pw9 : (I1 (1000) 32).toInt = (I (1000) 32 : Int32).toInt := congrArg Int32.toInt ((hkI1.get (1000) 32 rfl))
  refine m_callv (m_runS (As := [.ref (ad (1014)), .ref (ad (1069))]) (rest := []) hx hb hml hown hts hE hM hS hA ce_X10_copy tb_1723 (V_X10_copy_1014_1069 l D A ad ns I1 L2 G hJ hI) rfl rfl ⟨Nat.le_of_ble_eq_true rfl, Nat.le_of_ble_eq_true rfl⟩  rfl hl.1 rfl (Nat.le_of_ble_eq_true rfl) dX10_keeps_19 ⟨Nat.le_of_ble_eq_true rfl, Nat.le_of_ble_eq_true rfl⟩) hS (fun u H locs hw hM hS => ?_)
  obtain ⟨I10, L11, rfl, hI, hkI10⟩ := hw
  have hM : Mem D A ad ns I10 L11 G H := hM
  have hK := hK.trans hkI10 rfl
  refine lv_aload_n hx hb dX10_keeps_22 rfl (lv_at hl 0 rfl) ?_
  refine m_getr (1000) 23 (1023) hx hb hts hown hE oc10 hM hJ.1 rfl (by decide) rfl (hJ.2 23 (by decide)).2 (by decide) tb_1200 dX10_keeps_23 ?_
  refine lv_aload_n hx hb dX10_keeps_26 rfl (lv_at hl 0 rfl) ?_
  refine m_getr (1000) 70 (1070) hx hb hts hown hE oc10 hM hJ.1 rfl (by decide) rfl (hJ.2 70 (by decide)).2 (by decide) tb_1247 dX10_keeps_27 ?_
  have pw12 : (I10 (1000) 24).toInt = (I (1000) 24 : Int32).toInt := congrArg Int32.toInt (((hkI10.get (1000) 24 rfl)).trans (hkI1.get (1000) 24 rfl))
  have pw13 : (I10 (1000) 25).toInt = (I (1000) 25 : Int32).toInt := congrArg Int32.toInt (((hkI10.get (1000) 25 rfl)).trans (hkI1.get (1000) 25 rfl))
  have pw14 : (I10 (1000) 26).toInt = (I (1000) 26 : Int32).toInt := congrArg Int32.toInt (((hkI10.get (1000) 26 rfl)).trans (hkI1.get (1000) 26 rfl))
  have pw15 : (I10 (1000) 27).toInt = (I (1000) 27 : Int32).toInt := congrArg Int32.toInt (((hkI10.get (1000) 27 rfl)).trans (hkI1.get (1000) 27 rfl))
  have pw16 : (I10 (1000) 29).toInt = (I (1000) 29 : Int32).toInt := congrArg Int32.toInt (((hkI10.get (1000) 29 rfl)).trans (hkI1.get (1000) 29 rfl))
  have pw17 : (I10 (1000) 31).toInt = (I (1000) 31 : Int32).toInt := congrArg Int32.toInt (((hkI10.get (1000) 31 rfl)).trans (hkI1.get (1000) 31 rfl))
  have pw18 : (I10 (1000) 32).toInt = (I (1000) 32 : Int32).toInt := congrArg Int32.toInt (((hkI10.get (1000) 32 rfl)).trans (hkI1.get (1000) 32 rfl))
  refine m_callv (m_runS (As := [.ref (ad (1023)), .ref (ad (1070))]) (rest := []) hx hb hml hown hts hE hM hS hA ce_X10_copy tb_1723 (V_X10_copy_1023_1070 l D A ad ns I10 L11 G hJ hI) rfl rfl ⟨Nat.le_of_ble_eq_true rfl, Nat.le_of_ble_eq_true rfl⟩  rfl hl.1 rfl (Nat.le_of_ble_eq_true rfl) dX10_keeps_30 ⟨Nat.le_of_ble_eq_true rfl, Nat.le_of_ble_eq_true rfl⟩) hS (fun u H locs hw hM hS => ?_)
  obtain ⟨I19, L20, rfl, hI, hkI19⟩ := hw
  have hM : Mem D A ad ns I19 L20 G H := hM
  have hK := hK.trans hkI19 rfl
  refine lv_aload_n hx hb dX10_keeps_33 rfl (lv_at hl 0 rfl) ?_
  refine lv_aload_n hx hb dX10_keeps_34 rfl (lv_at hl 0 rfl) ?_
  refine m_getr (1000) 1 (1001) hx hb hts hown hE oc10 hM hJ.1 rfl (by decide) rfl (hJ.2 1 (by decide)).2 (by decide) tb_1178 dX10_keeps_35 ?_
  refine lv_bipush (v := (6)) hx hb dX10_keeps_38 (by decide) ?_
  refine m_iald (1001) hx hb hE hM (hJ.2 1 (by decide)).1 rfl (vp_in_iff.mpr (by decide)) dX10_keeps_40 ?_
  rw [show (6 : Int32).toNatClampNeg = 6 from rfl]
  have z21 : I19 (1001) 6 = I (1001) 6 := (((hkI19.get (1001) 6 rfl)).trans (hkI10.get (1001) 6 rfl)).trans (hkI1.get (1001) 6 rfl)
  rw [z21]
  refine m_puti (1000) 74 hx hb hts hown hE oc10 hM hS hJ.1 rfl (by decide) rfl rfl rfl rfl tb_1251 dX10_keeps_41 (fun H locs I22 eI22 hM hS => ?_)
  subst eI22
  have hI := hI.putF (n := 1000) (k := 74) (v := I (1001) 6) rfl
  have hK := hK.put (n := 1000) (k := 74) (v := I (1001) 6) (by first | rfl | simp [inR])
  refine lv_aload_n hx hb dX10_keeps_44 rfl (lv_at hl 0 rfl) ?_
  refine lv_aload_n hx hb dX10_keeps_45 rfl (lv_at hl 0 rfl) ?_
  refine m_getr (1000) 1 (1001) hx hb hts hown hE oc10 hM hJ.1 rfl (by decide) rfl (hJ.2 1 (by decide)).2 (by decide) tb_1178 dX10_keeps_46 ?_
  refine lv_iconst (v := (5)) hx hb dX10_keeps_49 (by decide) ?_
  refine m_iald (1001) hx hb hE hM (hJ.2 1 (by decide)).1 rfl (vp_in_iff.mpr (by decide)) dX10_keeps_50 ?_
  rw [show (5 : Int32).toNatClampNeg = 5 from rfl]
  have g23 := hI.get (1001) 5 (lo := 0) (hi := 11) rfl
  have z24 : (u2 I19 (1000) 74 (I (1001) 6)) (1001) 5 = I (1001) 5 := ((((show (u2 I19 (1000) 74 (I (1001) 6)) (1001) 5 = I19 (1001) 5 from by simp [u2_v])).trans (hkI19.get (1001) 5 rfl)).trans (hkI10.get (1001) 5 rfl)).trans (hkI1.get (1001) 5 rfl)
  rw [z24] at g23 ⊢
  refine m_puti (1000) 75 hx hb hts hown hE oc10 hM hS hJ.1 rfl (by decide) rfl rfl rfl rfl tb_1252 dX10_keeps_51 (fun H locs I25 eI25 hM hS => ?_)
  subst eI25
  have hI := hI.put (n := 1000) (k := 75) (v := I (1001) 5) (lo := 0) (hi := 11) rfl (by first | omega | decide)
  have hK := hK.put (n := 1000) (k := 75) (v := I (1001) 5) (by first | rfl | simp [inR])
  exact m_vret hx hb hr hlocks hM hS (Nat.le_of_ble_eq_true rfl) (Nat.le_of_ble_eq_true rfl) ⟨_, _, rfl, hI, hK, ((show (u2 (u2 I19 (1000) 74 (I (1001) 6)) (1000) 75 (I (1001) 5)) (1000) 75 = I (1001) 5 from by simp [u2_v]))⟩ dX10_keeps_54
set_option maxHeartbeats 4000000 in
set_option maxRecDepth 20000 in
theorem V_X10_putsBack_m (l : Launch) (D : va_G) (A : Nat → Prop) (ad : Nat → Nat) (ns : List Nat) (I : MI) (L : ML) (G : MG) (hJ : SGM ns G) (hI : INV I) : Met l yX10_putsBack (wd yX10_putsBack cX10_putsBack 1 none) ({ frames := 1, cells := 0, slots := 0, locals := 22 }) (va_Pc [.ref (ad (1000))] (PM D A ad ns I L G)) (va_Qv (fun u => ∃ I2 L2, u = (ad, ns, I2, L2, G) ∧ INV I2 ∧ Kp [(1009, 1010), (1014, 1015), (1023, 1024)] [(1001, 5), (1001, 6)] I I2 ∧ (I2 1001 5 = I 1000 75)) (BM D A) A) 0 0 A := by
  refine m_ofW (by decide) (Nat.le_of_ble_eq_true rfl) ?_
  intro p e s m below meth c ls args hC hE hM hA hS hl
  obtain ⟨hx, hb, hml, hown, hts, hr, hlocks, hin⟩ := hC
  have k0 : (0 : Int32).toInt = 0 := by decide
  have k5 : (5 : Int32).toInt = 5 := by decide
  have k6 : (6 : Int32).toInt = 6 := by decide
  have hK : Kp [(1009, 1010), (1014, 1015), (1023, 1024)] [(1001, 5), (1001, 6)] I I := Kp.rf
  have hl : lv_has ls 1 [(0, .ref (ad (1000)))] := hl
  refine lv_aload_n hx hb dX10_putsBack_0 rfl (lv_at hl 0 rfl) ?_
  refine m_getr (1000) 67 (1067) hx hb hts hown hE oc10 hM hJ.1 rfl (by decide) rfl (hJ.2 67 (by decide)).2 (by decide) tb_1244 dX10_putsBack_1 ?_
  refine lv_aload_n hx hb dX10_putsBack_4 rfl (lv_at hl 0 rfl) ?_
  refine m_getr (1000) 9 (1009) hx hb hts hown hE oc10 hM hJ.1 rfl (by decide) rfl (hJ.2 9 (by decide)).2 (by decide) tb_1186 dX10_putsBack_5 ?_
  refine m_callv (m_runS (As := [.ref (ad (1067)), .ref (ad (1009))]) (rest := []) hx hb hml hown hts hE hM hS hA ce_X10_copy tb_1723 (V_X10_copy_1067_1009 l D A ad ns I L G hJ hI) rfl rfl ⟨Nat.le_of_ble_eq_true rfl, Nat.le_of_ble_eq_true rfl⟩  rfl hl.1 rfl (Nat.le_of_ble_eq_true rfl) dX10_putsBack_8 ⟨Nat.le_of_ble_eq_true rfl, Nat.le_of_ble_eq_true rfl⟩) hS (fun u H locs hw hM hS => ?_)
  obtain ⟨I1, L2, rfl, hI, hkI1⟩ := hw
  have hM : Mem D A ad ns I1 L2 G H := hM
  have hK := hK.trans hkI1 rfl
  refine lv_aload_n hx hb dX10_putsBack_11 rfl (lv_at hl 0 rfl) ?_
  refine m_getr (1000) 69 (1069) hx hb hts hown hE oc10 hM hJ.1 rfl (by decide) rfl (hJ.2 69 (by decide)).2 (by decide) tb_1246 dX10_putsBack_12 ?_
  refine lv_aload_n hx hb dX10_putsBack_15 rfl (lv_at hl 0 rfl) ?_
  refine m_getr (1000) 14 (1014) hx hb hts hown hE oc10 hM hJ.1 rfl (by decide) rfl (hJ.2 14 (by decide)).2 (by decide) tb_1191 dX10_putsBack_16 ?_
  have pw3 : (I1 (1000) 24).toInt = (I (1000) 24 : Int32).toInt := congrArg Int32.toInt ((hkI1.get (1000) 24 rfl))
  have pw4 : (I1 (1000) 25).toInt = (I (1000) 25 : Int32).toInt := congrArg Int32.toInt ((hkI1.get (1000) 25 rfl))
  have pw5 : (I1 (1000) 26).toInt = (I (1000) 26 : Int32).toInt := congrArg Int32.toInt ((hkI1.get (1000) 26 rfl))
  have pw6 : (I1 (1000) 27).toInt = (I (1000) 27 : Int32).toInt := congrArg Int32.toInt ((hkI1.get (1000) 27 rfl))
  have pw7 : (I1 (1000) 29).toInt = (I (1000) 29 : Int32).toInt := congrArg Int32.toInt ((hkI1.get (1000) 29 rfl))
  have pw8 : (I1 (1000) 31).toInt = (I (1000) 31 : Int32).toInt := congrArg Int32.toInt ((hkI1.get (1000) 31 rfl))
  have pw9 : (I1 (1000) 32).toInt = (I (1000) 32 : Int32).toInt := congrArg Int32.toInt ((hkI1.get (1000) 32 rfl))
  refine m_callv (m_runS (As := [.ref (ad (1069)), .ref (ad (1014))]) (rest := []) hx hb hml hown hts hE hM hS hA ce_X10_copy tb_1723 (V_X10_copy_1069_1014 l D A ad ns I1 L2 G hJ hI) rfl rfl ⟨Nat.le_of_ble_eq_true rfl, Nat.le_of_ble_eq_true rfl⟩  rfl hl.1 rfl (Nat.le_of_ble_eq_true rfl) dX10_putsBack_19 ⟨Nat.le_of_ble_eq_true rfl, Nat.le_of_ble_eq_true rfl⟩) hS (fun u H locs hw hM hS => ?_)
  obtain ⟨I10, L11, rfl, hI, hkI10⟩ := hw
  have hM : Mem D A ad ns I10 L11 G H := hM
  have hK := hK.trans hkI10 rfl
  refine lv_aload_n hx hb dX10_putsBack_22 rfl (lv_at hl 0 rfl) ?_
  refine m_getr (1000) 70 (1070) hx hb hts hown hE oc10 hM hJ.1 rfl (by decide) rfl (hJ.2 70 (by decide)).2 (by decide) tb_1247 dX10_putsBack_23 ?_
  refine lv_aload_n hx hb dX10_putsBack_26 rfl (lv_at hl 0 rfl) ?_
  refine m_getr (1000) 23 (1023) hx hb hts hown hE oc10 hM hJ.1 rfl (by decide) rfl (hJ.2 23 (by decide)).2 (by decide) tb_1200 dX10_putsBack_27 ?_
  have pw12 : (I10 (1000) 24).toInt = (I (1000) 24 : Int32).toInt := congrArg Int32.toInt (((hkI10.get (1000) 24 rfl)).trans (hkI1.get (1000) 24 rfl))
  have pw13 : (I10 (1000) 25).toInt = (I (1000) 25 : Int32).toInt := congrArg Int32.toInt (((hkI10.get (1000) 25 rfl)).trans (hkI1.get (1000) 25 rfl))
  have pw14 : (I10 (1000) 26).toInt = (I (1000) 26 : Int32).toInt := congrArg Int32.toInt (((hkI10.get (1000) 26 rfl)).trans (hkI1.get (1000) 26 rfl))
  have pw15 : (I10 (1000) 27).toInt = (I (1000) 27 : Int32).toInt := congrArg Int32.toInt (((hkI10.get (1000) 27 rfl)).trans (hkI1.get (1000) 27 rfl))
  have pw16 : (I10 (1000) 29).toInt = (I (1000) 29 : Int32).toInt := congrArg Int32.toInt (((hkI10.get (1000) 29 rfl)).trans (hkI1.get (1000) 29 rfl))
  have pw17 : (I10 (1000) 31).toInt = (I (1000) 31 : Int32).toInt := congrArg Int32.toInt (((hkI10.get (1000) 31 rfl)).trans (hkI1.get (1000) 31 rfl))
  have pw18 : (I10 (1000) 32).toInt = (I (1000) 32 : Int32).toInt := congrArg Int32.toInt (((hkI10.get (1000) 32 rfl)).trans (hkI1.get (1000) 32 rfl))
  refine m_callv (m_runS (As := [.ref (ad (1070)), .ref (ad (1023))]) (rest := []) hx hb hml hown hts hE hM hS hA ce_X10_copy tb_1723 (V_X10_copy_1070_1023 l D A ad ns I10 L11 G hJ hI) rfl rfl ⟨Nat.le_of_ble_eq_true rfl, Nat.le_of_ble_eq_true rfl⟩  rfl hl.1 rfl (Nat.le_of_ble_eq_true rfl) dX10_putsBack_30 ⟨Nat.le_of_ble_eq_true rfl, Nat.le_of_ble_eq_true rfl⟩) hS (fun u H locs hw hM hS => ?_)
  obtain ⟨I19, L20, rfl, hI, hkI19⟩ := hw
  have hM : Mem D A ad ns I19 L20 G H := hM
  have hK := hK.trans hkI19 rfl
  refine lv_aload_n hx hb dX10_putsBack_33 rfl (lv_at hl 0 rfl) ?_
  refine m_getr (1000) 1 (1001) hx hb hts hown hE oc10 hM hJ.1 rfl (by decide) rfl (hJ.2 1 (by decide)).2 (by decide) tb_1178 dX10_putsBack_34 ?_
  refine lv_bipush (v := (6)) hx hb dX10_putsBack_37 (by decide) ?_
  refine lv_aload_n hx hb dX10_putsBack_39 rfl (lv_at hl 0 rfl) ?_
  refine m_geti (1000) 74 hx hb hts hown hE oc10 hM hJ.1 rfl (by decide) rfl tb_1251 dX10_putsBack_40 ?_
  have z21 : I19 (1000) 74 = I (1000) 74 := (((hkI19.get (1000) 74 rfl)).trans (hkI10.get (1000) 74 rfl)).trans (hkI1.get (1000) 74 rfl)
  rw [z21]
  refine m_iast (1001) hx hb hE hM hS (hJ.2 1 (by decide)).1 rfl (vp_in_iff.mpr (by decide)) dX10_putsBack_43 (fun H locs I22 eI22 hM hS => ?_)
  rw [show (6 : Int32).toNatClampNeg = 6 from rfl] at eI22
  subst eI22
  have hI := hI.putF (n := 1001) (k := 6) (v := I (1000) 74) rfl
  have hK := hK.put (n := 1001) (k := 6) (v := I (1000) 74) (by first | rfl | simp [inR])
  refine lv_aload_n hx hb dX10_putsBack_44 rfl (lv_at hl 0 rfl) ?_
  refine m_getr (1000) 1 (1001) hx hb hts hown hE oc10 hM hJ.1 rfl (by decide) rfl (hJ.2 1 (by decide)).2 (by decide) tb_1178 dX10_putsBack_45 ?_
  refine lv_iconst (v := (5)) hx hb dX10_putsBack_48 (by decide) ?_
  refine lv_aload_n hx hb dX10_putsBack_49 rfl (lv_at hl 0 rfl) ?_
  refine m_geti (1000) 75 hx hb hts hown hE oc10 hM hJ.1 rfl (by decide) rfl tb_1252 dX10_putsBack_50 ?_
  have g23 := hI.get (1000) 75 (lo := 0) (hi := 11) rfl
  have z24 : (u2 I19 (1001) 6 (I (1000) 74)) (1000) 75 = I (1000) 75 := ((((show (u2 I19 (1001) 6 (I (1000) 74)) (1000) 75 = I19 (1000) 75 from by simp [u2_v])).trans (hkI19.get (1000) 75 rfl)).trans (hkI10.get (1000) 75 rfl)).trans (hkI1.get (1000) 75 rfl)
  rw [z24] at g23 ⊢
  refine m_iast (1001) hx hb hE hM hS (hJ.2 1 (by decide)).1 rfl (vp_in_iff.mpr (by decide)) dX10_putsBack_53 (fun H locs I25 eI25 hM hS => ?_)
  rw [show (5 : Int32).toNatClampNeg = 5 from rfl] at eI25
  subst eI25
  have hI := hI.put (n := 1001) (k := 5) (v := I (1000) 75) (lo := 0) (hi := 11) rfl (by first | omega | decide)
  have hK := hK.put (n := 1001) (k := 5) (v := I (1000) 75) (by first | rfl | simp [inR])
  exact m_vret hx hb hr hlocks hM hS (Nat.le_of_ble_eq_true rfl) (Nat.le_of_ble_eq_true rfl) ⟨_, _, rfl, hI, hK, ((show (u2 (u2 I19 (1001) 6 (I (1000) 74)) (1001) 5 (I (1000) 75)) (1001) 5 = I (1000) 75 from by simp [u2_v]))⟩ dX10_putsBack_54
theorem dX10_days_0 : decode cX10_days 0 = .ok (.aload_n 0, 1) := by decide +kernel
theorem dX10_days_1 : decode cX10_days 1 = .ok (.iload_n 1, 1) := by decide +kernel
theorem dX10_days_2 : decode cX10_days 2 = .ok (.invokevirtual 458, 3) := by decide +kernel
theorem dX10_days_5 : decode cX10_days 5 = .ok (.ifCond .eq 30, 3) := by decide +kernel
theorem dX10_days_8 : decode cX10_days 8 = .ok (.iload_n 2, 1) := by decide +kernel
theorem dX10_days_9 : decode cX10_days 9 = .ok (.i2l, 1) := by decide +kernel
theorem dX10_days_10 : decode cX10_days 10 = .ok (.lconst 1, 1) := by decide +kernel
theorem dX10_days_11 : decode cX10_days 11 = .ok (.ldc2_w 461, 3) := by decide +kernel
theorem dX10_days_14 : decode cX10_days 14 = .ok (.invokestatic 192, 3) := by decide +kernel
theorem dX10_days_17 : decode cX10_days 17 = .ok (.ifCond .eq 18, 3) := by decide +kernel
theorem dX10_days_20 : decode cX10_days 20 = .ok (.aload_n 0, 1) := by decide +kernel
theorem dX10_days_21 : decode cX10_days 21 = .ok (.getfield 7, 3) := by decide +kernel
theorem dX10_days_24 : decode cX10_days 24 = .ok (.bipush 6, 2) := by decide +kernel
theorem dX10_days_26 : decode cX10_days 26 = .ok (.iaload, 1) := by decide +kernel
theorem dX10_days_27 : decode cX10_days 27 = .ok (.iload_n 2, 1) := by decide +kernel
theorem dX10_days_28 : decode cX10_days 28 = .ok (.iadd, 1) := by decide +kernel
theorem dX10_days_29 : decode cX10_days 29 = .ok (.sipush 9999, 3) := by decide +kernel
theorem dX10_days_32 : decode cX10_days 32 = .ok (.if_icmp .le 5, 3) := by decide +kernel
theorem dX10_days_35 : decode cX10_days 35 = .ok (.iconst (-1), 1) := by decide +kernel
theorem dX10_days_36 : decode cX10_days 36 = .ok (.ireturn, 1) := by decide +kernel
theorem dX10_days_37 : decode cX10_days 37 = .ok (.iconst 0, 1) := by decide +kernel
theorem dX10_days_38 : decode cX10_days 38 = .ok (.istore_n 3, 1) := by decide +kernel
theorem dX10_days_39 : decode cX10_days 39 = .ok (.iload_n 3, 1) := by decide +kernel
theorem dX10_days_40 : decode cX10_days 40 = .ok (.iload_n 2, 1) := by decide +kernel
theorem dX10_days_41 : decode cX10_days 41 = .ok (.if_icmp .ge 14, 3) := by decide +kernel
theorem dX10_days_44 : decode cX10_days 44 = .ok (.aload_n 0, 1) := by decide +kernel
theorem dX10_days_45 : decode cX10_days 45 = .ok (.iload_n 1, 1) := by decide +kernel
theorem dX10_days_46 : decode cX10_days 46 = .ok (.invokevirtual 463, 3) := by decide +kernel
theorem dX10_days_49 : decode cX10_days 49 = .ok (.iinc 3 1, 3) := by decide +kernel
theorem dX10_days_52 : decode cX10_days 52 = .ok (.goto (-13), 3) := by decide +kernel
theorem dX10_days_55 : decode cX10_days 55 = .ok (.aload_n 0, 1) := by decide +kernel
theorem dX10_days_56 : decode cX10_days 56 = .ok (.invokevirtual 466, 3) := by decide +kernel
theorem dX10_days_59 : decode cX10_days 59 = .ok (.ireturn, 1) := by decide +kernel
theorem ce_X10_days : CeV RX10 yX10_days cX10_days 4 (some .int) 2 := ⟨tb_1605, tb_1606, tb_11, tb_1607, rfl, by decide, by decide, by decide +kernel⟩
set_option maxHeartbeats 4000000 in
set_option maxRecDepth 20000 in
theorem V_X10_days (l : Launch) (D : va_G) (A : Nat → Prop) (ad : Nat → Nat) (ns : List Nat) (I : MI) (L : ML) (G : MG) (a0 : Int32) (a1 : Int32) (hJ : SGM ns G) (hI : INV I) (hLM : LWM I) : Met l yX10_days (wd yX10_days cX10_days 4 (some .int)) ({ frames := 6, cells := 0, slots := 0, locals := 151 }) (va_Pc [.ref (ad (1000)), .int a0, .int a1] (PM D A ad ns I L G)) (va_Qi (fun r u => ∃ I2 L2, u = (ad, ns, I2, L2, G) ∧ INV I2 ∧ Kp [(1009, 1010), (1014, 1015), (1023, 1024), (1045, 1051), (1058, 1059), (1061, 1063), (1064, 1065)] [(1000, 51), (1000, 52), (1000, 53), (1000, 54), (1000, 55), (1000, 56), (1000, 59), (1000, 63), (1000, 65), (1001, 6)] I I2) (BM D A) A) 0 0 A := by
  refine m_ofW (by decide) (Nat.le_of_ble_eq_true rfl) ?_
  intro p e s m below meth c ls args hC hE hM hA hS hl
  obtain ⟨hx, hb, hml, hown, hts, hr, hlocks, hin⟩ := hC
  have km1 : (-1 : Int32).toInt = -1 := by decide
  have k0 : (0 : Int32).toInt = 0 := by decide
  have k6 : (6 : Int32).toInt = 6 := by decide
  have k9999 : (9999 : Int32).toInt = 9999 := by decide
  have kl1 : (1 : Int64).toInt = 1 := by decide
  have kl30 : (30 : Int64).toInt = 30 := by decide
  have hK : Kp [(1009, 1010), (1014, 1015), (1023, 1024), (1045, 1051), (1058, 1059), (1061, 1063), (1064, 1065)] [(1000, 51), (1000, 52), (1000, 53), (1000, 54), (1000, 55), (1000, 56), (1000, 59), (1000, 63), (1000, 65), (1001, 6)] I I := Kp.rf
  have hl : lv_has ls 4 [(0, .ref (ad (1000))), (1, .int (a0)), (2, .int (a1))] := hl
  refine lv_aload_n hx hb dX10_days_0 rfl (lv_at hl 0 rfl) ?_
  refine lv_iload_n hx hb dX10_days_1 rfl (lv_at hl 1 rfl) ?_
  refine m_calli (m_runV (1000) (As := [.int (a0)]) (rest := []) hx hb hml hown hts hE hM hS hA ce_X10_isLaw tb_1608 (V_X10_isLaw l D A ad ns I L G (a0) hJ hI) rfl rfl ⟨Nat.le_of_ble_eq_true rfl, Nat.le_of_ble_eq_true rfl⟩ hJ.1 rfl rfl (by decide) rfl hl.1 rfl (Nat.le_of_ble_eq_true rfl) dX10_days_2 ⟨Nat.le_of_ble_eq_true rfl, Nat.le_of_ble_eq_true rfl⟩) hS (fun r1 u H locs hw hM hS => ?_)
  obtain ⟨rfl, xr1⟩ := hw
  have hM : Mem D A ad ns I L G H := hM
  have yr1 := bo01 xr1
  have g2 := hI.get 1000 28 (lo := 0) (hi := 6) rfl
  refine lv_if_eq (tgt := 35) hx hb dX10_days_5 (by decide) (fun c3 => ?_) (fun c3 => ?_)
  · have hc3 := c3
    have q3 := xr1.f hc3
    refine lv_iconst (v := (-1)) hx hb dX10_days_35 (by decide) ?_
    exact m_iret hx hb hr hlocks hM hS (Nat.le_of_ble_eq_true rfl) (Nat.le_of_ble_eq_true rfl) ⟨_, _, rfl, hI, hK⟩ dX10_days_36
  · have hc3 := c3
    have q3 := xr1.t hc3
    refine lv_iload_n hx hb dX10_days_8 rfl (lv_at hl 2 rfl) ?_
    refine lv_i2l hx hb dX10_days_9 rfl ?_
    refine lv_topl (fun v4 ev4 => ?_)
    have tv4 := q_i2l ev4
    refine lv_lconst (v := 1) hx hb dX10_days_10 (by decide) ?_
    refine lv_ldc2 (v := (30)) hx hb hown (hts _ tb_1612) dX10_days_11 ?_
    refine m_calli (m_runS (As := [.long (v4), .long (1), .long ((30 : Int64))]) (rest := []) hx hb hml hown hts hE hM hS hA ce_X10_in tb_1425 (V_X10_in l D A ad ns I L G (v4) (1) ((30 : Int64)) hI) rfl rfl ⟨Nat.le_of_ble_eq_true rfl, Nat.le_of_ble_eq_true rfl⟩  rfl hl.1 rfl (Nat.le_of_ble_eq_true rfl) dX10_days_14 ⟨Nat.le_of_ble_eq_true rfl, Nat.le_of_ble_eq_true rfl⟩) hS (fun r5 u H locs hw hM hS => ?_)
    obtain ⟨rfl, xr5⟩ := hw
    have hM : Mem D A ad ns I L G H := hM
    have yr5 := bo01 xr5
    refine lv_if_eq (tgt := 35) hx hb dX10_days_17 (by decide) (fun c6 => ?_) (fun c6 => ?_)
    · have hc6 := c6
      have q6 := xr5.f hc6
      refine lv_iconst (v := (-1)) hx hb dX10_days_35 (by decide) ?_
      exact m_iret hx hb hr hlocks hM hS (Nat.le_of_ble_eq_true rfl) (Nat.le_of_ble_eq_true rfl) ⟨_, _, rfl, hI, hK⟩ dX10_days_36
    · have hc6 := c6
      have q6 := xr5.t hc6
      refine lv_aload_n hx hb dX10_days_20 rfl (lv_at hl 0 rfl) ?_
      refine m_getr (1000) 1 (1001) hx hb hts hown hE oc10 hM hJ.1 rfl (by decide) rfl (hJ.2 1 (by decide)).2 (by decide) tb_1178 dX10_days_21 ?_
      refine lv_bipush (v := (6)) hx hb dX10_days_24 (by decide) ?_
      refine m_iald (1001) hx hb hE hM (hJ.2 1 (by decide)).1 rfl (vp_in_iff.mpr (by decide)) dX10_days_26 ?_
      rw [show (6 : Int32).toNatClampNeg = 6 from rfl]
      refine lv_iload_n hx hb dX10_days_27 rfl (lv_at hl 2 rfl) ?_
      refine lv_iadd hx hb dX10_days_28 ?_
      refine lv_topi (fun v7 ev7 => ?_)
      refine lv_sipush (v := (9999)) hx hb dX10_days_29 (by decide) ?_
      refine lv_icmp_le (tgt := 37) hx hb dX10_days_32 (by decide) (fun c8 => ?_) (fun c8 => ?_)
      · have hc8 := c8
        have q8 := q_le hc8
        refine lv_iconst (v := (0)) hx hb dX10_days_37 (by decide) ?_
        refine lv_istore_n (lv' := [(3, .int (0)), (0, .ref (ad (1000))), (1, .int (a0)), (2, .int (a1))]) hx hb dX10_days_38 rfl hl (by decide) rfl (fun ls hl => ?_)
        have loop39 : ∀ (n : Nat) (x3_39 : Int32) (Ia39 : MI) (La39 : ML) (H : Heap) (locs : List Loc) (ls : Array Slot), INV Ia39 → Kp [(1009, 1010), (1014, 1015), (1023, 1024), (1045, 1051), (1058, 1059), (1061, 1063), (1064, 1065)] [(1000, 51), (1000, 52), (1000, 53), (1000, 54), (1000, 55), (1000, 56), (1000, 59), (1000, 63), (1000, 65), (1001, 6)] I Ia39 → (0 ≤ x3_39.toInt ∧ x3_39.toInt ≤ 30) → (30 - x3_39.toInt).toNat < n → Mem D A ad ns Ia39 La39 G H → va_S A s.heap H locs → lv_has ls 4 [(3, .int (x3_39)), (0, .ref (ad (1000))), (1, .int (a0)), (2, .int (a1))] → W p l e ({ frames := 6, cells := 0, slots := 0, locals := 151 } : Room) s m args below meth c H locs 0 0 (MQ below (va_Qi (fun r u => ∃ I2 L2, u = (ad, ns, I2, L2, G) ∧ INV I2 ∧ Kp [(1009, 1010), (1014, 1015), (1023, 1024), (1045, 1051), (1058, 1059), (1061, 1063), (1064, 1065)] [(1000, 51), (1000, 52), (1000, 53), (1000, 54), (1000, 55), (1000, 56), (1000, 59), (1000, 63), (1000, 65), (1001, 6)] I I2) (BM D A) A) args s 0 0 A) (F0 m 39 ls []) := by
          intro n
          induction n with
          | zero =>
            intro x3_39 Ia39 La39 H locs ls hI hK hr3_39 hmu
            exact absurd hmu (Nat.not_lt_zero _)
          | succ n ih39 =>
            intro x3_39 Ia39 La39 H locs ls hI hK hr3_39 hmu39 hM hS hl
            refine lv_iload_n hx hb dX10_days_39 rfl (lv_at hl 0 rfl) ?_
            refine lv_iload_n hx hb dX10_days_40 rfl (lv_at hl 3 rfl) ?_
            refine lv_icmp_ge (tgt := 55) hx hb dX10_days_41 (by decide) (fun c9 => ?_) (fun c9 => ?_)
            · have hc9 := c9
              have q9 := q_le hc9
              refine lv_aload_n hx hb dX10_days_55 rfl (lv_at hl 1 rfl) ?_
              refine m_calli (m_runV (1000) (As := []) (rest := []) hx hb hml hown hts hE hM hS hA ce_X10_met tb_1674 (V_X10_met l D A ad ns Ia39 La39 G hJ hI) rfl rfl ⟨Nat.le_of_ble_eq_true rfl, Nat.le_of_ble_eq_true rfl⟩ hJ.1 rfl rfl (by decide) rfl hl.1 rfl (Nat.le_of_ble_eq_true rfl) dX10_days_56 ⟨Nat.le_of_ble_eq_true rfl, Nat.le_of_ble_eq_true rfl⟩) hS (fun r10 u H locs hw hM hS => ?_)
              obtain ⟨rfl, xr10⟩ := hw
              have hM : Mem D A ad ns Ia39 La39 G H := hM
              exact m_iret hx hb hr hlocks hM hS (Nat.le_of_ble_eq_true rfl) (Nat.le_of_ble_eq_true rfl) ⟨_, _, rfl, hI, hK⟩ dX10_days_59
            · have hc9 := c9
              have q9 := q_nle hc9
              refine lv_aload_n hx hb dX10_days_44 rfl (lv_at hl 1 rfl) ?_
              refine lv_iload_n hx hb dX10_days_45 rfl (lv_at hl 2 rfl) ?_
              refine m_callv (m_runV (1000) (As := [.int (a0)]) (rest := []) hx hb hml hown hts hE hM hS hA ce_X10_goesDay tb_1613 (V_X10_goesDay l D A ad ns Ia39 La39 G (a0) hJ hI ((hLM (a0).toNatClampNeg (by have ta := tn (i := a0) (by omega); omega)).kp hK rfl) (by first | omega | decide)) rfl rfl ⟨Nat.le_of_ble_eq_true rfl, Nat.le_of_ble_eq_true rfl⟩ hJ.1 rfl rfl (by decide) rfl hl.1 rfl (Nat.le_of_ble_eq_true rfl) dX10_days_46 ⟨Nat.le_of_ble_eq_true rfl, Nat.le_of_ble_eq_true rfl⟩) hS (fun u H locs hw hM hS => ?_)
              obtain ⟨I11, L12, rfl, hI, hkI11⟩ := hw
              have hM : Mem D A ad ns I11 L12 G H := hM
              have hK := hK.trans hkI11 rfl
              obtain ⟨v13, ev13⟩ : ∃ z : Int32, z = x3_39 + Int32.ofInt (1) := ⟨_, rfl⟩
              have tv13 := a_inc ev13 (by decide) (by omega) (by omega)
              refine lv_iinc (v := v13) (lv' := [(3, .int (v13)), (0, .ref (ad (1000))), (1, .int (a0)), (2, .int (a1))]) hx hb dX10_days_49 hl (k := 0) rfl ev13.symm (by decide) rfl (fun ls hl => ?_)
              refine lv_goto (tgt := 39) hx hb dX10_days_52 (by decide) ?_
              exact ih39 (v13) I11 L12 _ _ ls hI hK (by first | omega | decide) (by omega) hM hS (lv_sub hl [0, 1, 2, 3] rfl)
        exact loop39 (_ + 1) (0) I L _ _ ls hI hK (by first | omega | decide) (Nat.lt_succ_self _) hM hS (lv_sub hl [0, 1, 2, 3] rfl)
      · have hc8 := c8
        have q8 := q_nle hc8
        refine lv_iconst (v := (-1)) hx hb dX10_days_35 (by decide) ?_
        exact m_iret hx hb hr hlocks hM hS (Nat.le_of_ble_eq_true rfl) (Nat.le_of_ble_eq_true rfl) ⟨_, _, rfl, hI, hK⟩ dX10_days_36
theorem dX10_dark_0 : decode cX10_dark 0 = .ok (.aload_n 0, 1) := by decide +kernel
theorem dX10_dark_1 : decode cX10_dark 1 = .ok (.iload_n 1, 1) := by decide +kernel
theorem dX10_dark_2 : decode cX10_dark 2 = .ok (.invokevirtual 458, 3) := by decide +kernel
theorem dX10_dark_5 : decode cX10_dark 5 = .ok (.ifCond .eq 23, 3) := by decide +kernel
theorem dX10_dark_8 : decode cX10_dark 8 = .ok (.aload_n 0, 1) := by decide +kernel
theorem dX10_dark_9 : decode cX10_dark 9 = .ok (.iload_n 2, 1) := by decide +kernel
theorem dX10_dark_10 : decode cX10_dark 10 = .ok (.invokevirtual 469, 3) := by decide +kernel
theorem dX10_dark_13 : decode cX10_dark 13 = .ok (.ifCond .eq 15, 3) := by decide +kernel
theorem dX10_dark_16 : decode cX10_dark 16 = .ok (.iload_n 3, 1) := by decide +kernel
theorem dX10_dark_17 : decode cX10_dark 17 = .ok (.i2l, 1) := by decide +kernel
theorem dX10_dark_18 : decode cX10_dark 18 = .ok (.lconst 0, 1) := by decide +kernel
theorem dX10_dark_19 : decode cX10_dark 19 = .ok (.ldc2_w 228, 3) := by decide +kernel
theorem dX10_dark_22 : decode cX10_dark 22 = .ok (.invokestatic 192, 3) := by decide +kernel
theorem dX10_dark_25 : decode cX10_dark 25 = .ok (.ifCond .ne 5, 3) := by decide +kernel
theorem dX10_dark_28 : decode cX10_dark 28 = .ok (.iconst (-1), 1) := by decide +kernel
theorem dX10_dark_29 : decode cX10_dark 29 = .ok (.ireturn, 1) := by decide +kernel
theorem dX10_dark_30 : decode cX10_dark 30 = .ok (.aload_n 0, 1) := by decide +kernel
theorem dX10_dark_31 : decode cX10_dark 31 = .ok (.invokevirtual 532, 3) := by decide +kernel
theorem dX10_dark_34 : decode cX10_dark 34 = .ok (.iconst 0, 1) := by decide +kernel
theorem dX10_dark_35 : decode cX10_dark 35 = .ok (.istore 4, 2) := by decide +kernel
theorem dX10_dark_37 : decode cX10_dark 37 = .ok (.iconst 0, 1) := by decide +kernel
theorem dX10_dark_38 : decode cX10_dark 38 = .ok (.istore 5, 2) := by decide +kernel
theorem dX10_dark_40 : decode cX10_dark 40 = .ok (.iload 5, 2) := by decide +kernel
theorem dX10_dark_42 : decode cX10_dark 42 = .ok (.bipush 12, 2) := by decide +kernel
theorem dX10_dark_44 : decode cX10_dark 44 = .ok (.if_icmp .ge 49, 3) := by decide +kernel
theorem dX10_dark_47 : decode cX10_dark 47 = .ok (.aload_n 0, 1) := by decide +kernel
theorem dX10_dark_48 : decode cX10_dark 48 = .ok (.getfield 7, 3) := by decide +kernel
theorem dX10_dark_51 : decode cX10_dark 51 = .ok (.iconst 5, 1) := by decide +kernel
theorem dX10_dark_52 : decode cX10_dark 52 = .ok (.iload 5, 2) := by decide +kernel
theorem dX10_dark_54 : decode cX10_dark 54 = .ok (.iastore, 1) := by decide +kernel
theorem dX10_dark_55 : decode cX10_dark 55 = .ok (.aload_n 0, 1) := by decide +kernel
theorem dX10_dark_56 : decode cX10_dark 56 = .ok (.iload_n 1, 1) := by decide +kernel
theorem dX10_dark_57 : decode cX10_dark 57 = .ok (.invokevirtual 463, 3) := by decide +kernel
theorem dX10_dark_60 : decode cX10_dark 60 = .ok (.iload 4, 2) := by decide +kernel
theorem dX10_dark_62 : decode cX10_dark 62 = .ok (.aload_n 0, 1) := by decide +kernel
theorem dX10_dark_63 : decode cX10_dark 63 = .ok (.getfield 76, 3) := by decide +kernel
theorem dX10_dark_66 : decode cX10_dark 66 = .ok (.iload_n 2, 1) := by decide +kernel
theorem dX10_dark_67 : decode cX10_dark 67 = .ok (.iaload, 1) := by decide +kernel
theorem dX10_dark_68 : decode cX10_dark 68 = .ok (.iload_n 3, 1) := by decide +kernel
theorem dX10_dark_69 : decode cX10_dark 69 = .ok (.if_icmp .ge 10, 3) := by decide +kernel
theorem dX10_dark_72 : decode cX10_dark 72 = .ok (.iconst 1, 1) := by decide +kernel
theorem dX10_dark_73 : decode cX10_dark 73 = .ok (.iload 5, 2) := by decide +kernel
theorem dX10_dark_75 : decode cX10_dark 75 = .ok (.ishl, 1) := by decide +kernel
theorem dX10_dark_76 : decode cX10_dark 76 = .ok (.goto 4, 3) := by decide +kernel
theorem dX10_dark_79 : decode cX10_dark 79 = .ok (.iconst 0, 1) := by decide +kernel
theorem dX10_dark_80 : decode cX10_dark 80 = .ok (.ior, 1) := by decide +kernel
theorem dX10_dark_81 : decode cX10_dark 81 = .ok (.istore 4, 2) := by decide +kernel
theorem dX10_dark_83 : decode cX10_dark 83 = .ok (.aload_n 0, 1) := by decide +kernel
theorem dX10_dark_84 : decode cX10_dark 84 = .ok (.invokevirtual 535, 3) := by decide +kernel
theorem dX10_dark_87 : decode cX10_dark 87 = .ok (.iinc 5 1, 3) := by decide +kernel
theorem dX10_dark_90 : decode cX10_dark 90 = .ok (.goto (-50), 3) := by decide +kernel
theorem dX10_dark_93 : decode cX10_dark 93 = .ok (.iload 4, 2) := by decide +kernel
theorem dX10_dark_95 : decode cX10_dark 95 = .ok (.ireturn, 1) := by decide +kernel
theorem ce_X10_dark : CeV RX10 yX10_dark cX10_dark 6 (some .int) 3 := ⟨tb_1803, tb_1804, tb_11, tb_1805, rfl, by decide, by decide, by decide +kernel⟩
set_option maxHeartbeats 4000000 in
set_option maxRecDepth 20000 in
theorem V_X10_dark (l : Launch) (D : va_G) (A : Nat → Prop) (ad : Nat → Nat) (ns : List Nat) (I : MI) (L : ML) (G : MG) (a0 : Int32) (a1 : Int32) (a2 : Int32) (hJ : SGM ns G) (hI : INV I) (hLM : LWM I) : Met l yX10_dark (wd yX10_dark cX10_dark 6 (some .int)) ({ frames := 6, cells := 0, slots := 0, locals := 151 }) (va_Pc [.ref (ad (1000)), .int a0, .int a1, .int a2] (PM D A ad ns I L G)) (va_Qi (fun r u => ∃ I2 L2, u = (ad, ns, I2, L2, G) ∧ INV I2 ∧ Kp [(1009, 1010), (1014, 1015), (1023, 1024), (1045, 1051), (1058, 1059), (1061, 1063), (1064, 1065), (1067, 1068), (1069, 1071)] [(1000, 51), (1000, 52), (1000, 53), (1000, 54), (1000, 55), (1000, 56), (1000, 59), (1000, 63), (1000, 65), (1000, 74), (1000, 75), (1001, 5), (1001, 6)] I I2 ∧ (I2 1001 5 = I 1001 5)) (BM D A) A) 0 0 A := by
  refine m_ofW (by decide) (Nat.le_of_ble_eq_true rfl) ?_
  intro p e s m below meth c ls args hC hE hM hA hS hl
  obtain ⟨hx, hb, hml, hown, hts, hr, hlocks, hin⟩ := hC
  have km1 : (-1 : Int32).toInt = -1 := by decide
  have k0 : (0 : Int32).toInt = 0 := by decide
  have k1 : (1 : Int32).toInt = 1 := by decide
  have k5 : (5 : Int32).toInt = 5 := by decide
  have k12 : (12 : Int32).toInt = 12 := by decide
  have kl0 : (0 : Int64).toInt = 0 := by decide
  have kl9999999 : (9999999 : Int64).toInt = 9999999 := by decide
  have hK : Kp [(1009, 1010), (1014, 1015), (1023, 1024), (1045, 1051), (1058, 1059), (1061, 1063), (1064, 1065), (1067, 1068), (1069, 1071)] [(1000, 51), (1000, 52), (1000, 53), (1000, 54), (1000, 55), (1000, 56), (1000, 59), (1000, 63), (1000, 65), (1000, 74), (1000, 75), (1001, 5), (1001, 6)] I I := Kp.rf
  have hl : lv_has ls 6 [(0, .ref (ad (1000))), (1, .int (a0)), (2, .int (a1)), (3, .int (a2))] := hl
  refine lv_aload_n hx hb dX10_dark_0 rfl (lv_at hl 0 rfl) ?_
  refine lv_iload_n hx hb dX10_dark_1 rfl (lv_at hl 1 rfl) ?_
  refine m_calli (m_runV (1000) (As := [.int (a0)]) (rest := []) hx hb hml hown hts hE hM hS hA ce_X10_isLaw tb_1608 (V_X10_isLaw l D A ad ns I L G (a0) hJ hI) rfl rfl ⟨Nat.le_of_ble_eq_true rfl, Nat.le_of_ble_eq_true rfl⟩ hJ.1 rfl rfl (by decide) rfl hl.1 rfl (Nat.le_of_ble_eq_true rfl) dX10_dark_2 ⟨Nat.le_of_ble_eq_true rfl, Nat.le_of_ble_eq_true rfl⟩) hS (fun r1 u H locs hw hM hS => ?_)
  obtain ⟨rfl, xr1⟩ := hw
  have hM : Mem D A ad ns I L G H := hM
  have yr1 := bo01 xr1
  have g2 := hI.get 1000 28 (lo := 0) (hi := 6) rfl
  refine lv_if_eq (tgt := 28) hx hb dX10_dark_5 (by decide) (fun c3 => ?_) (fun c3 => ?_)
  · have hc3 := c3
    have q3 := xr1.f hc3
    refine lv_iconst (v := (-1)) hx hb dX10_dark_28 (by decide) ?_
    exact m_iret hx hb hr hlocks hM hS (Nat.le_of_ble_eq_true rfl) (Nat.le_of_ble_eq_true rfl) ⟨_, _, rfl, hI, hK, rfl⟩ dX10_dark_29
  · have hc3 := c3
    have q3 := xr1.t hc3
    refine lv_aload_n hx hb dX10_dark_8 rfl (lv_at hl 0 rfl) ?_
    refine lv_iload_n hx hb dX10_dark_9 rfl (lv_at hl 2 rfl) ?_
    refine m_calli (m_runV (1000) (As := [.int (a1)]) (rest := []) hx hb hml hown hts hE hM hS hA ce_X10_isYard tb_1686 (V_X10_isYard l D A ad ns I L G (a1) hJ hI) rfl rfl ⟨Nat.le_of_ble_eq_true rfl, Nat.le_of_ble_eq_true rfl⟩ hJ.1 rfl rfl (by decide) rfl hl.1 rfl (Nat.le_of_ble_eq_true rfl) dX10_dark_10 ⟨Nat.le_of_ble_eq_true rfl, Nat.le_of_ble_eq_true rfl⟩) hS (fun r4 u H locs hw hM hS => ?_)
    obtain ⟨rfl, xr4⟩ := hw
    have hM : Mem D A ad ns I L G H := hM
    have yr4 := bo01 xr4
    have g5 := hI.get 1001 9 (lo := 0) (hi := 8) rfl
    refine lv_if_eq (tgt := 28) hx hb dX10_dark_13 (by decide) (fun c6 => ?_) (fun c6 => ?_)
    · have hc6 := c6
      have q6 := xr4.f hc6
      refine lv_iconst (v := (-1)) hx hb dX10_dark_28 (by decide) ?_
      exact m_iret hx hb hr hlocks hM hS (Nat.le_of_ble_eq_true rfl) (Nat.le_of_ble_eq_true rfl) ⟨_, _, rfl, hI, hK, rfl⟩ dX10_dark_29
    · have hc6 := c6
      have q6 := xr4.t hc6
      refine lv_iload_n hx hb dX10_dark_16 rfl (lv_at hl 3 rfl) ?_
      refine lv_i2l hx hb dX10_dark_17 rfl ?_
      refine lv_topl (fun v7 ev7 => ?_)
      have tv7 := q_i2l ev7
      refine lv_lconst (v := 0) hx hb dX10_dark_18 (by decide) ?_
      refine lv_ldc2 (v := (9999999)) hx hb hown (hts _ tb_1472) dX10_dark_19 ?_
      refine m_calli (m_runS (As := [.long (v7), .long (0), .long ((9999999 : Int64))]) (rest := []) hx hb hml hown hts hE hM hS hA ce_X10_in tb_1425 (V_X10_in l D A ad ns I L G (v7) (0) ((9999999 : Int64)) hI) rfl rfl ⟨Nat.le_of_ble_eq_true rfl, Nat.le_of_ble_eq_true rfl⟩  rfl hl.1 rfl (Nat.le_of_ble_eq_true rfl) dX10_dark_22 ⟨Nat.le_of_ble_eq_true rfl, Nat.le_of_ble_eq_true rfl⟩) hS (fun r8 u H locs hw hM hS => ?_)
      obtain ⟨rfl, xr8⟩ := hw
      have hM : Mem D A ad ns I L G H := hM
      have yr8 := bo01 xr8
      refine lv_if_ne (tgt := 30) hx hb dX10_dark_25 (by decide) (fun c9 => ?_) (fun c9 => ?_)
      · have hc9 := c9
        have q9 := xr8.t hc9
        refine lv_aload_n hx hb dX10_dark_30 rfl (lv_at hl 0 rfl) ?_
        refine m_callv (m_runV (1000) (As := []) (rest := []) hx hb hml hown hts hE hM hS hA ce_X10_keeps tb_1806 (V_X10_keeps_m l D A ad ns I L G hJ hI) rfl rfl ⟨Nat.le_of_ble_eq_true rfl, Nat.le_of_ble_eq_true rfl⟩ hJ.1 rfl rfl (by decide) rfl hl.1 rfl (Nat.le_of_ble_eq_true rfl) dX10_dark_31 ⟨Nat.le_of_ble_eq_true rfl, Nat.le_of_ble_eq_true rfl⟩) hS (fun u H locs hw hM hS => ?_)
        obtain ⟨I10, L11, rfl, hI, hkI10, xI10⟩ := hw
        have hM : Mem D A ad ns I10 L11 G H := hM
        have hK := hK.trans hkI10 rfl
        have hkm : I10 1000 75 = I 1001 5 := xI10
        refine lv_iconst (v := (0)) hx hb dX10_dark_34 (by decide) ?_
        refine lv_istore (lv' := [(4, .int (0)), (0, .ref (ad (1000))), (1, .int (a0)), (2, .int (a1)), (3, .int (a2))]) hx hb dX10_dark_35 hl (by decide) rfl (fun ls hl => ?_)
        refine lv_iconst (v := (0)) hx hb dX10_dark_37 (by decide) ?_
        refine lv_istore (lv' := [(5, .int (0)), (4, .int (0)), (0, .ref (ad (1000))), (1, .int (a0)), (2, .int (a1)), (3, .int (a2))]) hx hb dX10_dark_38 hl (by decide) rfl (fun ls hl => ?_)
        have loop40 : ∀ (n : Nat) (x5_40 : Int32) (x4_40 : Int32) (Ia40 : MI) (La40 : ML) (H : Heap) (locs : List Loc) (ls : Array Slot), INV Ia40 → Kp [(1009, 1010), (1014, 1015), (1023, 1024), (1045, 1051), (1058, 1059), (1061, 1063), (1064, 1065), (1067, 1068), (1069, 1071)] [(1000, 51), (1000, 52), (1000, 53), (1000, 54), (1000, 55), (1000, 56), (1000, 59), (1000, 63), (1000, 65), (1000, 74), (1000, 75), (1001, 5), (1001, 6)] I Ia40 → (0 ≤ x5_40.toInt ∧ x5_40.toInt ≤ 12) → (Ia40 1000 75 = I 1001 5) → (Ia40 1001 5 = I 1001 5) → (12 - x5_40.toInt).toNat < n → Mem D A ad ns Ia40 La40 G H → va_S A s.heap H locs → lv_has ls 6 [(5, .int (x5_40)), (4, .int (x4_40)), (0, .ref (ad (1000))), (1, .int (a0)), (2, .int (a1)), (3, .int (a2))] → W p l e ({ frames := 6, cells := 0, slots := 0, locals := 151 } : Room) s m args below meth c H locs 0 0 (MQ below (va_Qi (fun r u => ∃ I2 L2, u = (ad, ns, I2, L2, G) ∧ INV I2 ∧ Kp [(1009, 1010), (1014, 1015), (1023, 1024), (1045, 1051), (1058, 1059), (1061, 1063), (1064, 1065), (1067, 1068), (1069, 1071)] [(1000, 51), (1000, 52), (1000, 53), (1000, 54), (1000, 55), (1000, 56), (1000, 59), (1000, 63), (1000, 65), (1000, 74), (1000, 75), (1001, 5), (1001, 6)] I I2 ∧ (I2 1001 5 = I 1001 5)) (BM D A) A) args s 0 0 A) (F0 m 40 ls []) := by
          intro n
          induction n with
          | zero =>
            intro x5_40 x4_40 Ia40 La40 H locs ls hI hK hr5_40 hkm hmm hmu
            exact absurd hmu (Nat.not_lt_zero _)
          | succ n ih40 =>
            intro x5_40 x4_40 Ia40 La40 H locs ls hI hK hr5_40 hkm hmm hmu40 hM hS hl
            refine lv_iload hx hb dX10_dark_40 (lv_at hl 0 rfl) ?_
            refine lv_bipush (v := (12)) hx hb dX10_dark_42 (by decide) ?_
            refine lv_icmp_ge (tgt := 93) hx hb dX10_dark_44 (by decide) (fun c12 => ?_) (fun c12 => ?_)
            · have hc12 := c12
              have q12 := q_le hc12
              refine lv_iload hx hb dX10_dark_93 (lv_at hl 1 rfl) ?_
              exact m_iret hx hb hr hlocks hM hS (Nat.le_of_ble_eq_true rfl) (Nat.le_of_ble_eq_true rfl) ⟨_, _, rfl, hI, hK, hmm⟩ dX10_dark_95
            · have hc12 := c12
              have q12 := q_nle hc12
              refine lv_aload_n hx hb dX10_dark_47 rfl (lv_at hl 2 rfl) ?_
              refine m_getr (1000) 1 (1001) hx hb hts hown hE oc10 hM hJ.1 rfl (by decide) rfl (hJ.2 1 (by decide)).2 (by decide) tb_1178 dX10_dark_48 ?_
              refine lv_iconst (v := (5)) hx hb dX10_dark_51 (by decide) ?_
              refine lv_iload hx hb dX10_dark_52 (lv_at hl 0 rfl) ?_
              refine m_iast (1001) hx hb hE hM hS (hJ.2 1 (by decide)).1 rfl (vp_in_iff.mpr (by decide)) dX10_dark_54 (fun H locs I13 eI13 hM hS => ?_)
              rw [show (5 : Int32).toNatClampNeg = 5 from rfl] at eI13
              subst eI13
              have hI := hI.put (n := 1001) (k := 5) (v := x5_40) (lo := 0) (hi := 11) rfl (by first | omega | decide)
              have hK := hK.put (n := 1001) (k := 5) (v := x5_40) (by first | rfl | simp [inR])
              refine lv_aload_n hx hb dX10_dark_55 rfl (lv_at hl 2 rfl) ?_
              refine lv_iload_n hx hb dX10_dark_56 rfl (lv_at hl 3 rfl) ?_
              have pw14 : ((u2 Ia40 (1001) 5 (x5_40)) (1000) 24).toInt = (Ia40 (1000) 24 : Int32).toInt := congrArg Int32.toInt ((show (u2 Ia40 (1001) 5 (x5_40)) (1000) 24 = Ia40 (1000) 24 from by simp [u2_v]))
              have pw15 : ((u2 Ia40 (1001) 5 (x5_40)) (1000) 25).toInt = (Ia40 (1000) 25 : Int32).toInt := congrArg Int32.toInt ((show (u2 Ia40 (1001) 5 (x5_40)) (1000) 25 = Ia40 (1000) 25 from by simp [u2_v]))
              have pw16 : ((u2 Ia40 (1001) 5 (x5_40)) (1000) 26).toInt = (Ia40 (1000) 26 : Int32).toInt := congrArg Int32.toInt ((show (u2 Ia40 (1001) 5 (x5_40)) (1000) 26 = Ia40 (1000) 26 from by simp [u2_v]))
              have pw17 : ((u2 Ia40 (1001) 5 (x5_40)) (1000) 27).toInt = (Ia40 (1000) 27 : Int32).toInt := congrArg Int32.toInt ((show (u2 Ia40 (1001) 5 (x5_40)) (1000) 27 = Ia40 (1000) 27 from by simp [u2_v]))
              have pw18 : ((u2 Ia40 (1001) 5 (x5_40)) (1000) 29).toInt = (Ia40 (1000) 29 : Int32).toInt := congrArg Int32.toInt ((show (u2 Ia40 (1001) 5 (x5_40)) (1000) 29 = Ia40 (1000) 29 from by simp [u2_v]))
              have pw19 : ((u2 Ia40 (1001) 5 (x5_40)) (1000) 31).toInt = (Ia40 (1000) 31 : Int32).toInt := congrArg Int32.toInt ((show (u2 Ia40 (1001) 5 (x5_40)) (1000) 31 = Ia40 (1000) 31 from by simp [u2_v]))
              have pw20 : ((u2 Ia40 (1001) 5 (x5_40)) (1000) 32).toInt = (Ia40 (1000) 32 : Int32).toInt := congrArg Int32.toInt ((show (u2 Ia40 (1001) 5 (x5_40)) (1000) 32 = Ia40 (1000) 32 from by simp [u2_v]))
              refine m_callv (m_runV (1000) (As := [.int (a0)]) (rest := []) hx hb hml hown hts hE hM hS hA ce_X10_goesDay tb_1613 (V_X10_goesDay l D A ad ns (u2 Ia40 (1001) 5 (x5_40)) La40 G (a0) hJ hI ((hLM (a0).toNatClampNeg (by have ta := tn (i := a0) (by omega); omega)).kp hK rfl) (by first | omega | decide)) rfl rfl ⟨Nat.le_of_ble_eq_true rfl, Nat.le_of_ble_eq_true rfl⟩ hJ.1 rfl rfl (by decide) rfl hl.1 rfl (Nat.le_of_ble_eq_true rfl) dX10_dark_57 ⟨Nat.le_of_ble_eq_true rfl, Nat.le_of_ble_eq_true rfl⟩) hS (fun u H locs hw hM hS => ?_)
              obtain ⟨I21, L22, rfl, hI, hkI21⟩ := hw
              have hM : Mem D A ad ns I21 L22 G H := hM
              have hK := hK.trans hkI21 rfl
              refine lv_iload hx hb dX10_dark_60 (lv_at hl 1 rfl) ?_
              refine lv_aload_n hx hb dX10_dark_62 rfl (lv_at hl 2 rfl) ?_
              refine m_getr (1000) 23 (1023) hx hb hts hown hE oc10 hM hJ.1 rfl (by decide) rfl (hJ.2 23 (by decide)).2 (by decide) tb_1200 dX10_dark_63 ?_
              refine lv_iload_n hx hb dX10_dark_66 rfl (lv_at hl 4 rfl) ?_
              refine m_iald (1023) hx hb hE hM (hJ.2 23 (by decide)).1 rfl (vp_in_iff.mpr (by omega)) dX10_dark_67 ?_
              refine lv_iload_n hx hb dX10_dark_68 rfl (lv_at hl 5 rfl) ?_
              refine lv_icmp_ge (tgt := 79) hx hb dX10_dark_69 (by decide) (fun c23 => ?_) (fun c23 => ?_)
              · have hc23 := c23
                have q23 := q_le hc23
                refine lv_iconst (v := (0)) hx hb dX10_dark_79 (by decide) ?_
                refine lv_ior hx hb dX10_dark_80 ?_
                refine lv_topi (fun v24 ev24 => ?_)
                refine lv_istore (lv' := [(4, .int (v24)), (5, .int (x5_40)), (0, .ref (ad (1000))), (1, .int (a0)), (2, .int (a1)), (3, .int (a2))]) hx hb dX10_dark_81 hl (by decide) rfl (fun ls hl => ?_)
                refine lv_aload_n hx hb dX10_dark_83 rfl (lv_at hl 2 rfl) ?_
                have pw25 : (I21 (1000) 24).toInt = (Ia40 (1000) 24 : Int32).toInt := congrArg Int32.toInt (((hkI21.get (1000) 24 rfl)).trans (show (u2 Ia40 (1001) 5 (x5_40)) (1000) 24 = Ia40 (1000) 24 from by simp [u2_v]))
                have pw26 : (I21 (1000) 25).toInt = (Ia40 (1000) 25 : Int32).toInt := congrArg Int32.toInt (((hkI21.get (1000) 25 rfl)).trans (show (u2 Ia40 (1001) 5 (x5_40)) (1000) 25 = Ia40 (1000) 25 from by simp [u2_v]))
                have pw27 : (I21 (1000) 26).toInt = (Ia40 (1000) 26 : Int32).toInt := congrArg Int32.toInt (((hkI21.get (1000) 26 rfl)).trans (show (u2 Ia40 (1001) 5 (x5_40)) (1000) 26 = Ia40 (1000) 26 from by simp [u2_v]))
                have pw28 : (I21 (1000) 27).toInt = (Ia40 (1000) 27 : Int32).toInt := congrArg Int32.toInt (((hkI21.get (1000) 27 rfl)).trans (show (u2 Ia40 (1001) 5 (x5_40)) (1000) 27 = Ia40 (1000) 27 from by simp [u2_v]))
                have pw29 : (I21 (1000) 29).toInt = (Ia40 (1000) 29 : Int32).toInt := congrArg Int32.toInt (((hkI21.get (1000) 29 rfl)).trans (show (u2 Ia40 (1001) 5 (x5_40)) (1000) 29 = Ia40 (1000) 29 from by simp [u2_v]))
                have pw30 : (I21 (1000) 31).toInt = (Ia40 (1000) 31 : Int32).toInt := congrArg Int32.toInt (((hkI21.get (1000) 31 rfl)).trans (show (u2 Ia40 (1001) 5 (x5_40)) (1000) 31 = Ia40 (1000) 31 from by simp [u2_v]))
                have pw31 : (I21 (1000) 32).toInt = (Ia40 (1000) 32 : Int32).toInt := congrArg Int32.toInt (((hkI21.get (1000) 32 rfl)).trans (show (u2 Ia40 (1001) 5 (x5_40)) (1000) 32 = Ia40 (1000) 32 from by simp [u2_v]))
                refine m_callv (m_runV (1000) (As := []) (rest := []) hx hb hml hown hts hE hM hS hA ce_X10_putsBack tb_1810 (V_X10_putsBack_m l D A ad ns I21 L22 G hJ hI) rfl rfl ⟨Nat.le_of_ble_eq_true rfl, Nat.le_of_ble_eq_true rfl⟩ hJ.1 rfl rfl (by decide) rfl hl.1 rfl (Nat.le_of_ble_eq_true rfl) dX10_dark_84 ⟨Nat.le_of_ble_eq_true rfl, Nat.le_of_ble_eq_true rfl⟩) hS (fun u H locs hw hM hS => ?_)
                obtain ⟨I32, L33, rfl, hI, hkI32, xI32⟩ := hw
                have hM : Mem D A ad ns I32 L33 G H := hM
                have hK := hK.trans hkI32 rfl
                have hmm : I32 1001 5 = I 1001 5 := (xI32).trans ((((hkI21.get (1000) 75 rfl)).trans (show (u2 Ia40 (1001) 5 (x5_40)) (1000) 75 = Ia40 (1000) 75 from by simp [u2_v])).trans hkm)
                obtain ⟨v34, ev34⟩ : ∃ z : Int32, z = x5_40 + Int32.ofInt (1) := ⟨_, rfl⟩
                have tv34 := a_inc ev34 (by decide) (by omega) (by omega)
                refine lv_iinc (v := v34) (lv' := [(5, .int (v34)), (4, .int (v24)), (0, .ref (ad (1000))), (1, .int (a0)), (2, .int (a1)), (3, .int (a2))]) hx hb dX10_dark_87 hl (k := 1) rfl ev34.symm (by decide) rfl (fun ls hl => ?_)
                refine lv_goto (tgt := 40) hx hb dX10_dark_90 (by decide) ?_
                exact ih40 (v34) (v24) I32 L33 _ _ ls hI hK (by first | omega | decide) (((((hkI32.get (1000) 75 rfl)).trans (hkI21.get (1000) 75 rfl)).trans (show (u2 Ia40 (1001) 5 (x5_40)) (1000) 75 = Ia40 (1000) 75 from by simp [u2_v])).trans hkm) hmm (by omega) hM hS (lv_sub hl [0, 1, 2, 3, 4, 5] rfl)
              · have hc23 := c23
                have q23 := q_nle hc23
                refine lv_iconst (v := (1)) hx hb dX10_dark_72 (by decide) ?_
                refine lv_iload hx hb dX10_dark_73 (lv_at hl 0 rfl) ?_
                refine lv_ishl hx hb dX10_dark_75 ?_
                refine lv_topi (fun v35 ev35 => ?_)
                refine lv_goto (tgt := 80) hx hb dX10_dark_76 (by decide) ?_
                refine lv_ior hx hb dX10_dark_80 ?_
                refine lv_topi (fun v36 ev36 => ?_)
                refine lv_istore (lv' := [(4, .int (v36)), (5, .int (x5_40)), (0, .ref (ad (1000))), (1, .int (a0)), (2, .int (a1)), (3, .int (a2))]) hx hb dX10_dark_81 hl (by decide) rfl (fun ls hl => ?_)
                refine lv_aload_n hx hb dX10_dark_83 rfl (lv_at hl 2 rfl) ?_
                have pw37 : (I21 (1000) 24).toInt = (Ia40 (1000) 24 : Int32).toInt := congrArg Int32.toInt (((hkI21.get (1000) 24 rfl)).trans (show (u2 Ia40 (1001) 5 (x5_40)) (1000) 24 = Ia40 (1000) 24 from by simp [u2_v]))
                have pw38 : (I21 (1000) 25).toInt = (Ia40 (1000) 25 : Int32).toInt := congrArg Int32.toInt (((hkI21.get (1000) 25 rfl)).trans (show (u2 Ia40 (1001) 5 (x5_40)) (1000) 25 = Ia40 (1000) 25 from by simp [u2_v]))
                have pw39 : (I21 (1000) 26).toInt = (Ia40 (1000) 26 : Int32).toInt := congrArg Int32.toInt (((hkI21.get (1000) 26 rfl)).trans (show (u2 Ia40 (1001) 5 (x5_40)) (1000) 26 = Ia40 (1000) 26 from by simp [u2_v]))
                have pw40 : (I21 (1000) 27).toInt = (Ia40 (1000) 27 : Int32).toInt := congrArg Int32.toInt (((hkI21.get (1000) 27 rfl)).trans (show (u2 Ia40 (1001) 5 (x5_40)) (1000) 27 = Ia40 (1000) 27 from by simp [u2_v]))
                have pw41 : (I21 (1000) 29).toInt = (Ia40 (1000) 29 : Int32).toInt := congrArg Int32.toInt (((hkI21.get (1000) 29 rfl)).trans (show (u2 Ia40 (1001) 5 (x5_40)) (1000) 29 = Ia40 (1000) 29 from by simp [u2_v]))
                have pw42 : (I21 (1000) 31).toInt = (Ia40 (1000) 31 : Int32).toInt := congrArg Int32.toInt (((hkI21.get (1000) 31 rfl)).trans (show (u2 Ia40 (1001) 5 (x5_40)) (1000) 31 = Ia40 (1000) 31 from by simp [u2_v]))
                have pw43 : (I21 (1000) 32).toInt = (Ia40 (1000) 32 : Int32).toInt := congrArg Int32.toInt (((hkI21.get (1000) 32 rfl)).trans (show (u2 Ia40 (1001) 5 (x5_40)) (1000) 32 = Ia40 (1000) 32 from by simp [u2_v]))
                refine m_callv (m_runV (1000) (As := []) (rest := []) hx hb hml hown hts hE hM hS hA ce_X10_putsBack tb_1810 (V_X10_putsBack_m l D A ad ns I21 L22 G hJ hI) rfl rfl ⟨Nat.le_of_ble_eq_true rfl, Nat.le_of_ble_eq_true rfl⟩ hJ.1 rfl rfl (by decide) rfl hl.1 rfl (Nat.le_of_ble_eq_true rfl) dX10_dark_84 ⟨Nat.le_of_ble_eq_true rfl, Nat.le_of_ble_eq_true rfl⟩) hS (fun u H locs hw hM hS => ?_)
                obtain ⟨I44, L45, rfl, hI, hkI44, xI44⟩ := hw
                have hM : Mem D A ad ns I44 L45 G H := hM
                have hK := hK.trans hkI44 rfl
                have hmm : I44 1001 5 = I 1001 5 := (xI44).trans ((((hkI21.get (1000) 75 rfl)).trans (show (u2 Ia40 (1001) 5 (x5_40)) (1000) 75 = Ia40 (1000) 75 from by simp [u2_v])).trans hkm)
                obtain ⟨v46, ev46⟩ : ∃ z : Int32, z = x5_40 + Int32.ofInt (1) := ⟨_, rfl⟩
                have tv46 := a_inc ev46 (by decide) (by omega) (by omega)
                refine lv_iinc (v := v46) (lv' := [(5, .int (v46)), (4, .int (v36)), (0, .ref (ad (1000))), (1, .int (a0)), (2, .int (a1)), (3, .int (a2))]) hx hb dX10_dark_87 hl (k := 1) rfl ev46.symm (by decide) rfl (fun ls hl => ?_)
                refine lv_goto (tgt := 40) hx hb dX10_dark_90 (by decide) ?_
                exact ih40 (v46) (v36) I44 L45 _ _ ls hI hK (by first | omega | decide) (((((hkI44.get (1000) 75 rfl)).trans (hkI21.get (1000) 75 rfl)).trans (show (u2 Ia40 (1001) 5 (x5_40)) (1000) 75 = Ia40 (1000) 75 from by simp [u2_v])).trans hkm) hmm (by omega) hM hS (lv_sub hl [0, 1, 2, 3, 4, 5] rfl)
        exact loop40 (_ + 1) (0) (0) I10 L11 _ _ ls hI hK (by first | omega | decide) (hkm) ((hkI10.get (1001) 5 rfl)) (Nat.lt_succ_self _) hM hS (lv_sub hl [0, 1, 2, 3, 4, 5] rfl)
      · have hc9 := c9
        have q9 := xr8.f hc9
        refine lv_iconst (v := (-1)) hx hb dX10_dark_28 (by decide) ?_
        exact m_iret hx hb hr hlocks hM hS (Nat.le_of_ble_eq_true rfl) (Nat.le_of_ble_eq_true rfl) ⟨_, _, rfl, hI, hK, rfl⟩ dX10_dark_29
theorem dX10_ahead_0 : decode cX10_ahead 0 = .ok (.aload_n 0, 1) := by decide +kernel
theorem dX10_ahead_1 : decode cX10_ahead 1 = .ok (.iload_n 1, 1) := by decide +kernel
theorem dX10_ahead_2 : decode cX10_ahead 2 = .ok (.invokevirtual 458, 3) := by decide +kernel
theorem dX10_ahead_5 : decode cX10_ahead 5 = .ok (.ifCond .eq 36, 3) := by decide +kernel
theorem dX10_ahead_8 : decode cX10_ahead 8 = .ok (.iload_n 2, 1) := by decide +kernel
theorem dX10_ahead_9 : decode cX10_ahead 9 = .ok (.i2l, 1) := by decide +kernel
theorem dX10_ahead_10 : decode cX10_ahead 10 = .ok (.lconst 1, 1) := by decide +kernel
theorem dX10_ahead_11 : decode cX10_ahead 11 = .ok (.ldc2_w 538, 3) := by decide +kernel
theorem dX10_ahead_14 : decode cX10_ahead 14 = .ok (.invokestatic 192, 3) := by decide +kernel
theorem dX10_ahead_17 : decode cX10_ahead 17 = .ok (.ifCond .eq 24, 3) := by decide +kernel
theorem dX10_ahead_20 : decode cX10_ahead 20 = .ok (.iload_n 3, 1) := by decide +kernel
theorem dX10_ahead_21 : decode cX10_ahead 21 = .ok (.i2l, 1) := by decide +kernel
theorem dX10_ahead_22 : decode cX10_ahead 22 = .ok (.ldc2_w 540, 3) := by decide +kernel
theorem dX10_ahead_25 : decode cX10_ahead 25 = .ok (.aload_n 0, 1) := by decide +kernel
theorem dX10_ahead_26 : decode cX10_ahead 26 = .ok (.getfield 7, 3) := by decide +kernel
theorem dX10_ahead_29 : decode cX10_ahead 29 = .ok (.bipush 9, 2) := by decide +kernel
theorem dX10_ahead_31 : decode cX10_ahead 31 = .ok (.iaload, 1) := by decide +kernel
theorem dX10_ahead_32 : decode cX10_ahead 32 = .ok (.iconst 1, 1) := by decide +kernel
theorem dX10_ahead_33 : decode cX10_ahead 33 = .ok (.isub, 1) := by decide +kernel
theorem dX10_ahead_34 : decode cX10_ahead 34 = .ok (.i2l, 1) := by decide +kernel
theorem dX10_ahead_35 : decode cX10_ahead 35 = .ok (.invokestatic 192, 3) := by decide +kernel
theorem dX10_ahead_38 : decode cX10_ahead 38 = .ok (.ifCond .ne 6, 3) := by decide +kernel
theorem dX10_ahead_41 : decode cX10_ahead 41 = .ok (.bipush (-3), 2) := by decide +kernel
theorem dX10_ahead_43 : decode cX10_ahead 43 = .ok (.ireturn, 1) := by decide +kernel
theorem dX10_ahead_44 : decode cX10_ahead 44 = .ok (.aload_n 0, 1) := by decide +kernel
theorem dX10_ahead_45 : decode cX10_ahead 45 = .ok (.invokevirtual 532, 3) := by decide +kernel
theorem dX10_ahead_48 : decode cX10_ahead 48 = .ok (.aload_n 0, 1) := by decide +kernel
theorem dX10_ahead_49 : decode cX10_ahead 49 = .ok (.iconst 0, 1) := by decide +kernel
theorem dX10_ahead_50 : decode cX10_ahead 50 = .ok (.putfield 452, 3) := by decide +kernel
theorem dX10_ahead_53 : decode cX10_ahead 53 = .ok (.iconst 0, 1) := by decide +kernel
theorem dX10_ahead_54 : decode cX10_ahead 54 = .ok (.istore 4, 2) := by decide +kernel
theorem dX10_ahead_56 : decode cX10_ahead 56 = .ok (.iload 4, 2) := by decide +kernel
theorem dX10_ahead_58 : decode cX10_ahead 58 = .ok (.iload_n 2, 1) := by decide +kernel
theorem dX10_ahead_59 : decode cX10_ahead 59 = .ok (.if_icmp .ge 14, 3) := by decide +kernel
theorem dX10_ahead_62 : decode cX10_ahead 62 = .ok (.aload_n 0, 1) := by decide +kernel
theorem dX10_ahead_63 : decode cX10_ahead 63 = .ok (.iload_n 1, 1) := by decide +kernel
theorem dX10_ahead_64 : decode cX10_ahead 64 = .ok (.invokevirtual 463, 3) := by decide +kernel
theorem dX10_ahead_67 : decode cX10_ahead 67 = .ok (.iinc 4 1, 3) := by decide +kernel
theorem dX10_ahead_70 : decode cX10_ahead 70 = .ok (.goto (-14), 3) := by decide +kernel
theorem dX10_ahead_73 : decode cX10_ahead 73 = .ok (.iload_n 3, 1) := by decide +kernel
theorem dX10_ahead_74 : decode cX10_ahead 74 = .ok (.bipush (-2), 2) := by decide +kernel
theorem dX10_ahead_76 : decode cX10_ahead 76 = .ok (.if_icmp .ne 10, 3) := by decide +kernel
theorem dX10_ahead_79 : decode cX10_ahead 79 = .ok (.aload_n 0, 1) := by decide +kernel
theorem dX10_ahead_80 : decode cX10_ahead 80 = .ok (.invokevirtual 466, 3) := by decide +kernel
theorem dX10_ahead_83 : decode cX10_ahead 83 = .ok (.goto 21, 3) := by decide +kernel
theorem dX10_ahead_86 : decode cX10_ahead 86 = .ok (.iload_n 3, 1) := by decide +kernel
theorem dX10_ahead_87 : decode cX10_ahead 87 = .ok (.iconst (-1), 1) := by decide +kernel
theorem dX10_ahead_88 : decode cX10_ahead 88 = .ok (.if_icmp .ne 10, 3) := by decide +kernel
theorem dX10_ahead_91 : decode cX10_ahead 91 = .ok (.aload_n 0, 1) := by decide +kernel
theorem dX10_ahead_92 : decode cX10_ahead 92 = .ok (.getfield 452, 3) := by decide +kernel
theorem dX10_ahead_95 : decode cX10_ahead 95 = .ok (.goto 9, 3) := by decide +kernel
theorem dX10_ahead_98 : decode cX10_ahead 98 = .ok (.aload_n 0, 1) := by decide +kernel
theorem dX10_ahead_99 : decode cX10_ahead 99 = .ok (.getfield 76, 3) := by decide +kernel
theorem dX10_ahead_102 : decode cX10_ahead 102 = .ok (.iload_n 3, 1) := by decide +kernel
theorem dX10_ahead_103 : decode cX10_ahead 103 = .ok (.iaload, 1) := by decide +kernel
theorem dX10_ahead_104 : decode cX10_ahead 104 = .ok (.istore 4, 2) := by decide +kernel
theorem dX10_ahead_106 : decode cX10_ahead 106 = .ok (.aload_n 0, 1) := by decide +kernel
theorem dX10_ahead_107 : decode cX10_ahead 107 = .ok (.invokevirtual 535, 3) := by decide +kernel
theorem dX10_ahead_110 : decode cX10_ahead 110 = .ok (.iload 4, 2) := by decide +kernel
theorem dX10_ahead_112 : decode cX10_ahead 112 = .ok (.ireturn, 1) := by decide +kernel
theorem ce_X10_ahead : CeV RX10 yX10_ahead cX10_ahead 5 (some .int) 3 := ⟨tb_1815, tb_1816, tb_11, tb_1817, rfl, by decide, by decide, by decide +kernel⟩
set_option maxHeartbeats 4000000 in
set_option maxRecDepth 20000 in
theorem V_X10_ahead (l : Launch) (D : va_G) (A : Nat → Prop) (ad : Nat → Nat) (ns : List Nat) (I : MI) (L : ML) (G : MG) (a0 : Int32) (a1 : Int32) (a2 : Int32) (hJ : SGM ns G) (hI : INV I) (hLM : LWM I) : Met l yX10_ahead (wd yX10_ahead cX10_ahead 5 (some .int)) ({ frames := 6, cells := 0, slots := 0, locals := 151 }) (va_Pc [.ref (ad (1000)), .int a0, .int a1, .int a2] (PM D A ad ns I L G)) (va_Qi (fun r u => ∃ I2 L2, u = (ad, ns, I2, L2, G) ∧ INV I2 ∧ Kp [(1009, 1010), (1014, 1015), (1023, 1024), (1045, 1051), (1058, 1059), (1061, 1063), (1064, 1065), (1067, 1068), (1069, 1071)] [(1000, 51), (1000, 52), (1000, 53), (1000, 54), (1000, 55), (1000, 56), (1000, 59), (1000, 63), (1000, 65), (1000, 74), (1000, 75), (1001, 5), (1001, 6)] I I2 ∧ (I2 1001 5 = I 1001 5)) (BM D A) A) 0 0 A := by
  refine m_ofW (by decide) (Nat.le_of_ble_eq_true rfl) ?_
  intro p e s m below meth c ls args hC hE hM hA hS hl
  obtain ⟨hx, hb, hml, hown, hts, hr, hlocks, hin⟩ := hC
  have km3 : (-3 : Int32).toInt = -3 := by decide
  have km2 : (-2 : Int32).toInt = -2 := by decide
  have km1 : (-1 : Int32).toInt = -1 := by decide
  have k0 : (0 : Int32).toInt = 0 := by decide
  have k1 : (1 : Int32).toInt = 1 := by decide
  have k9 : (9 : Int32).toInt = 9 := by decide
  have klm2 : (-2 : Int64).toInt = -2 := by decide
  have kl1 : (1 : Int64).toInt = 1 := by decide
  have kl10 : (10 : Int64).toInt = 10 := by decide
  have hK : Kp [(1009, 1010), (1014, 1015), (1023, 1024), (1045, 1051), (1058, 1059), (1061, 1063), (1064, 1065), (1067, 1068), (1069, 1071)] [(1000, 51), (1000, 52), (1000, 53), (1000, 54), (1000, 55), (1000, 56), (1000, 59), (1000, 63), (1000, 65), (1000, 74), (1000, 75), (1001, 5), (1001, 6)] I I := Kp.rf
  have hl : lv_has ls 5 [(0, .ref (ad (1000))), (1, .int (a0)), (2, .int (a1)), (3, .int (a2))] := hl
  refine lv_aload_n hx hb dX10_ahead_0 rfl (lv_at hl 0 rfl) ?_
  refine lv_iload_n hx hb dX10_ahead_1 rfl (lv_at hl 1 rfl) ?_
  refine m_calli (m_runV (1000) (As := [.int (a0)]) (rest := []) hx hb hml hown hts hE hM hS hA ce_X10_isLaw tb_1608 (V_X10_isLaw l D A ad ns I L G (a0) hJ hI) rfl rfl ⟨Nat.le_of_ble_eq_true rfl, Nat.le_of_ble_eq_true rfl⟩ hJ.1 rfl rfl (by decide) rfl hl.1 rfl (Nat.le_of_ble_eq_true rfl) dX10_ahead_2 ⟨Nat.le_of_ble_eq_true rfl, Nat.le_of_ble_eq_true rfl⟩) hS (fun r1 u H locs hw hM hS => ?_)
  obtain ⟨rfl, xr1⟩ := hw
  have hM : Mem D A ad ns I L G H := hM
  have yr1 := bo01 xr1
  have g2 := hI.get 1000 28 (lo := 0) (hi := 6) rfl
  refine lv_if_eq (tgt := 41) hx hb dX10_ahead_5 (by decide) (fun c3 => ?_) (fun c3 => ?_)
  · have hc3 := c3
    have q3 := xr1.f hc3
    refine lv_bipush (v := (-3)) hx hb dX10_ahead_41 (by decide) ?_
    exact m_iret hx hb hr hlocks hM hS (Nat.le_of_ble_eq_true rfl) (Nat.le_of_ble_eq_true rfl) ⟨_, _, rfl, hI, hK, rfl⟩ dX10_ahead_43
  · have hc3 := c3
    have q3 := xr1.t hc3
    refine lv_iload_n hx hb dX10_ahead_8 rfl (lv_at hl 2 rfl) ?_
    refine lv_i2l hx hb dX10_ahead_9 rfl ?_
    refine lv_topl (fun v4 ev4 => ?_)
    have tv4 := q_i2l ev4
    refine lv_lconst (v := 1) hx hb dX10_ahead_10 (by decide) ?_
    refine lv_ldc2 (v := (10)) hx hb hown (hts _ tb_1818) dX10_ahead_11 ?_
    refine m_calli (m_runS (As := [.long (v4), .long (1), .long ((10 : Int64))]) (rest := []) hx hb hml hown hts hE hM hS hA ce_X10_in tb_1425 (V_X10_in l D A ad ns I L G (v4) (1) ((10 : Int64)) hI) rfl rfl ⟨Nat.le_of_ble_eq_true rfl, Nat.le_of_ble_eq_true rfl⟩  rfl hl.1 rfl (Nat.le_of_ble_eq_true rfl) dX10_ahead_14 ⟨Nat.le_of_ble_eq_true rfl, Nat.le_of_ble_eq_true rfl⟩) hS (fun r5 u H locs hw hM hS => ?_)
    obtain ⟨rfl, xr5⟩ := hw
    have hM : Mem D A ad ns I L G H := hM
    have yr5 := bo01 xr5
    refine lv_if_eq (tgt := 41) hx hb dX10_ahead_17 (by decide) (fun c6 => ?_) (fun c6 => ?_)
    · have hc6 := c6
      have q6 := xr5.f hc6
      refine lv_bipush (v := (-3)) hx hb dX10_ahead_41 (by decide) ?_
      exact m_iret hx hb hr hlocks hM hS (Nat.le_of_ble_eq_true rfl) (Nat.le_of_ble_eq_true rfl) ⟨_, _, rfl, hI, hK, rfl⟩ dX10_ahead_43
    · have hc6 := c6
      have q6 := xr5.t hc6
      refine lv_iload_n hx hb dX10_ahead_20 rfl (lv_at hl 3 rfl) ?_
      refine lv_i2l hx hb dX10_ahead_21 rfl ?_
      refine lv_topl (fun v7 ev7 => ?_)
      have tv7 := q_i2l ev7
      refine lv_ldc2 (v := (-2)) hx hb hown (hts _ tb_1819) dX10_ahead_22 ?_
      refine lv_aload_n hx hb dX10_ahead_25 rfl (lv_at hl 0 rfl) ?_
      refine m_getr (1000) 1 (1001) hx hb hts hown hE oc10 hM hJ.1 rfl (by decide) rfl (hJ.2 1 (by decide)).2 (by decide) tb_1178 dX10_ahead_26 ?_
      refine lv_bipush (v := (9)) hx hb dX10_ahead_29 (by decide) ?_
      refine m_iald (1001) hx hb hE hM (hJ.2 1 (by decide)).1 rfl (vp_in_iff.mpr (by decide)) dX10_ahead_31 ?_
      rw [show (9 : Int32).toNatClampNeg = 9 from rfl]
      have g8 := hI.get (1001) 9 (lo := 0) (hi := 8) rfl
      refine lv_iconst (v := (1)) hx hb dX10_ahead_32 (by decide) ?_
      refine lv_isub hx hb dX10_ahead_33 ?_
      refine lv_topi (fun v9 ev9 => ?_)
      have tv9 := a_sub ev9 (by omega) (by omega)
      refine lv_i2l hx hb dX10_ahead_34 rfl ?_
      refine lv_topl (fun v10 ev10 => ?_)
      have tv10 := q_i2l ev10
      refine m_calli (m_runS (As := [.long (v7), .long ((-2 : Int64)), .long (v10)]) (rest := []) hx hb hml hown hts hE hM hS hA ce_X10_in tb_1425 (V_X10_in l D A ad ns I L G (v7) ((-2 : Int64)) (v10) hI) rfl rfl ⟨Nat.le_of_ble_eq_true rfl, Nat.le_of_ble_eq_true rfl⟩  rfl hl.1 rfl (Nat.le_of_ble_eq_true rfl) dX10_ahead_35 ⟨Nat.le_of_ble_eq_true rfl, Nat.le_of_ble_eq_true rfl⟩) hS (fun r11 u H locs hw hM hS => ?_)
      obtain ⟨rfl, xr11⟩ := hw
      have hM : Mem D A ad ns I L G H := hM
      have yr11 := bo01 xr11
      refine lv_if_ne (tgt := 44) hx hb dX10_ahead_38 (by decide) (fun c12 => ?_) (fun c12 => ?_)
      · have hc12 := c12
        have q12 := xr11.t hc12
        refine lv_aload_n hx hb dX10_ahead_44 rfl (lv_at hl 0 rfl) ?_
        refine m_callv (m_runV (1000) (As := []) (rest := []) hx hb hml hown hts hE hM hS hA ce_X10_keeps tb_1806 (V_X10_keeps_m l D A ad ns I L G hJ hI) rfl rfl ⟨Nat.le_of_ble_eq_true rfl, Nat.le_of_ble_eq_true rfl⟩ hJ.1 rfl rfl (by decide) rfl hl.1 rfl (Nat.le_of_ble_eq_true rfl) dX10_ahead_45 ⟨Nat.le_of_ble_eq_true rfl, Nat.le_of_ble_eq_true rfl⟩) hS (fun u H locs hw hM hS => ?_)
        obtain ⟨I13, L14, rfl, hI, hkI13, xI13⟩ := hw
        have hM : Mem D A ad ns I13 L14 G H := hM
        have hK := hK.trans hkI13 rfl
        have hkm : I13 1000 75 = I 1001 5 := xI13
        refine lv_aload_n hx hb dX10_ahead_48 rfl (lv_at hl 0 rfl) ?_
        refine lv_iconst (v := (0)) hx hb dX10_ahead_49 (by decide) ?_
        refine m_puti (1000) 65 hx hb hts hown hE oc10 hM hS hJ.1 rfl (by decide) rfl rfl rfl rfl tb_1242 dX10_ahead_50 (fun H locs I15 eI15 hM hS => ?_)
        subst eI15
        have hI := hI.putF (n := 1000) (k := 65) (v := 0) rfl
        have hK := hK.put (n := 1000) (k := 65) (v := 0) (by first | rfl | simp [inR])
        refine lv_iconst (v := (0)) hx hb dX10_ahead_53 (by decide) ?_
        refine lv_istore (lv' := [(4, .int (0)), (0, .ref (ad (1000))), (1, .int (a0)), (2, .int (a1)), (3, .int (a2))]) hx hb dX10_ahead_54 hl (by decide) rfl (fun ls hl => ?_)
        have loop56 : ∀ (n : Nat) (x4_56 : Int32) (Ia56 : MI) (La56 : ML) (H : Heap) (locs : List Loc) (ls : Array Slot), INV Ia56 → Kp [(1009, 1010), (1014, 1015), (1023, 1024), (1045, 1051), (1058, 1059), (1061, 1063), (1064, 1065), (1067, 1068), (1069, 1071)] [(1000, 51), (1000, 52), (1000, 53), (1000, 54), (1000, 55), (1000, 56), (1000, 59), (1000, 63), (1000, 65), (1000, 74), (1000, 75), (1001, 5), (1001, 6)] I Ia56 → (0 ≤ x4_56.toInt ∧ x4_56.toInt ≤ 10) → (Ia56 1000 75 = I 1001 5) → (10 - x4_56.toInt).toNat < n → Mem D A ad ns Ia56 La56 G H → va_S A s.heap H locs → lv_has ls 5 [(4, .int (x4_56)), (0, .ref (ad (1000))), (1, .int (a0)), (2, .int (a1)), (3, .int (a2))] → W p l e ({ frames := 6, cells := 0, slots := 0, locals := 151 } : Room) s m args below meth c H locs 0 0 (MQ below (va_Qi (fun r u => ∃ I2 L2, u = (ad, ns, I2, L2, G) ∧ INV I2 ∧ Kp [(1009, 1010), (1014, 1015), (1023, 1024), (1045, 1051), (1058, 1059), (1061, 1063), (1064, 1065), (1067, 1068), (1069, 1071)] [(1000, 51), (1000, 52), (1000, 53), (1000, 54), (1000, 55), (1000, 56), (1000, 59), (1000, 63), (1000, 65), (1000, 74), (1000, 75), (1001, 5), (1001, 6)] I I2 ∧ (I2 1001 5 = I 1001 5)) (BM D A) A) args s 0 0 A) (F0 m 56 ls []) := by
          intro n
          induction n with
          | zero =>
            intro x4_56 Ia56 La56 H locs ls hI hK hr4_56 hkm hmu
            exact absurd hmu (Nat.not_lt_zero _)
          | succ n ih56 =>
            intro x4_56 Ia56 La56 H locs ls hI hK hr4_56 hkm hmu56 hM hS hl
            refine lv_iload hx hb dX10_ahead_56 (lv_at hl 0 rfl) ?_
            refine lv_iload_n hx hb dX10_ahead_58 rfl (lv_at hl 3 rfl) ?_
            refine lv_icmp_ge (tgt := 73) hx hb dX10_ahead_59 (by decide) (fun c16 => ?_) (fun c16 => ?_)
            · have hc16 := c16
              have q16 := q_le hc16
              refine lv_iload_n hx hb dX10_ahead_73 rfl (lv_at hl 4 rfl) ?_
              refine lv_bipush (v := (-2)) hx hb dX10_ahead_74 (by decide) ?_
              refine lv_icmp_ne (tgt := 86) hx hb dX10_ahead_76 (by decide) (fun c17 => ?_) (fun c17 => ?_)
              · have hc17 := c17
                have q17 := q_ne hc17
                refine lv_iload_n hx hb dX10_ahead_86 rfl (lv_at hl 4 rfl) ?_
                refine lv_iconst (v := (-1)) hx hb dX10_ahead_87 (by decide) ?_
                refine lv_icmp_ne (tgt := 98) hx hb dX10_ahead_88 (by decide) (fun c18 => ?_) (fun c18 => ?_)
                · have hc18 := c18
                  have q18 := q_ne hc18
                  refine lv_aload_n hx hb dX10_ahead_98 rfl (lv_at hl 1 rfl) ?_
                  refine m_getr (1000) 23 (1023) hx hb hts hown hE oc10 hM hJ.1 rfl (by decide) rfl (hJ.2 23 (by decide)).2 (by decide) tb_1200 dX10_ahead_99 ?_
                  refine lv_iload_n hx hb dX10_ahead_102 rfl (lv_at hl 4 rfl) ?_
                  refine m_iald (1023) hx hb hE hM (hJ.2 23 (by decide)).1 rfl (vp_in_iff.mpr (by omega)) dX10_ahead_103 ?_
                  refine lv_istore (lv' := [(4, .int (Ia56 (1023) (a2).toNatClampNeg)), (0, .ref (ad (1000))), (1, .int (a0)), (2, .int (a1)), (3, .int (a2))]) hx hb dX10_ahead_104 hl (by decide) rfl (fun ls hl => ?_)
                  refine lv_aload_n hx hb dX10_ahead_106 rfl (lv_at hl 1 rfl) ?_
                  refine m_callv (m_runV (1000) (As := []) (rest := []) hx hb hml hown hts hE hM hS hA ce_X10_putsBack tb_1810 (V_X10_putsBack_m l D A ad ns Ia56 La56 G hJ hI) rfl rfl ⟨Nat.le_of_ble_eq_true rfl, Nat.le_of_ble_eq_true rfl⟩ hJ.1 rfl rfl (by decide) rfl hl.1 rfl (Nat.le_of_ble_eq_true rfl) dX10_ahead_107 ⟨Nat.le_of_ble_eq_true rfl, Nat.le_of_ble_eq_true rfl⟩) hS (fun u H locs hw hM hS => ?_)
                  obtain ⟨I19, L20, rfl, hI, hkI19, xI19⟩ := hw
                  have hM : Mem D A ad ns I19 L20 G H := hM
                  have hK := hK.trans hkI19 rfl
                  have hmm : I19 1001 5 = I 1001 5 := (xI19).trans (hkm)
                  refine lv_iload hx hb dX10_ahead_110 (lv_at hl 0 rfl) ?_
                  exact m_iret hx hb hr hlocks hM hS (Nat.le_of_ble_eq_true rfl) (Nat.le_of_ble_eq_true rfl) ⟨_, _, rfl, hI, hK, hmm⟩ dX10_ahead_112
                · have hc18 := c18
                  have q18 := q_eq hc18
                  refine lv_aload_n hx hb dX10_ahead_91 rfl (lv_at hl 1 rfl) ?_
                  refine m_geti (1000) 65 hx hb hts hown hE oc10 hM hJ.1 rfl (by decide) rfl tb_1242 dX10_ahead_92 ?_
                  refine lv_goto (tgt := 104) hx hb dX10_ahead_95 (by decide) ?_
                  refine lv_istore (lv' := [(4, .int (Ia56 (1000) 65)), (0, .ref (ad (1000))), (1, .int (a0)), (2, .int (a1)), (3, .int (a2))]) hx hb dX10_ahead_104 hl (by decide) rfl (fun ls hl => ?_)
                  refine lv_aload_n hx hb dX10_ahead_106 rfl (lv_at hl 1 rfl) ?_
                  refine m_callv (m_runV (1000) (As := []) (rest := []) hx hb hml hown hts hE hM hS hA ce_X10_putsBack tb_1810 (V_X10_putsBack_m l D A ad ns Ia56 La56 G hJ hI) rfl rfl ⟨Nat.le_of_ble_eq_true rfl, Nat.le_of_ble_eq_true rfl⟩ hJ.1 rfl rfl (by decide) rfl hl.1 rfl (Nat.le_of_ble_eq_true rfl) dX10_ahead_107 ⟨Nat.le_of_ble_eq_true rfl, Nat.le_of_ble_eq_true rfl⟩) hS (fun u H locs hw hM hS => ?_)
                  obtain ⟨I21, L22, rfl, hI, hkI21, xI21⟩ := hw
                  have hM : Mem D A ad ns I21 L22 G H := hM
                  have hK := hK.trans hkI21 rfl
                  have hmm : I21 1001 5 = I 1001 5 := (xI21).trans (hkm)
                  refine lv_iload hx hb dX10_ahead_110 (lv_at hl 0 rfl) ?_
                  exact m_iret hx hb hr hlocks hM hS (Nat.le_of_ble_eq_true rfl) (Nat.le_of_ble_eq_true rfl) ⟨_, _, rfl, hI, hK, hmm⟩ dX10_ahead_112
              · have hc17 := c17
                have q17 := q_eq hc17
                refine lv_aload_n hx hb dX10_ahead_79 rfl (lv_at hl 1 rfl) ?_
                refine m_calli (m_runV (1000) (As := []) (rest := []) hx hb hml hown hts hE hM hS hA ce_X10_met tb_1674 (V_X10_met l D A ad ns Ia56 La56 G hJ hI) rfl rfl ⟨Nat.le_of_ble_eq_true rfl, Nat.le_of_ble_eq_true rfl⟩ hJ.1 rfl rfl (by decide) rfl hl.1 rfl (Nat.le_of_ble_eq_true rfl) dX10_ahead_80 ⟨Nat.le_of_ble_eq_true rfl, Nat.le_of_ble_eq_true rfl⟩) hS (fun r23 u H locs hw hM hS => ?_)
                obtain ⟨rfl, xr23⟩ := hw
                have hM : Mem D A ad ns Ia56 La56 G H := hM
                refine lv_goto (tgt := 104) hx hb dX10_ahead_83 (by decide) ?_
                refine lv_istore (lv' := [(4, .int (r23)), (0, .ref (ad (1000))), (1, .int (a0)), (2, .int (a1)), (3, .int (a2))]) hx hb dX10_ahead_104 hl (by decide) rfl (fun ls hl => ?_)
                refine lv_aload_n hx hb dX10_ahead_106 rfl (lv_at hl 1 rfl) ?_
                refine m_callv (m_runV (1000) (As := []) (rest := []) hx hb hml hown hts hE hM hS hA ce_X10_putsBack tb_1810 (V_X10_putsBack_m l D A ad ns Ia56 La56 G hJ hI) rfl rfl ⟨Nat.le_of_ble_eq_true rfl, Nat.le_of_ble_eq_true rfl⟩ hJ.1 rfl rfl (by decide) rfl hl.1 rfl (Nat.le_of_ble_eq_true rfl) dX10_ahead_107 ⟨Nat.le_of_ble_eq_true rfl, Nat.le_of_ble_eq_true rfl⟩) hS (fun u H locs hw hM hS => ?_)
                obtain ⟨I24, L25, rfl, hI, hkI24, xI24⟩ := hw
                have hM : Mem D A ad ns I24 L25 G H := hM
                have hK := hK.trans hkI24 rfl
                have hmm : I24 1001 5 = I 1001 5 := (xI24).trans (hkm)
                refine lv_iload hx hb dX10_ahead_110 (lv_at hl 0 rfl) ?_
                exact m_iret hx hb hr hlocks hM hS (Nat.le_of_ble_eq_true rfl) (Nat.le_of_ble_eq_true rfl) ⟨_, _, rfl, hI, hK, hmm⟩ dX10_ahead_112
            · have hc16 := c16
              have q16 := q_nle hc16
              refine lv_aload_n hx hb dX10_ahead_62 rfl (lv_at hl 1 rfl) ?_
              refine lv_iload_n hx hb dX10_ahead_63 rfl (lv_at hl 2 rfl) ?_
              refine m_callv (m_runV (1000) (As := [.int (a0)]) (rest := []) hx hb hml hown hts hE hM hS hA ce_X10_goesDay tb_1613 (V_X10_goesDay l D A ad ns Ia56 La56 G (a0) hJ hI ((hLM (a0).toNatClampNeg (by have ta := tn (i := a0) (by omega); omega)).kp hK rfl) (by first | omega | decide)) rfl rfl ⟨Nat.le_of_ble_eq_true rfl, Nat.le_of_ble_eq_true rfl⟩ hJ.1 rfl rfl (by decide) rfl hl.1 rfl (Nat.le_of_ble_eq_true rfl) dX10_ahead_64 ⟨Nat.le_of_ble_eq_true rfl, Nat.le_of_ble_eq_true rfl⟩) hS (fun u H locs hw hM hS => ?_)
              obtain ⟨I26, L27, rfl, hI, hkI26⟩ := hw
              have hM : Mem D A ad ns I26 L27 G H := hM
              have hK := hK.trans hkI26 rfl
              obtain ⟨v28, ev28⟩ : ∃ z : Int32, z = x4_56 + Int32.ofInt (1) := ⟨_, rfl⟩
              have tv28 := a_inc ev28 (by decide) (by omega) (by omega)
              refine lv_iinc (v := v28) (lv' := [(4, .int (v28)), (0, .ref (ad (1000))), (1, .int (a0)), (2, .int (a1)), (3, .int (a2))]) hx hb dX10_ahead_67 hl (k := 0) rfl ev28.symm (by decide) rfl (fun ls hl => ?_)
              refine lv_goto (tgt := 56) hx hb dX10_ahead_70 (by decide) ?_
              exact ih56 (v28) I26 L27 _ _ ls hI hK (by first | omega | decide) (((hkI26.get (1000) 75 rfl)).trans hkm) (by omega) hM hS (lv_sub hl [0, 1, 2, 3, 4] rfl)
        exact loop56 (_ + 1) (0) (u2 I13 (1000) 65 (0)) L14 _ _ ls hI hK (by first | omega | decide) (((show (u2 I13 (1000) 65 (0)) (1000) 75 = I13 (1000) 75 from by simp [u2_v])).trans hkm) (Nat.lt_succ_self _) hM hS (lv_sub hl [0, 1, 2, 3, 4] rfl)
      · have hc12 := c12
        have q12 := xr11.f hc12
        refine lv_bipush (v := (-3)) hx hb dX10_ahead_41 (by decide) ?_
        exact m_iret hx hb hr hlocks hM hS (Nat.le_of_ble_eq_true rfl) (Nat.le_of_ble_eq_true rfl) ⟨_, _, rfl, hI, hK, rfl⟩ dX10_ahead_43
